
set_option maxHeartbeats 400000 in
theorem sk_X10_read (t0 : Nat) {S : kS} (hI : INJ S) (h : (0 ≤ (S.1 40 t0).toInt ∧ (S.1 40 t0).toInt ≤ 4001 ∧ ar S 64 t0 4001 = 4 ∧ (∀ i, 0 ≤ (ar S 65 t0 i).toInt ∧ (ar S 65 t0 i).toInt ≤ 4000))) (hs : 0 ≤ (S.1 41 t0).toInt ∧ (S.1 41 t0).toInt ≤ 4000) : wT_X10_read t0 S (fun S1 => 1 ≤ (S1.1 40 t0).toInt ∧ (S1.1 40 t0).toInt ≤ 4001 ∧ ar S1 64 t0 4001 = 4 ∧ ar S1 64 t0 ((S1.1 40 t0).toInt - 1).toNat = 0 ∧ (∀ i, 0 ≤ (ar S1 65 t0 i).toInt ∧ (ar S1 65 t0 i).toInt ≤ 4000) ∧ S1.1 41 t0 = 0) := by
  have nS : FX [] S S := FX_rf
  unfold wT_X10_read
  intro S1 eS1
  have nS1 : FX [] S S1 := FX_i eS1 nS
  refine it_rule (fun u : Nat × Int32 × Int32 × kS => (FX [] S u.2.2.2) ∧ (t0 = u.1 ∧ (0 ≤ (u.2.2.2.1 40 t0).toInt ∧ (u.2.2.2.1 40 t0).toInt ≤ 4001 ∧ ar u.2.2.2 64 t0 4001 = 4 ∧ (∀ i, 0 ≤ (ar u.2.2.2 65 t0 i).toInt ∧ (ar u.2.2.2 65 t0 i).toInt ≤ 4000)) ∧ u.2.2.2.1 41 t0 = S.1 41 t0 ∧ 0 ≤ u.2.1.toInt ∧ u.2.1.toInt ≤ (S.1 41 t0).toInt ∧ 0 ≤ u.2.2.1.toInt ∧ u.2.2.1.toInt ≤ 4000 ∧ (u.2.2.2.1 40 t0).toInt ≤ u.2.2.1.toInt)) (fun u => (4000 - u.2.2.1.toInt).toNat) ?_ (by (try clear hk9); grind [kx_int, k_ii, k_ir, k_ri, k_rr, k_ai, k_ar, k_li, k_lr, k_qi, k_qr, ar_ci, ar_cl, ar_cq, la_ci, la_ca, la_cq, qa_ci, qa_ca, qa_cl, tk_link, kn4000])
  rintro ⟨x0, x1, x2, Sl9⟩ k9 hI9 hk9
  replace hI9 : (FX [] S Sl9) ∧ (t0 = x0 ∧ (0 ≤ (Sl9.1 40 t0).toInt ∧ (Sl9.1 40 t0).toInt ≤ 4001 ∧ ar Sl9 64 t0 4001 = 4 ∧ (∀ i, 0 ≤ (ar Sl9 65 t0 i).toInt ∧ (ar Sl9 65 t0 i).toInt ≤ 4000)) ∧ Sl9.1 41 t0 = S.1 41 t0 ∧ 0 ≤ x1.toInt ∧ x1.toInt ≤ (S.1 41 t0).toInt ∧ 0 ≤ x2.toInt ∧ x2.toInt ≤ 4000 ∧ (Sl9.1 40 t0).toInt ≤ x2.toInt) := hI9
  obtain ⟨nSl9, hI9⟩ := hI9
  replace hk9 : ∀ v : Nat × Int32 × Int32 × kS, (FX [] S v.2.2.2) ∧ (t0 = v.1 ∧ (0 ≤ (v.2.2.2.1 40 t0).toInt ∧ (v.2.2.2.1 40 t0).toInt ≤ 4001 ∧ ar v.2.2.2 64 t0 4001 = 4 ∧ (∀ i, 0 ≤ (ar v.2.2.2 65 t0 i).toInt ∧ (ar v.2.2.2 65 t0 i).toInt ≤ 4000)) ∧ v.2.2.2.1 41 t0 = S.1 41 t0 ∧ 0 ≤ v.2.1.toInt ∧ v.2.1.toInt ≤ (S.1 41 t0).toInt ∧ 0 ≤ v.2.2.1.toInt ∧ v.2.2.1.toInt ≤ 4000 ∧ (v.2.2.2.1 40 t0).toInt ≤ v.2.2.1.toInt) → (4000 - v.2.2.1.toInt).toNat < (4000 - x2.toInt).toNat → k9 v := hk9
  show wT_X10_read_9 _ k9 x0 x1 x2 Sl9
  unfold wT_X10_read_9
  obtain ⟨rfl, hI9⟩ := hI9
  refine ⟨fun c1 => ?_, fun c1 => ?_⟩
  · unfold wT_X10_read_104
    intro z21 ez21
    refine kmT_X10_keep _ _ _ _ _ _ _ (fun S22 hF2 pS22 => ?_) (sk_X10_keep _ _ _ _ (INJ_x nSl9 (by decide) hI) (by (try clear hk9); grind [kx_int, k_ii, k_ir, k_ri, k_rr, k_ai, k_ar, k_li, k_lr, k_qi, k_qr, ar_ci, ar_cl, ar_cq, la_ci, la_ca, la_cq, qa_ci, qa_ca, qa_cl, tk_link, kn4000]) (by (try clear hk9); grind [kx_int, k_ii, k_ir, k_ri, k_rr, k_ai, k_ar, k_li, k_lr, k_qi, k_qr, ar_ci, ar_cl, ar_cq, la_ci, la_ca, la_cq, qa_ci, qa_ca, qa_cl, tk_link, kn4000]))
    have nS22 : FX [] S S22 := FX_k hF2 (by decide) nSl9
    have z41_S22 : ∀ o, S22.1 41 o = Sl9.1 41 o := fun o => congrFun (hF2.1 41 (by decide)) o
    clear hF2
    have k22 : ix (Sl9.1 40 t0) = ((S22.1 40 t0).toInt - 1).toNat := by unfold ix; have h1 := pS22.1 (by (try clear hk9); grind [kx_int, k_ii, k_ir, k_ri, k_rr, k_ai, k_ar, k_li, k_lr, k_qi, k_qr, ar_ci, ar_cl, ar_cq, la_ci, la_ca, la_cq, qa_ci, qa_ca, qa_cl, tk_link, kn4000]); omega
    intro S23 eS23
    have nS23 : FX [] S S23 := FX_i eS23 nS22
    exact by (try clear hk9); grind [kx_int, k_ii, k_ir, k_ri, k_rr, k_ai, k_ar, k_li, k_lr, k_qi, k_qr, ar_ci, ar_cl, ar_cq, la_ci, la_ca, la_cq, qa_ci, qa_ca, qa_cl, tk_link, kn4000]
  · intro z3 ez3
    refine ⟨fun c3 => ?_, fun c3 => ?_⟩
    · unfold wT_X10_read_104
      intro z21 ez21
      refine kmT_X10_keep _ _ _ _ _ _ _ (fun S22 hF4 pS22 => ?_) (sk_X10_keep _ _ _ _ (INJ_x nSl9 (by decide) hI) (by (try clear hk9); grind [kx_int, k_ii, k_ir, k_ri, k_rr, k_ai, k_ar, k_li, k_lr, k_qi, k_qr, ar_ci, ar_cl, ar_cq, la_ci, la_ca, la_cq, qa_ci, qa_ca, qa_cl, tk_link, kn4000]) (by (try clear hk9); grind [kx_int, k_ii, k_ir, k_ri, k_rr, k_ai, k_ar, k_li, k_lr, k_qi, k_qr, ar_ci, ar_cl, ar_cq, la_ci, la_ca, la_cq, qa_ci, qa_ca, qa_cl, tk_link, kn4000]))
      have nS22 : FX [] S S22 := FX_k hF4 (by decide) nSl9
      have z41_S22 : ∀ o, S22.1 41 o = Sl9.1 41 o := fun o => congrFun (hF4.1 41 (by decide)) o
      clear hF4
      have k22 : ix (Sl9.1 40 t0) = ((S22.1 40 t0).toInt - 1).toNat := by unfold ix; have h1 := pS22.1 (by (try clear hk9); grind [kx_int, k_ii, k_ir, k_ri, k_rr, k_ai, k_ar, k_li, k_lr, k_qi, k_qr, ar_ci, ar_cl, ar_cq, la_ci, la_ca, la_cq, qa_ci, qa_ca, qa_cl, tk_link, kn4000]); omega
      intro S23 eS23
      have nS23 : FX [] S S23 := FX_i eS23 nS22
      exact by (try clear hk9); grind [kx_int, k_ii, k_ir, k_ri, k_rr, k_ai, k_ar, k_li, k_lr, k_qi, k_qr, ar_ci, ar_cl, ar_cq, la_ci, la_ca, la_cq, qa_ci, qa_ca, qa_cl, tk_link, kn4000]
    · intro z5 ez5
      intro q6 eq6
      have wq6 := rd_w nSl9 (by decide) ez5 eq6
      refine ⟨by (try clear hk9); grind [kx_int, k_ii, k_ir, k_ri, k_rr, k_ai, k_ar, k_li, k_lr, k_qi, k_qr, ar_ci, ar_cl, ar_cq, la_ci, la_ca, la_cq, qa_ci, qa_ca, qa_cl, tk_link, kn4000], ?_⟩
      intro z7 ez7
      replace ez7 := ez7.trans (ar_rd nSl9 (by decide) (by decide) wq6)
      refine kmT_X10_isLetter _ _ _ _ (fun S8 r8 hF5 pS8 => ?_) (sk_X10_isLetter _ (INJ_x nSl9 (by decide) hI) )
      obtain ⟨rfl, pS8⟩ := pS8
      clear hF5
      refine ⟨fun c6 => ?_, fun c6 => ?_⟩
      · refine kmT_X10_isDigit _ _ _ _ (fun S10 r10 hF7 pS10 => ?_) (sk_X10_isDigit _ (INJ_x nSl9 (by decide) hI) )
        obtain ⟨rfl, pS10⟩ := pS10
        clear hF7
        refine ⟨fun c8 => ?_, fun c8 => ?_⟩
        · refine ⟨fun c9 => ?_, fun c9 => ?_⟩
          · unfold wT_X10_read_95
            intro z20 ez20
            have hrz20 : -2147483648 ≤ x1.toInt + 1 ∧ x1.toInt + 1 < 2147483648 := by (try clear hk9); grind [kx_int, k_ii, k_ir, k_ri, k_rr, k_ai, k_ar, k_li, k_lr, k_qi, k_qr, ar_ci, ar_cl, ar_cq, la_ci, la_ca, la_cq, qa_ci, qa_ca, qa_cl, tk_link, kn4000]
            replace ez20 : z20.toInt = x1.toInt + 1 := w_add ez20 hrz20
            clear hrz20
            unfold wT_X10_read_98
            intro z18 ez18
            have hrz18 : -2147483648 ≤ x2.toInt + 1 ∧ x2.toInt + 1 < 2147483648 := by (try clear hk9); grind [kx_int, k_ii, k_ir, k_ri, k_rr, k_ai, k_ar, k_li, k_lr, k_qi, k_qr, ar_ci, ar_cl, ar_cq, la_ci, la_ca, la_cq, qa_ci, qa_ca, qa_cl, tk_link, kn4000]
            replace ez18 : z18.toInt = x2.toInt + 1 := w_add ez18 hrz18
            clear hrz18
            exact hk9 _ (by (try clear hk9); grind [kx_int, k_ii, k_ir, k_ri, k_rr, k_ai, k_ar, k_li, k_lr, k_qi, k_qr, ar_ci, ar_cl, ar_cq, la_ci, la_ca, la_cq, qa_ci, qa_ca, qa_cl, tk_link, kn4000]) (by (try clear hk9); grind [kx_int, k_ii, k_ir, k_ri, k_rr, k_ai, k_ar, k_li, k_lr, k_qi, k_qr, ar_ci, ar_cl, ar_cq, la_ci, la_ca, la_cq, qa_ci, qa_ca, qa_cl, tk_link, kn4000])
          · refine ⟨fun c10 => ?_, fun c10 => ?_⟩
            · unfold wT_X10_read_95
              intro z20 ez20
              have hrz20 : -2147483648 ≤ x1.toInt + 1 ∧ x1.toInt + 1 < 2147483648 := by (try clear hk9); grind [kx_int, k_ii, k_ir, k_ri, k_rr, k_ai, k_ar, k_li, k_lr, k_qi, k_qr, ar_ci, ar_cl, ar_cq, la_ci, la_ca, la_cq, qa_ci, qa_ca, qa_cl, tk_link, kn4000]
              replace ez20 : z20.toInt = x1.toInt + 1 := w_add ez20 hrz20
              clear hrz20
              unfold wT_X10_read_98
              intro z18 ez18
              have hrz18 : -2147483648 ≤ x2.toInt + 1 ∧ x2.toInt + 1 < 2147483648 := by (try clear hk9); grind [kx_int, k_ii, k_ir, k_ri, k_rr, k_ai, k_ar, k_li, k_lr, k_qi, k_qr, ar_ci, ar_cl, ar_cq, la_ci, la_ca, la_cq, qa_ci, qa_ca, qa_cl, tk_link, kn4000]
              replace ez18 : z18.toInt = x2.toInt + 1 := w_add ez18 hrz18
              clear hrz18
              exact hk9 _ (by (try clear hk9); grind [kx_int, k_ii, k_ir, k_ri, k_rr, k_ai, k_ar, k_li, k_lr, k_qi, k_qr, ar_ci, ar_cl, ar_cq, la_ci, la_ca, la_cq, qa_ci, qa_ca, qa_cl, tk_link, kn4000]) (by (try clear hk9); grind [kx_int, k_ii, k_ir, k_ri, k_rr, k_ai, k_ar, k_li, k_lr, k_qi, k_qr, ar_ci, ar_cl, ar_cq, la_ci, la_ca, la_cq, qa_ci, qa_ca, qa_cl, tk_link, kn4000])
            · intro r14
              refine ⟨fun c11 => ?_, fun c11 => ?_⟩
              · unfold wT_X10_read_90
                refine kmT_X10_keep _ _ _ _ _ _ _ (fun S19 hF12 pS19 => ?_) (sk_X10_keep _ _ _ _ (INJ_x nSl9 (by decide) hI) (by (try clear hk9); grind [kx_int, k_ii, k_ir, k_ri, k_rr, k_ai, k_ar, k_li, k_lr, k_qi, k_qr, ar_ci, ar_cl, ar_cq, la_ci, la_ca, la_cq, qa_ci, qa_ca, qa_cl, tk_link, kn4000]) (by (try clear hk9); grind [kx_int, k_ii, k_ir, k_ri, k_rr, k_ai, k_ar, k_li, k_lr, k_qi, k_qr, ar_ci, ar_cl, ar_cq, la_ci, la_ca, la_cq, qa_ci, qa_ca, qa_cl, tk_link, kn4000]))
                have nS19 : FX [] S S19 := FX_k hF12 (by decide) nSl9
                have z41_S19 : ∀ o, S19.1 41 o = Sl9.1 41 o := fun o => congrFun (hF12.1 41 (by decide)) o
                clear hF12
                unfold wT_X10_read_95
                intro z20 ez20
                have hrz20 : -2147483648 ≤ x1.toInt + 1 ∧ x1.toInt + 1 < 2147483648 := by (try clear hk9); grind [kx_int, k_ii, k_ir, k_ri, k_rr, k_ai, k_ar, k_li, k_lr, k_qi, k_qr, ar_ci, ar_cl, ar_cq, la_ci, la_ca, la_cq, qa_ci, qa_ca, qa_cl, tk_link, kn4000]
                replace ez20 : z20.toInt = x1.toInt + 1 := w_add ez20 hrz20
                clear hrz20
                unfold wT_X10_read_98
                intro z18 ez18
                have hrz18 : -2147483648 ≤ x2.toInt + 1 ∧ x2.toInt + 1 < 2147483648 := by (try clear hk9); grind [kx_int, k_ii, k_ir, k_ri, k_rr, k_ai, k_ar, k_li, k_lr, k_qi, k_qr, ar_ci, ar_cl, ar_cq, la_ci, la_ca, la_cq, qa_ci, qa_ca, qa_cl, tk_link, kn4000]
                replace ez18 : z18.toInt = x2.toInt + 1 := w_add ez18 hrz18
                clear hrz18
                exact hk9 _ (by (try clear hk9); grind [kx_int, k_ii, k_ir, k_ri, k_rr, k_ai, k_ar, k_li, k_lr, k_qi, k_qr, ar_ci, ar_cl, ar_cq, la_ci, la_ca, la_cq, qa_ci, qa_ca, qa_cl, tk_link, kn4000]) (by (try clear hk9); grind [kx_int, k_ii, k_ir, k_ri, k_rr, k_ai, k_ar, k_li, k_lr, k_qi, k_qr, ar_ci, ar_cl, ar_cq, la_ci, la_ca, la_cq, qa_ci, qa_ca, qa_cl, tk_link, kn4000])
              · unfold wT_X10_read_90
                refine kmT_X10_keep _ _ _ _ _ _ _ (fun S19 hF13 pS19 => ?_) (sk_X10_keep _ _ _ _ (INJ_x nSl9 (by decide) hI) (by (try clear hk9); grind [kx_int, k_ii, k_ir, k_ri, k_rr, k_ai, k_ar, k_li, k_lr, k_qi, k_qr, ar_ci, ar_cl, ar_cq, la_ci, la_ca, la_cq, qa_ci, qa_ca, qa_cl, tk_link, kn4000]) (by (try clear hk9); grind [kx_int, k_ii, k_ir, k_ri, k_rr, k_ai, k_ar, k_li, k_lr, k_qi, k_qr, ar_ci, ar_cl, ar_cq, la_ci, la_ca, la_cq, qa_ci, qa_ca, qa_cl, tk_link, kn4000]))
                have nS19 : FX [] S S19 := FX_k hF13 (by decide) nSl9
                have z41_S19 : ∀ o, S19.1 41 o = Sl9.1 41 o := fun o => congrFun (hF13.1 41 (by decide)) o
                clear hF13
                unfold wT_X10_read_95
                intro z20 ez20
                have hrz20 : -2147483648 ≤ x1.toInt + 1 ∧ x1.toInt + 1 < 2147483648 := by (try clear hk9); grind [kx_int, k_ii, k_ir, k_ri, k_rr, k_ai, k_ar, k_li, k_lr, k_qi, k_qr, ar_ci, ar_cl, ar_cq, la_ci, la_ca, la_cq, qa_ci, qa_ca, qa_cl, tk_link, kn4000]
                replace ez20 : z20.toInt = x1.toInt + 1 := w_add ez20 hrz20
                clear hrz20
                unfold wT_X10_read_98
                intro z18 ez18
                have hrz18 : -2147483648 ≤ x2.toInt + 1 ∧ x2.toInt + 1 < 2147483648 := by (try clear hk9); grind [kx_int, k_ii, k_ir, k_ri, k_rr, k_ai, k_ar, k_li, k_lr, k_qi, k_qr, ar_ci, ar_cl, ar_cq, la_ci, la_ca, la_cq, qa_ci, qa_ca, qa_cl, tk_link, kn4000]
                replace ez18 : z18.toInt = x2.toInt + 1 := w_add ez18 hrz18
                clear hrz18
                exact hk9 _ (by (try clear hk9); grind [kx_int, k_ii, k_ir, k_ri, k_rr, k_ai, k_ar, k_li, k_lr, k_qi, k_qr, ar_ci, ar_cl, ar_cq, la_ci, la_ca, la_cq, qa_ci, qa_ca, qa_cl, tk_link, kn4000]) (by (try clear hk9); grind [kx_int, k_ii, k_ir, k_ri, k_rr, k_ai, k_ar, k_li, k_lr, k_qi, k_qr, ar_ci, ar_cl, ar_cq, la_ci, la_ca, la_cq, qa_ci, qa_ca, qa_cl, tk_link, kn4000])
        · refine kmT_X10_readNumber _ _ _ _ _ (fun S16 r16 hF14 pS16 => ?_) (sk_X10_readNumber _ _ (INJ_x nSl9 (by decide) hI) (by (try clear hk9); grind [kx_int, k_ii, k_ir, k_ri, k_rr, k_ai, k_ar, k_li, k_lr, k_qi, k_qr, ar_ci, ar_cl, ar_cq, la_ci, la_ca, la_cq, qa_ci, qa_ca, qa_cl, tk_link, kn4000]) (by (try clear hk9); grind [kx_int, k_ii, k_ir, k_ri, k_rr, k_ai, k_ar, k_li, k_lr, k_qi, k_qr, ar_ci, ar_cl, ar_cq, la_ci, la_ca, la_cq, qa_ci, qa_ca, qa_cl, tk_link, kn4000]) (by (try clear hk9); grind [kx_int, k_ii, k_ir, k_ri, k_rr, k_ai, k_ar, k_li, k_lr, k_qi, k_qr, ar_ci, ar_cl, ar_cq, la_ci, la_ca, la_cq, qa_ci, qa_ca, qa_cl, tk_link, kn4000]))
          have nS16 : FX [] S S16 := FX_k hF14 (by decide) nSl9
          have z41_S16 : ∀ o, S16.1 41 o = Sl9.1 41 o := fun o => congrFun (hF14.1 41 (by decide)) o
          clear hF14
          unfold wT_X10_read_98
          intro z18 ez18
          have hrz18 : -2147483648 ≤ x2.toInt + 1 ∧ x2.toInt + 1 < 2147483648 := by (try clear hk9); grind [kx_int, k_ii, k_ir, k_ri, k_rr, k_ai, k_ar, k_li, k_lr, k_qi, k_qr, ar_ci, ar_cl, ar_cq, la_ci, la_ca, la_cq, qa_ci, qa_ca, qa_cl, tk_link, kn4000]
          replace ez18 : z18.toInt = x2.toInt + 1 := w_add ez18 hrz18
          clear hrz18
          exact hk9 _ (by (try clear hk9); grind [kx_int, k_ii, k_ir, k_ri, k_rr, k_ai, k_ar, k_li, k_lr, k_qi, k_qr, ar_ci, ar_cl, ar_cq, la_ci, la_ca, la_cq, qa_ci, qa_ca, qa_cl, tk_link, kn4000]) (by (try clear hk9); grind [kx_int, k_ii, k_ir, k_ri, k_rr, k_ai, k_ar, k_li, k_lr, k_qi, k_qr, ar_ci, ar_cl, ar_cq, la_ci, la_ca, la_cq, qa_ci, qa_ca, qa_cl, tk_link, kn4000])
      · refine kmT_X10_readWord _ _ _ _ _ (fun S17 r17 hF15 pS17 => ?_) (sk_X10_readWord _ _ (INJ_x nSl9 (by decide) hI) (by (try clear hk9); grind [kx_int, k_ii, k_ir, k_ri, k_rr, k_ai, k_ar, k_li, k_lr, k_qi, k_qr, ar_ci, ar_cl, ar_cq, la_ci, la_ca, la_cq, qa_ci, qa_ca, qa_cl, tk_link, kn4000]) (by (try clear hk9); grind [kx_int, k_ii, k_ir, k_ri, k_rr, k_ai, k_ar, k_li, k_lr, k_qi, k_qr, ar_ci, ar_cl, ar_cq, la_ci, la_ca, la_cq, qa_ci, qa_ca, qa_cl, tk_link, kn4000]) (by (try clear hk9); grind [kx_int, k_ii, k_ir, k_ri, k_rr, k_ai, k_ar, k_li, k_lr, k_qi, k_qr, ar_ci, ar_cl, ar_cq, la_ci, la_ca, la_cq, qa_ci, qa_ca, qa_cl, tk_link, kn4000]))
        have nS17 : FX [] S S17 := FX_k hF15 (by decide) nSl9
        have z41_S17 : ∀ o, S17.1 41 o = Sl9.1 41 o := fun o => congrFun (hF15.1 41 (by decide)) o
        clear hF15
        unfold wT_X10_read_98
        intro z18 ez18
        have hrz18 : -2147483648 ≤ x2.toInt + 1 ∧ x2.toInt + 1 < 2147483648 := by (try clear hk9); grind [kx_int, k_ii, k_ir, k_ri, k_rr, k_ai, k_ar, k_li, k_lr, k_qi, k_qr, ar_ci, ar_cl, ar_cq, la_ci, la_ca, la_cq, qa_ci, qa_ca, qa_cl, tk_link, kn4000]
        replace ez18 : z18.toInt = x2.toInt + 1 := w_add ez18 hrz18
        clear hrz18
        exact hk9 _ (by (try clear hk9); grind [kx_int, k_ii, k_ir, k_ri, k_rr, k_ai, k_ar, k_li, k_lr, k_qi, k_qr, ar_ci, ar_cl, ar_cq, la_ci, la_ca, la_cq, qa_ci, qa_ca, qa_cl, tk_link, kn4000]) (by (try clear hk9); grind [kx_int, k_ii, k_ir, k_ri, k_rr, k_ai, k_ar, k_li, k_lr, k_qi, k_qr, ar_ci, ar_cl, ar_cq, la_ci, la_ca, la_cq, qa_ci, qa_ca, qa_cl, tk_link, kn4000])
