
set_option maxHeartbeats 400000 in
theorem sk_X10_readWord (t0 : Nat) (a0 : Int32) {S : kS} (hI : INJ S) (h : (0 ≤ (S.1 40 t0).toInt ∧ (S.1 40 t0).toInt ≤ 4001 ∧ ar S 64 t0 4001 = 4 ∧ (∀ i, 0 ≤ (ar S 65 t0 i).toInt ∧ (ar S 65 t0 i).toInt ≤ 4000))) (hs : 0 ≤ (S.1 41 t0).toInt ∧ (S.1 41 t0).toInt ≤ 4000) (ha : 0 ≤ a0.toInt ∧ a0.toInt ≤ (S.1 41 t0).toInt) : wT_X10_readWord t0 a0 S (fun S1 r => (S.1 40 t0).toInt ≤ (S1.1 40 t0).toInt ∧ (S1.1 40 t0).toInt ≤ (S.1 40 t0).toInt + 1 ∧ (0 ≤ (S1.1 40 t0).toInt ∧ (S1.1 40 t0).toInt ≤ 4001 ∧ ar S1 64 t0 4001 = 4 ∧ (∀ i, 0 ≤ (ar S1 65 t0 i).toInt ∧ (ar S1 65 t0 i).toInt ≤ 4000)) ∧ a0.toInt ≤ r.toInt ∧ r.toInt ≤ (S.1 41 t0).toInt) := by
  have nS : FX [] S S := FX_rf
  unfold wT_X10_readWord
  refine it_rule (fun u : Nat × Int32 × Int32 × Int64 × kS => (FX [] S u.2.2.2.2) ∧ (S = u.2.2.2.2 ∧ t0 = u.1 ∧ a0 = u.2.1 ∧ a0.toInt ≤ u.2.2.1.toInt ∧ u.2.2.1.toInt ≤ (S.1 41 t0).toInt)) (fun u => ((S.1 41 t0).toInt - u.2.2.1.toInt).toNat) ?_ (by (try clear hk4); grind [k_ii, k_ir, k_ri, k_rr, k_ai, k_ar, k_li, k_lr, k_qi, k_qr, ar_ci, ar_cl, ar_cq, la_ci, la_ca, la_cq, qa_ci, qa_ca, qa_cl, tk_link, kn4000])
  rintro ⟨x0, x1, x2, x3, Sl4⟩ k4 hI4 hk4
  replace hI4 : (FX [] S Sl4) ∧ (S = Sl4 ∧ t0 = x0 ∧ a0 = x1 ∧ a0.toInt ≤ x2.toInt ∧ x2.toInt ≤ (S.1 41 t0).toInt) := hI4
  obtain ⟨nSl4, hI4⟩ := hI4
  replace hk4 : ∀ v : Nat × Int32 × Int32 × Int64 × kS, (FX [] S v.2.2.2.2) ∧ (S = v.2.2.2.2 ∧ t0 = v.1 ∧ a0 = v.2.1 ∧ a0.toInt ≤ v.2.2.1.toInt ∧ v.2.2.1.toInt ≤ (S.1 41 t0).toInt) → ((S.1 41 t0).toInt - v.2.2.1.toInt).toNat < ((S.1 41 t0).toInt - x2.toInt).toNat → k4 v := hk4
  show wT_X10_readWord_4 _ k4 x0 x1 x2 x3 Sl4
  unfold wT_X10_readWord_4
  obtain ⟨rfl, hI4⟩ := hI4
  obtain ⟨rfl, hI4⟩ := hI4
  obtain ⟨rfl, hI4⟩ := hI4
  intro z1 ez1
  refine ⟨fun c1 => ?_, fun c1 => ?_⟩
  · unfold wT_X10_readWord_53
    intro z18 ez18
    have hrz18 : -2147483648 ≤ x2.toInt - a0.toInt ∧ x2.toInt - a0.toInt < 2147483648 := by (try clear hk4); grind [k_ii, k_ir, k_ri, k_rr, k_ai, k_ar, k_li, k_lr, k_qi, k_qr, ar_ci, ar_cl, ar_cq, la_ci, la_ca, la_cq, qa_ci, qa_ca, qa_cl, tk_link, kn4000]
    replace ez18 : z18.toInt = x2.toInt - a0.toInt := w_sub ez18 hrz18
    clear hrz18
    refine ⟨fun c2 => ?_, fun c2 => ?_⟩
    · refine kmT_X10_kindOf _ _ _ _ _ (fun S20 r20 hF3 pS20 => ?_) (sk_X10_kindOf _ _ (INJ_x nS (by decide) hI) )
      obtain ⟨rfl, pS20⟩ := pS20
      clear hF3
      unfold wT_X10_readWord_71
      refine kmT_X10_keep _ _ _ _ _ _ _ (fun S21 hF4 pS21 => ?_) (sk_X10_keep _ _ _ _ (INJ_x nS (by decide) hI) (by (try clear hk4); grind [k_ii, k_ir, k_ri, k_rr, k_ai, k_ar, k_li, k_lr, k_qi, k_qr, ar_ci, ar_cl, ar_cq, la_ci, la_ca, la_cq, qa_ci, qa_ca, qa_cl, tk_link, kn4000]) (by (try clear hk4); grind [k_ii, k_ir, k_ri, k_rr, k_ai, k_ar, k_li, k_lr, k_qi, k_qr, ar_ci, ar_cl, ar_cq, la_ci, la_ca, la_cq, qa_ci, qa_ca, qa_cl, tk_link, kn4000]))
      have nS21 : FX [] S S21 := FX_k hF4 (by decide) nS
      clear hF4
      exact by (try clear hk4); grind [k_ii, k_ir, k_ri, k_rr, k_ai, k_ar, k_li, k_lr, k_qi, k_qr, ar_ci, ar_cl, ar_cq, la_ci, la_ca, la_cq, qa_ci, qa_ca, qa_cl, tk_link, kn4000]
    · unfold wT_X10_readWord_71
      refine kmT_X10_keep _ _ _ _ _ _ _ (fun S21 hF5 pS21 => ?_) (sk_X10_keep _ _ _ _ (INJ_x nS (by decide) hI) (by (try clear hk4); grind [k_ii, k_ir, k_ri, k_rr, k_ai, k_ar, k_li, k_lr, k_qi, k_qr, ar_ci, ar_cl, ar_cq, la_ci, la_ca, la_cq, qa_ci, qa_ca, qa_cl, tk_link, kn4000]) (by (try clear hk4); grind [k_ii, k_ir, k_ri, k_rr, k_ai, k_ar, k_li, k_lr, k_qi, k_qr, ar_ci, ar_cl, ar_cq, la_ci, la_ca, la_cq, qa_ci, qa_ca, qa_cl, tk_link, kn4000]))
      have nS21 : FX [] S S21 := FX_k hF5 (by decide) nS
      clear hF5
      exact by (try clear hk4); grind [k_ii, k_ir, k_ri, k_rr, k_ai, k_ar, k_li, k_lr, k_qi, k_qr, ar_ci, ar_cl, ar_cq, la_ci, la_ca, la_cq, qa_ci, qa_ca, qa_cl, tk_link, kn4000]
  · intro z3 ez3
    intro q4 eq4
    have wq4 := rd_w nS (by decide) ez3 eq4
    refine ⟨by (try clear hk4); grind [k_ii, k_ir, k_ri, k_rr, k_ai, k_ar, k_li, k_lr, k_qi, k_qr, ar_ci, ar_cl, ar_cq, la_ci, la_ca, la_cq, qa_ci, qa_ca, qa_cl, tk_link, kn4000], ?_⟩
    intro z5 ez5
    replace ez5 := ez5.trans (ar_rd nS (by decide) (by decide) wq4)
    refine kmT_X10_isLetter _ _ _ _ (fun S6 r6 hF6 pS6 => ?_) (sk_X10_isLetter _ (INJ_x nS (by decide) hI) )
    obtain ⟨rfl, pS6⟩ := pS6
    clear hF6
    refine ⟨fun c7 => ?_, fun c7 => ?_⟩
    · unfold wT_X10_readWord_36
      intro z13 ez13
      intro q14 eq14
      have wq14 := rd_w nS (by decide) ez13 eq14
      refine ⟨by (try clear hk4); grind [k_ii, k_ir, k_ri, k_rr, k_ai, k_ar, k_li, k_lr, k_qi, k_qr, ar_ci, ar_cl, ar_cq, la_ci, la_ca, la_cq, qa_ci, qa_ca, qa_cl, tk_link, kn4000], ?_⟩
      intro z15 ez15
      replace ez15 := ez15.trans (ar_rd nS (by decide) (by decide) wq14)
      refine kmT_X10_longer _ _ _ _ _ (fun S16 r16 hF8 pS16 => ?_) (sk_X10_longer _ _ (INJ_x nS (by decide) hI) )
      obtain ⟨rfl, pS16⟩ := pS16
      clear hF8
      intro z17 ez17
      have hrz17 : -2147483648 ≤ x2.toInt + 1 ∧ x2.toInt + 1 < 2147483648 := by (try clear hk4); grind [k_ii, k_ir, k_ri, k_rr, k_ai, k_ar, k_li, k_lr, k_qi, k_qr, ar_ci, ar_cl, ar_cq, la_ci, la_ca, la_cq, qa_ci, qa_ca, qa_cl, tk_link, kn4000]
      replace ez17 : z17.toInt = x2.toInt + 1 := w_add ez17 hrz17
      clear hrz17
      exact hk4 _ (by (try clear hk4); grind [k_ii, k_ir, k_ri, k_rr, k_ai, k_ar, k_li, k_lr, k_qi, k_qr, ar_ci, ar_cl, ar_cq, la_ci, la_ca, la_cq, qa_ci, qa_ca, qa_cl, tk_link, kn4000]) (by (try clear hk4); grind [k_ii, k_ir, k_ri, k_rr, k_ai, k_ar, k_li, k_lr, k_qi, k_qr, ar_ci, ar_cl, ar_cq, la_ci, la_ca, la_cq, qa_ci, qa_ca, qa_cl, tk_link, kn4000])
    · intro z8 ez8
      intro q9 eq9
      have wq9 := rd_w nS (by decide) ez8 eq9
      refine ⟨by (try clear hk4); grind [k_ii, k_ir, k_ri, k_rr, k_ai, k_ar, k_li, k_lr, k_qi, k_qr, ar_ci, ar_cl, ar_cq, la_ci, la_ca, la_cq, qa_ci, qa_ca, qa_cl, tk_link, kn4000], ?_⟩
      intro z10 ez10
      replace ez10 := ez10.trans (ar_rd nS (by decide) (by decide) wq9)
      refine kmT_X10_isDigit _ _ _ _ (fun S11 r11 hF9 pS11 => ?_) (sk_X10_isDigit _ (INJ_x nS (by decide) hI) )
      obtain ⟨rfl, pS11⟩ := pS11
      clear hF9
      refine ⟨fun c10 => ?_, fun c10 => ?_⟩
      · unfold wT_X10_readWord_53
        intro z18 ez18
        have hrz18 : -2147483648 ≤ x2.toInt - a0.toInt ∧ x2.toInt - a0.toInt < 2147483648 := by (try clear hk4); grind [k_ii, k_ir, k_ri, k_rr, k_ai, k_ar, k_li, k_lr, k_qi, k_qr, ar_ci, ar_cl, ar_cq, la_ci, la_ca, la_cq, qa_ci, qa_ca, qa_cl, tk_link, kn4000]
        replace ez18 : z18.toInt = x2.toInt - a0.toInt := w_sub ez18 hrz18
        clear hrz18
        refine ⟨fun c11 => ?_, fun c11 => ?_⟩
        · refine kmT_X10_kindOf _ _ _ _ _ (fun S20 r20 hF12 pS20 => ?_) (sk_X10_kindOf _ _ (INJ_x nS (by decide) hI) )
          obtain ⟨rfl, pS20⟩ := pS20
          clear hF12
          unfold wT_X10_readWord_71
          refine kmT_X10_keep _ _ _ _ _ _ _ (fun S21 hF13 pS21 => ?_) (sk_X10_keep _ _ _ _ (INJ_x nS (by decide) hI) (by (try clear hk4); grind [k_ii, k_ir, k_ri, k_rr, k_ai, k_ar, k_li, k_lr, k_qi, k_qr, ar_ci, ar_cl, ar_cq, la_ci, la_ca, la_cq, qa_ci, qa_ca, qa_cl, tk_link, kn4000]) (by (try clear hk4); grind [k_ii, k_ir, k_ri, k_rr, k_ai, k_ar, k_li, k_lr, k_qi, k_qr, ar_ci, ar_cl, ar_cq, la_ci, la_ca, la_cq, qa_ci, qa_ca, qa_cl, tk_link, kn4000]))
          have nS21 : FX [] S S21 := FX_k hF13 (by decide) nS
          clear hF13
          exact by (try clear hk4); grind [k_ii, k_ir, k_ri, k_rr, k_ai, k_ar, k_li, k_lr, k_qi, k_qr, ar_ci, ar_cl, ar_cq, la_ci, la_ca, la_cq, qa_ci, qa_ca, qa_cl, tk_link, kn4000]
        · unfold wT_X10_readWord_71
          refine kmT_X10_keep _ _ _ _ _ _ _ (fun S21 hF14 pS21 => ?_) (sk_X10_keep _ _ _ _ (INJ_x nS (by decide) hI) (by (try clear hk4); grind [k_ii, k_ir, k_ri, k_rr, k_ai, k_ar, k_li, k_lr, k_qi, k_qr, ar_ci, ar_cl, ar_cq, la_ci, la_ca, la_cq, qa_ci, qa_ca, qa_cl, tk_link, kn4000]) (by (try clear hk4); grind [k_ii, k_ir, k_ri, k_rr, k_ai, k_ar, k_li, k_lr, k_qi, k_qr, ar_ci, ar_cl, ar_cq, la_ci, la_ca, la_cq, qa_ci, qa_ca, qa_cl, tk_link, kn4000]))
          have nS21 : FX [] S S21 := FX_k hF14 (by decide) nS
          clear hF14
          exact by (try clear hk4); grind [k_ii, k_ir, k_ri, k_rr, k_ai, k_ar, k_li, k_lr, k_qi, k_qr, ar_ci, ar_cl, ar_cq, la_ci, la_ca, la_cq, qa_ci, qa_ca, qa_cl, tk_link, kn4000]
      · unfold wT_X10_readWord_36
        intro z13 ez13
        intro q14 eq14
        have wq14 := rd_w nS (by decide) ez13 eq14
        refine ⟨by (try clear hk4); grind [k_ii, k_ir, k_ri, k_rr, k_ai, k_ar, k_li, k_lr, k_qi, k_qr, ar_ci, ar_cl, ar_cq, la_ci, la_ca, la_cq, qa_ci, qa_ca, qa_cl, tk_link, kn4000], ?_⟩
        intro z15 ez15
        replace ez15 := ez15.trans (ar_rd nS (by decide) (by decide) wq14)
        refine kmT_X10_longer _ _ _ _ _ (fun S16 r16 hF15 pS16 => ?_) (sk_X10_longer _ _ (INJ_x nS (by decide) hI) )
        obtain ⟨rfl, pS16⟩ := pS16
        clear hF15
        intro z17 ez17
        have hrz17 : -2147483648 ≤ x2.toInt + 1 ∧ x2.toInt + 1 < 2147483648 := by (try clear hk4); grind [k_ii, k_ir, k_ri, k_rr, k_ai, k_ar, k_li, k_lr, k_qi, k_qr, ar_ci, ar_cl, ar_cq, la_ci, la_ca, la_cq, qa_ci, qa_ca, qa_cl, tk_link, kn4000]
        replace ez17 : z17.toInt = x2.toInt + 1 := w_add ez17 hrz17
        clear hrz17
        exact hk4 _ (by (try clear hk4); grind [k_ii, k_ir, k_ri, k_rr, k_ai, k_ar, k_li, k_lr, k_qi, k_qr, ar_ci, ar_cl, ar_cq, la_ci, la_ca, la_cq, qa_ci, qa_ca, qa_cl, tk_link, kn4000]) (by (try clear hk4); grind [k_ii, k_ir, k_ri, k_rr, k_ai, k_ar, k_li, k_lr, k_qi, k_qr, ar_ci, ar_cl, ar_cq, la_ci, la_ca, la_cq, qa_ci, qa_ca, qa_cl, tk_link, kn4000])
