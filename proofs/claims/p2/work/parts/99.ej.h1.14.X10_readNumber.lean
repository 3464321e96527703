
set_option maxHeartbeats 400000 in
theorem sk_X10_readNumber (t0 : Nat) (a0 : Int32) {S : kS} (hI : INJ S) (h : (0 ≤ (S.1 40 t0).toInt ∧ (S.1 40 t0).toInt ≤ 4001 ∧ ar S 64 t0 4001 = 4 ∧ (∀ i, 0 ≤ (ar S 65 t0 i).toInt ∧ (ar S 65 t0 i).toInt ≤ 4000))) (hs : 0 ≤ (S.1 41 t0).toInt ∧ (S.1 41 t0).toInt ≤ 4000) (ha : 0 ≤ a0.toInt ∧ a0.toInt ≤ (S.1 41 t0).toInt) : wT_X10_readNumber t0 a0 S (fun S1 r => (S.1 40 t0).toInt ≤ (S1.1 40 t0).toInt ∧ (S1.1 40 t0).toInt ≤ (S.1 40 t0).toInt + 1 ∧ (0 ≤ (S1.1 40 t0).toInt ∧ (S1.1 40 t0).toInt ≤ 4001 ∧ ar S1 64 t0 4001 = 4 ∧ (∀ i, 0 ≤ (ar S1 65 t0 i).toInt ∧ (ar S1 65 t0 i).toInt ≤ 4000)) ∧ a0.toInt ≤ r.toInt ∧ r.toInt ≤ (S.1 41 t0).toInt) := by
  have nS : FX [] S S := FX_rf
  unfold wT_X10_readNumber
  refine it_rule (fun u : Nat × Int32 × Int32 × Int64 × kS => (FX [] S u.2.2.2.2) ∧ (S = u.2.2.2.2 ∧ t0 = u.1 ∧ a0 = u.2.1 ∧ a0.toInt ≤ u.2.2.1.toInt ∧ u.2.2.1.toInt ≤ (S.1 41 t0).toInt)) (fun u => ((S.1 41 t0).toInt - u.2.2.1.toInt).toNat) ?_ (by (try clear hk4); grind [k_ii, k_ir, k_ri, k_rr, k_ai, k_ar, k_li, k_lr, k_qi, k_qr, ar_ci, ar_cl, ar_cq, la_ci, la_ca, la_cq, qa_ci, qa_ca, qa_cl, tk_link, kn4000])
  rintro ⟨x0, x1, x2, x3, Sl4⟩ k4 hI4 hk4
  replace hI4 : (FX [] S Sl4) ∧ (S = Sl4 ∧ t0 = x0 ∧ a0 = x1 ∧ a0.toInt ≤ x2.toInt ∧ x2.toInt ≤ (S.1 41 t0).toInt) := hI4
  obtain ⟨nSl4, hI4⟩ := hI4
  replace hk4 : ∀ v : Nat × Int32 × Int32 × Int64 × kS, (FX [] S v.2.2.2.2) ∧ (S = v.2.2.2.2 ∧ t0 = v.1 ∧ a0 = v.2.1 ∧ a0.toInt ≤ v.2.2.1.toInt ∧ v.2.2.1.toInt ≤ (S.1 41 t0).toInt) → ((S.1 41 t0).toInt - v.2.2.1.toInt).toNat < ((S.1 41 t0).toInt - x2.toInt).toNat → k4 v := hk4
  show wT_X10_readNumber_4 _ k4 x0 x1 x2 x3 Sl4
  unfold wT_X10_readNumber_4
  obtain ⟨rfl, hI4⟩ := hI4
  obtain ⟨rfl, hI4⟩ := hI4
  obtain ⟨rfl, hI4⟩ := hI4
  intro z1 ez1
  refine ⟨fun c1 => ?_, fun c1 => ?_⟩
  · unfold wT_X10_readNumber_47
    intro z16 ez16
    have hrz16 : -2147483648 ≤ x2.toInt - a0.toInt ∧ x2.toInt - a0.toInt < 2147483648 := by (try clear hk4); grind [k_ii, k_ir, k_ri, k_rr, k_ai, k_ar, k_li, k_lr, k_qi, k_qr, ar_ci, ar_cl, ar_cq, la_ci, la_ca, la_cq, qa_ci, qa_ca, qa_cl, tk_link, kn4000]
    replace ez16 : z16.toInt = x2.toInt - a0.toInt := w_sub ez16 hrz16
    clear hrz16
    refine ⟨fun c2 => ?_, fun c2 => ?_⟩
    · unfold wT_X10_readNumber_61
      refine kmT_X10_keep _ _ _ _ _ _ _ (fun S18 hF3 pS18 => ?_) (sk_X10_keep _ _ _ _ (INJ_x nS (by decide) hI) (by (try clear hk4); grind [k_ii, k_ir, k_ri, k_rr, k_ai, k_ar, k_li, k_lr, k_qi, k_qr, ar_ci, ar_cl, ar_cq, la_ci, la_ca, la_cq, qa_ci, qa_ca, qa_cl, tk_link, kn4000]) (by (try clear hk4); grind [k_ii, k_ir, k_ri, k_rr, k_ai, k_ar, k_li, k_lr, k_qi, k_qr, ar_ci, ar_cl, ar_cq, la_ci, la_ca, la_cq, qa_ci, qa_ca, qa_cl, tk_link, kn4000]))
      have nS18 : FX [] S S18 := FX_k hF3 (by decide) nS
      clear hF3
      exact by (try clear hk4); grind [k_ii, k_ir, k_ri, k_rr, k_ai, k_ar, k_li, k_lr, k_qi, k_qr, ar_ci, ar_cl, ar_cq, la_ci, la_ca, la_cq, qa_ci, qa_ca, qa_cl, tk_link, kn4000]
    · unfold wT_X10_readNumber_61
      refine kmT_X10_keep _ _ _ _ _ _ _ (fun S18 hF4 pS18 => ?_) (sk_X10_keep _ _ _ _ (INJ_x nS (by decide) hI) (by (try clear hk4); grind [k_ii, k_ir, k_ri, k_rr, k_ai, k_ar, k_li, k_lr, k_qi, k_qr, ar_ci, ar_cl, ar_cq, la_ci, la_ca, la_cq, qa_ci, qa_ca, qa_cl, tk_link, kn4000]) (by (try clear hk4); grind [k_ii, k_ir, k_ri, k_rr, k_ai, k_ar, k_li, k_lr, k_qi, k_qr, ar_ci, ar_cl, ar_cq, la_ci, la_ca, la_cq, qa_ci, qa_ca, qa_cl, tk_link, kn4000]))
      have nS18 : FX [] S S18 := FX_k hF4 (by decide) nS
      clear hF4
      exact by (try clear hk4); grind [k_ii, k_ir, k_ri, k_rr, k_ai, k_ar, k_li, k_lr, k_qi, k_qr, ar_ci, ar_cl, ar_cq, la_ci, la_ca, la_cq, qa_ci, qa_ca, qa_cl, tk_link, kn4000]
  · intro z3 ez3
    intro q4 eq4
    have wq4 := rd_w nS (by decide) ez3 eq4
    refine ⟨by (try clear hk4); grind [k_ii, k_ir, k_ri, k_rr, k_ai, k_ar, k_li, k_lr, k_qi, k_qr, ar_ci, ar_cl, ar_cq, la_ci, la_ca, la_cq, qa_ci, qa_ca, qa_cl, tk_link, kn4000], ?_⟩
    intro z5 ez5
    replace ez5 := ez5.trans (ar_rd nS (by decide) (by decide) wq4)
    refine kmT_X10_isDigit _ _ _ _ (fun S6 r6 hF5 pS6 => ?_) (sk_X10_isDigit _ (INJ_x nS (by decide) hI) )
    obtain ⟨rfl, pS6⟩ := pS6
    clear hF5
    refine ⟨fun c6 => ?_, fun c6 => ?_⟩
    · unfold wT_X10_readNumber_47
      intro z16 ez16
      have hrz16 : -2147483648 ≤ x2.toInt - a0.toInt ∧ x2.toInt - a0.toInt < 2147483648 := by (try clear hk4); grind [k_ii, k_ir, k_ri, k_rr, k_ai, k_ar, k_li, k_lr, k_qi, k_qr, ar_ci, ar_cl, ar_cq, la_ci, la_ca, la_cq, qa_ci, qa_ca, qa_cl, tk_link, kn4000]
      replace ez16 : z16.toInt = x2.toInt - a0.toInt := w_sub ez16 hrz16
      clear hrz16
      refine ⟨fun c7 => ?_, fun c7 => ?_⟩
      · unfold wT_X10_readNumber_61
        refine kmT_X10_keep _ _ _ _ _ _ _ (fun S18 hF8 pS18 => ?_) (sk_X10_keep _ _ _ _ (INJ_x nS (by decide) hI) (by (try clear hk4); grind [k_ii, k_ir, k_ri, k_rr, k_ai, k_ar, k_li, k_lr, k_qi, k_qr, ar_ci, ar_cl, ar_cq, la_ci, la_ca, la_cq, qa_ci, qa_ca, qa_cl, tk_link, kn4000]) (by (try clear hk4); grind [k_ii, k_ir, k_ri, k_rr, k_ai, k_ar, k_li, k_lr, k_qi, k_qr, ar_ci, ar_cl, ar_cq, la_ci, la_ca, la_cq, qa_ci, qa_ca, qa_cl, tk_link, kn4000]))
        have nS18 : FX [] S S18 := FX_k hF8 (by decide) nS
        clear hF8
        exact by (try clear hk4); grind [k_ii, k_ir, k_ri, k_rr, k_ai, k_ar, k_li, k_lr, k_qi, k_qr, ar_ci, ar_cl, ar_cq, la_ci, la_ca, la_cq, qa_ci, qa_ca, qa_cl, tk_link, kn4000]
      · unfold wT_X10_readNumber_61
        refine kmT_X10_keep _ _ _ _ _ _ _ (fun S18 hF9 pS18 => ?_) (sk_X10_keep _ _ _ _ (INJ_x nS (by decide) hI) (by (try clear hk4); grind [k_ii, k_ir, k_ri, k_rr, k_ai, k_ar, k_li, k_lr, k_qi, k_qr, ar_ci, ar_cl, ar_cq, la_ci, la_ca, la_cq, qa_ci, qa_ca, qa_cl, tk_link, kn4000]) (by (try clear hk4); grind [k_ii, k_ir, k_ri, k_rr, k_ai, k_ar, k_li, k_lr, k_qi, k_qr, ar_ci, ar_cl, ar_cq, la_ci, la_ca, la_cq, qa_ci, qa_ca, qa_cl, tk_link, kn4000]))
        have nS18 : FX [] S S18 := FX_k hF9 (by decide) nS
        clear hF9
        exact by (try clear hk4); grind [k_ii, k_ir, k_ri, k_rr, k_ai, k_ar, k_li, k_lr, k_qi, k_qr, ar_ci, ar_cl, ar_cq, la_ci, la_ca, la_cq, qa_ci, qa_ca, qa_cl, tk_link, kn4000]
    · intro z8 ez8
      intro z9 ez9
      intro q10 eq10
      have wq10 := rd_w nS (by decide) ez9 eq10
      refine ⟨by (try clear hk4); grind [k_ii, k_ir, k_ri, k_rr, k_ai, k_ar, k_li, k_lr, k_qi, k_qr, ar_ci, ar_cl, ar_cq, la_ci, la_ca, la_cq, qa_ci, qa_ca, qa_cl, tk_link, kn4000], ?_⟩
      intro z11 ez11
      replace ez11 := ez11.trans (ar_rd nS (by decide) (by decide) wq10)
      intro z12 ez12
      intro z13 ez13
      intro z14 ez14
      intro z15 ez15
      have hrz15 : -2147483648 ≤ x2.toInt + 1 ∧ x2.toInt + 1 < 2147483648 := by (try clear hk4); grind [k_ii, k_ir, k_ri, k_rr, k_ai, k_ar, k_li, k_lr, k_qi, k_qr, ar_ci, ar_cl, ar_cq, la_ci, la_ca, la_cq, qa_ci, qa_ca, qa_cl, tk_link, kn4000]
      replace ez15 : z15.toInt = x2.toInt + 1 := w_add ez15 hrz15
      clear hrz15
      exact hk4 _ (by (try clear hk4); grind [k_ii, k_ir, k_ri, k_rr, k_ai, k_ar, k_li, k_lr, k_qi, k_qr, ar_ci, ar_cl, ar_cq, la_ci, la_ca, la_cq, qa_ci, qa_ca, qa_cl, tk_link, kn4000]) (by (try clear hk4); grind [k_ii, k_ir, k_ri, k_rr, k_ai, k_ar, k_li, k_lr, k_qi, k_qr, ar_ci, ar_cl, ar_cq, la_ci, la_ca, la_cq, qa_ci, qa_ca, qa_cl, tk_link, kn4000])
