
set_option maxHeartbeats 400000 in
theorem sk_X5_cellNamed (t0 : Nat) (a0 : Int32) (a1 : Int64) {S : kS} (hI : INJ S) (hc : ∀ i, 0 ≤ (ar S 35 t0 i).toInt ∧ (ar S 35 t0 i).toInt ≤ 12) (hr : 0 ≤ (S.1 18 t0).toInt ∧ (S.1 18 t0).toInt ≤ 12) : wT_X5_cellNamed t0 a0 a1 S (fun S1 r => S = S1) := by
  have nS : FX [] S S := FX_rf
  unfold wT_X5_cellNamed
  refine kmT_X5_has _ _ _ _ _ (fun S1 r1 hF1 pS1 => ?_) (sk_X5_has _ _ (INJ_x nS (by decide) hI) )
  obtain ⟨rfl, pS1⟩ := pS1
  clear hF1
  refine ⟨fun c2 => ?_, fun c2 => ?_⟩
  · unfold wT_X5_cellNamed_18
    refine it_rule (fun u : Nat × Int32 × Int64 × Int32 × Int32 × kS => (FX [] S u.2.2.2.2.2) ∧ (S = u.2.2.2.2.2 ∧ t0 = u.1 ∧ 0 ≤ u.2.2.2.1.toInt ∧ u.2.2.2.1.toInt ≤ 12 ∧ (0 < u.2.2.2.1.toInt → 0 ≤ u.2.1.toInt ∧ u.2.1.toInt < 12) ∧ 0 ≤ u.2.2.2.2.1.toInt ∧ u.2.2.2.2.1.toInt ≤ u.2.2.2.1.toInt)) (fun u => (u.2.2.2.1.toInt - u.2.2.2.2.1.toInt).toNat) ?_ (by (try clear hk23); grind [k_ii, k_ir, k_ri, k_rr, k_ai, k_ar, k_li, k_lr, k_qi, k_qr, ar_ci, ar_cl, ar_cq, la_ci, la_ca, la_cq, qa_ci, qa_ca, qa_cl, tk_link, kn12, kn144])
    rintro ⟨x0, x1, x2, x4, x5, Sl23⟩ k23 hI23 hk23
    replace hI23 : (FX [] S Sl23) ∧ (S = Sl23 ∧ t0 = x0 ∧ 0 ≤ x4.toInt ∧ x4.toInt ≤ 12 ∧ (0 < x4.toInt → 0 ≤ x1.toInt ∧ x1.toInt < 12) ∧ 0 ≤ x5.toInt ∧ x5.toInt ≤ x4.toInt) := hI23
    obtain ⟨nSl23, hI23⟩ := hI23
    replace hk23 : ∀ v : Nat × Int32 × Int64 × Int32 × Int32 × kS, (FX [] S v.2.2.2.2.2) ∧ (S = v.2.2.2.2.2 ∧ t0 = v.1 ∧ 0 ≤ v.2.2.2.1.toInt ∧ v.2.2.2.1.toInt ≤ 12 ∧ (0 < v.2.2.2.1.toInt → 0 ≤ v.2.1.toInt ∧ v.2.1.toInt < 12) ∧ 0 ≤ v.2.2.2.2.1.toInt ∧ v.2.2.2.2.1.toInt ≤ v.2.2.2.1.toInt) → (v.2.2.2.1.toInt - v.2.2.2.2.1.toInt).toNat < (x4.toInt - x5.toInt).toNat → k23 v := hk23
    show wT_X5_cellNamed_23 _ k23 x0 x1 x2 x4 x5 Sl23
    unfold wT_X5_cellNamed_23
    obtain ⟨rfl, hI23⟩ := hI23
    obtain ⟨rfl, hI23⟩ := hI23
    refine ⟨fun c3 => ?_, fun c3 => ?_⟩
    · exact by (try clear hk23); grind [k_ii, k_ir, k_ri, k_rr, k_ai, k_ar, k_li, k_lr, k_qi, k_qr, ar_ci, ar_cl, ar_cq, la_ci, la_ca, la_cq, qa_ci, qa_ca, qa_cl, tk_link, kn12, kn144]
    · intro z7 ez7
      intro z8 ez8
      have hrz8 : -100000 ≤ x1.toInt ∧ x1.toInt ≤ 100000 := by (try clear hk23); grind [k_ii, k_ir, k_ri, k_rr, k_ai, k_ar, k_li, k_lr, k_qi, k_qr, ar_ci, ar_cl, ar_cq, la_ci, la_ca, la_cq, qa_ci, qa_ca, qa_cl, tk_link, kn12, kn144]
      replace ez8 : z8.toInt = 12 * x1.toInt := w_mc ez8 rfl (by decide) hrz8
      intro z9 ez9
      have hrz9 : -2147483648 ≤ z8.toInt + x5.toInt ∧ z8.toInt + x5.toInt < 2147483648 := by (try clear hk23); grind [k_ii, k_ir, k_ri, k_rr, k_ai, k_ar, k_li, k_lr, k_qi, k_qr, ar_ci, ar_cl, ar_cq, la_ci, la_ca, la_cq, qa_ci, qa_ca, qa_cl, tk_link, kn12, kn144]
      replace ez9 : z9.toInt = z8.toInt + x5.toInt := w_add ez9 hrz9
      clear hrz9
      intro q10 eq10
      have wq10 := rd_w nS (by decide) ez7 eq10
      refine ⟨by (try clear hk23); grind [k_ii, k_ir, k_ri, k_rr, k_ai, k_ar, k_li, k_lr, k_qi, k_qr, ar_ci, ar_cl, ar_cq, la_ci, la_ca, la_cq, qa_ci, qa_ca, qa_cl, tk_link, kn12, kn144], ?_⟩
      intro z11 ez11
      replace ez11 := ez11.trans (la_rd nS (by decide) (by decide) wq10)
      intro z12 ez12
      refine ⟨fun c4 => ?_, fun c4 => ?_⟩
      · intro z14 ez14
        have hrz14 : -2147483648 ≤ x5.toInt + 1 ∧ x5.toInt + 1 < 2147483648 := by (try clear hk23); grind [k_ii, k_ir, k_ri, k_rr, k_ai, k_ar, k_li, k_lr, k_qi, k_qr, ar_ci, ar_cl, ar_cq, la_ci, la_ca, la_cq, qa_ci, qa_ca, qa_cl, tk_link, kn12, kn144]
        replace ez14 : z14.toInt = x5.toInt + 1 := w_add ez14 hrz14
        clear hrz14
        exact hk23 _ (by (try clear hk23); grind [k_ii, k_ir, k_ri, k_rr, k_ai, k_ar, k_li, k_lr, k_qi, k_qr, ar_ci, ar_cl, ar_cq, la_ci, la_ca, la_cq, qa_ci, qa_ca, qa_cl, tk_link, kn12, kn144]) (by (try clear hk23); grind [k_ii, k_ir, k_ri, k_rr, k_ai, k_ar, k_li, k_lr, k_qi, k_qr, ar_ci, ar_cl, ar_cq, la_ci, la_ca, la_cq, qa_ci, qa_ca, qa_cl, tk_link, kn12, kn144])
      · exact by (try clear hk23); grind [k_ii, k_ir, k_ri, k_rr, k_ai, k_ar, k_li, k_lr, k_qi, k_qr, ar_ci, ar_cl, ar_cq, la_ci, la_ca, la_cq, qa_ci, qa_ca, qa_cl, tk_link, kn12, kn144]
  · intro z3 ez3
    intro q4 eq4
    have wq4 := rd_w nS (by decide) ez3 eq4
    refine ⟨by (try clear hk23); grind [k_ii, k_ir, k_ri, k_rr, k_ai, k_ar, k_li, k_lr, k_qi, k_qr, ar_ci, ar_cl, ar_cq, la_ci, la_ca, la_cq, qa_ci, qa_ca, qa_cl, tk_link, kn12, kn144], ?_⟩
    intro z5 ez5
    replace ez5 := ez5.trans (ar_rd nS (by decide) (by decide) wq4)
    unfold wT_X5_cellNamed_18
    refine it_rule (fun u : Nat × Int32 × Int64 × Int32 × Int32 × kS => (FX [] S u.2.2.2.2.2) ∧ (S = u.2.2.2.2.2 ∧ t0 = u.1 ∧ 0 ≤ u.2.2.2.1.toInt ∧ u.2.2.2.1.toInt ≤ 12 ∧ (0 < u.2.2.2.1.toInt → 0 ≤ u.2.1.toInt ∧ u.2.1.toInt < 12) ∧ 0 ≤ u.2.2.2.2.1.toInt ∧ u.2.2.2.2.1.toInt ≤ u.2.2.2.1.toInt)) (fun u => (u.2.2.2.1.toInt - u.2.2.2.2.1.toInt).toNat) ?_ (by (try clear hk23); grind [k_ii, k_ir, k_ri, k_rr, k_ai, k_ar, k_li, k_lr, k_qi, k_qr, ar_ci, ar_cl, ar_cq, la_ci, la_ca, la_cq, qa_ci, qa_ca, qa_cl, tk_link, kn12, kn144])
    rintro ⟨x0, x1, x2, x4, x5, Sl23⟩ k23 hI23 hk23
    replace hI23 : (FX [] S Sl23) ∧ (S = Sl23 ∧ t0 = x0 ∧ 0 ≤ x4.toInt ∧ x4.toInt ≤ 12 ∧ (0 < x4.toInt → 0 ≤ x1.toInt ∧ x1.toInt < 12) ∧ 0 ≤ x5.toInt ∧ x5.toInt ≤ x4.toInt) := hI23
    obtain ⟨nSl23, hI23⟩ := hI23
    replace hk23 : ∀ v : Nat × Int32 × Int64 × Int32 × Int32 × kS, (FX [] S v.2.2.2.2.2) ∧ (S = v.2.2.2.2.2 ∧ t0 = v.1 ∧ 0 ≤ v.2.2.2.1.toInt ∧ v.2.2.2.1.toInt ≤ 12 ∧ (0 < v.2.2.2.1.toInt → 0 ≤ v.2.1.toInt ∧ v.2.1.toInt < 12) ∧ 0 ≤ v.2.2.2.2.1.toInt ∧ v.2.2.2.2.1.toInt ≤ v.2.2.2.1.toInt) → (v.2.2.2.1.toInt - v.2.2.2.2.1.toInt).toNat < (x4.toInt - x5.toInt).toNat → k23 v := hk23
    show wT_X5_cellNamed_23 _ k23 x0 x1 x2 x4 x5 Sl23
    unfold wT_X5_cellNamed_23
    obtain ⟨rfl, hI23⟩ := hI23
    obtain ⟨rfl, hI23⟩ := hI23
    refine ⟨fun c5 => ?_, fun c5 => ?_⟩
    · exact by (try clear hk23); grind [k_ii, k_ir, k_ri, k_rr, k_ai, k_ar, k_li, k_lr, k_qi, k_qr, ar_ci, ar_cl, ar_cq, la_ci, la_ca, la_cq, qa_ci, qa_ca, qa_cl, tk_link, kn12, kn144]
    · intro z7 ez7
      intro z8 ez8
      have hrz8 : -100000 ≤ x1.toInt ∧ x1.toInt ≤ 100000 := by (try clear hk23); grind [k_ii, k_ir, k_ri, k_rr, k_ai, k_ar, k_li, k_lr, k_qi, k_qr, ar_ci, ar_cl, ar_cq, la_ci, la_ca, la_cq, qa_ci, qa_ca, qa_cl, tk_link, kn12, kn144]
      replace ez8 : z8.toInt = 12 * x1.toInt := w_mc ez8 rfl (by decide) hrz8
      intro z9 ez9
      have hrz9 : -2147483648 ≤ z8.toInt + x5.toInt ∧ z8.toInt + x5.toInt < 2147483648 := by (try clear hk23); grind [k_ii, k_ir, k_ri, k_rr, k_ai, k_ar, k_li, k_lr, k_qi, k_qr, ar_ci, ar_cl, ar_cq, la_ci, la_ca, la_cq, qa_ci, qa_ca, qa_cl, tk_link, kn12, kn144]
      replace ez9 : z9.toInt = z8.toInt + x5.toInt := w_add ez9 hrz9
      clear hrz9
      intro q10 eq10
      have wq10 := rd_w nS (by decide) ez7 eq10
      refine ⟨by (try clear hk23); grind [k_ii, k_ir, k_ri, k_rr, k_ai, k_ar, k_li, k_lr, k_qi, k_qr, ar_ci, ar_cl, ar_cq, la_ci, la_ca, la_cq, qa_ci, qa_ca, qa_cl, tk_link, kn12, kn144], ?_⟩
      intro z11 ez11
      replace ez11 := ez11.trans (la_rd nS (by decide) (by decide) wq10)
      intro z12 ez12
      refine ⟨fun c6 => ?_, fun c6 => ?_⟩
      · intro z14 ez14
        have hrz14 : -2147483648 ≤ x5.toInt + 1 ∧ x5.toInt + 1 < 2147483648 := by (try clear hk23); grind [k_ii, k_ir, k_ri, k_rr, k_ai, k_ar, k_li, k_lr, k_qi, k_qr, ar_ci, ar_cl, ar_cq, la_ci, la_ca, la_cq, qa_ci, qa_ca, qa_cl, tk_link, kn12, kn144]
        replace ez14 : z14.toInt = x5.toInt + 1 := w_add ez14 hrz14
        clear hrz14
        exact hk23 _ (by (try clear hk23); grind [k_ii, k_ir, k_ri, k_rr, k_ai, k_ar, k_li, k_lr, k_qi, k_qr, ar_ci, ar_cl, ar_cq, la_ci, la_ca, la_cq, qa_ci, qa_ca, qa_cl, tk_link, kn12, kn144]) (by (try clear hk23); grind [k_ii, k_ir, k_ri, k_rr, k_ai, k_ar, k_li, k_lr, k_qi, k_qr, ar_ci, ar_cl, ar_cq, la_ci, la_ca, la_cq, qa_ci, qa_ca, qa_cl, tk_link, kn12, kn144])
      · exact by (try clear hk23); grind [k_ii, k_ir, k_ri, k_rr, k_ai, k_ar, k_li, k_lr, k_qi, k_qr, ar_ci, ar_cl, ar_cq, la_ci, la_ca, la_cq, qa_ci, qa_ca, qa_cl, tk_link, kn12, kn144]
