
set_option maxHeartbeats 400000 in
theorem sk_X10_kindOf (t0 : Nat) (a0 : Int64) {S : kS} (hI : INJ S) : wT_X10_kindOf t0 a0 S (fun S1 r => S = S1) := by
  have nS : FX [] S S := FX_rf
  unfold wT_X10_kindOf
  refine it_rule (fun u : Nat × Int64 × Int32 × kS => (FX [] S u.2.2.2) ∧ (S = u.2.2.2 ∧ t0 = u.1 ∧ a0 = u.2.1 ∧ 0 ≤ u.2.2.1.toInt ∧ u.2.2.1.toInt ≤ 21)) (fun u => (21 - u.2.2.1.toInt).toNat) ?_ (by (try clear hk2); grind [k_ii, k_ir, k_ri, k_rr, k_ai, k_ar, k_li, k_lr, k_qi, k_qr, ar_ci, ar_cl, ar_cq, la_ci, la_ca, la_cq, qa_ci, qa_ca, qa_cl, tk_link, kn21])
  rintro ⟨x0, x1, x3, Sl2⟩ k2 hI2 hk2
  replace hI2 : (FX [] S Sl2) ∧ (S = Sl2 ∧ t0 = x0 ∧ a0 = x1 ∧ 0 ≤ x3.toInt ∧ x3.toInt ≤ 21) := hI2
  obtain ⟨nSl2, hI2⟩ := hI2
  replace hk2 : ∀ v : Nat × Int64 × Int32 × kS, (FX [] S v.2.2.2) ∧ (S = v.2.2.2 ∧ t0 = v.1 ∧ a0 = v.2.1 ∧ 0 ≤ v.2.2.1.toInt ∧ v.2.2.1.toInt ≤ 21) → (21 - v.2.2.1.toInt).toNat < (21 - x3.toInt).toNat → k2 v := hk2
  show wT_X10_kindOf_2 _ k2 x0 x1 x3 Sl2
  unfold wT_X10_kindOf_2
  obtain ⟨rfl, hI2⟩ := hI2
  obtain ⟨rfl, hI2⟩ := hI2
  obtain ⟨rfl, hI2⟩ := hI2
  refine ⟨fun c1 => ?_, fun c1 => ?_⟩
  · exact by (try clear hk2); grind [k_ii, k_ir, k_ri, k_rr, k_ai, k_ar, k_li, k_lr, k_qi, k_qr, ar_ci, ar_cl, ar_cq, la_ci, la_ca, la_cq, qa_ci, qa_ca, qa_cl, tk_link, kn21]
  · intro z2 ez2
    intro q3 eq3
    have wq3 := rd_w nS (by decide) ez2 eq3
    refine ⟨by (try clear hk2); grind [k_ii, k_ir, k_ri, k_rr, k_ai, k_ar, k_li, k_lr, k_qi, k_qr, ar_ci, ar_cl, ar_cq, la_ci, la_ca, la_cq, qa_ci, qa_ca, qa_cl, tk_link, kn21], ?_⟩
    intro z4 ez4
    replace ez4 := ez4.trans (la_rd nS (by decide) (by decide) wq3)
    intro z5 ez5
    refine ⟨fun c2 => ?_, fun c2 => ?_⟩
    · intro z7 ez7
      have hrz7 : -2147483648 ≤ x3.toInt + 1 ∧ x3.toInt + 1 < 2147483648 := by (try clear hk2); grind [k_ii, k_ir, k_ri, k_rr, k_ai, k_ar, k_li, k_lr, k_qi, k_qr, ar_ci, ar_cl, ar_cq, la_ci, la_ca, la_cq, qa_ci, qa_ca, qa_cl, tk_link, kn21]
      replace ez7 : z7.toInt = x3.toInt + 1 := w_add ez7 hrz7
      clear hrz7
      exact hk2 _ (by (try clear hk2); grind [k_ii, k_ir, k_ri, k_rr, k_ai, k_ar, k_li, k_lr, k_qi, k_qr, ar_ci, ar_cl, ar_cq, la_ci, la_ca, la_cq, qa_ci, qa_ca, qa_cl, tk_link, kn21]) (by (try clear hk2); grind [k_ii, k_ir, k_ri, k_rr, k_ai, k_ar, k_li, k_lr, k_qi, k_qr, ar_ci, ar_cl, ar_cq, la_ci, la_ca, la_cq, qa_ci, qa_ca, qa_cl, tk_link, kn21])
    · intro z8 ez8
      exact by (try clear hk2); grind [k_ii, k_ir, k_ri, k_rr, k_ai, k_ar, k_li, k_lr, k_qi, k_qr, ar_ci, ar_cl, ar_cq, la_ci, la_ca, la_cq, qa_ci, qa_ca, qa_cl, tk_link, kn21]
