
set_option maxHeartbeats 400000 in
theorem sk_X5_routineNamed (t0 : Nat) (a0 : Int64) {S : kS} (hI : INJ S) (hr : 0 ≤ (S.1 18 t0).toInt ∧ (S.1 18 t0).toInt ≤ 12) : wT_X5_routineNamed t0 a0 S (fun S1 r => S = S1 ∧ -1 ≤ r.toInt ∧ r.toInt < 12 ∧ (r.toInt = -1 ∨ r.toInt < (S.1 18 t0).toInt)) := by
  have nS : FX [] S S := FX_rf
  unfold wT_X5_routineNamed
  refine it_rule (fun u : Nat × Int64 × Int32 × kS => (FX [] S u.2.2.2) ∧ (S = u.2.2.2 ∧ t0 = u.1 ∧ a0 = u.2.1 ∧ 0 ≤ u.2.2.1.toInt ∧ u.2.2.1.toInt ≤ 12)) (fun u => (12 - u.2.2.1.toInt).toNat) ?_ (by (try clear hk2); grind [k_ii, k_ir, k_ri, k_rr, k_ai, k_ar, k_li, k_lr, k_qi, k_qr, ar_ci, ar_cl, ar_cq, la_ci, la_ca, la_cq, qa_ci, qa_ca, qa_cl, tk_link, kn12])
  rintro ⟨x0, x1, x3, Sl2⟩ k2 hI2 hk2
  replace hI2 : (FX [] S Sl2) ∧ (S = Sl2 ∧ t0 = x0 ∧ a0 = x1 ∧ 0 ≤ x3.toInt ∧ x3.toInt ≤ 12) := hI2
  obtain ⟨nSl2, hI2⟩ := hI2
  replace hk2 : ∀ v : Nat × Int64 × Int32 × kS, (FX [] S v.2.2.2) ∧ (S = v.2.2.2 ∧ t0 = v.1 ∧ a0 = v.2.1 ∧ 0 ≤ v.2.2.1.toInt ∧ v.2.2.1.toInt ≤ 12) → (12 - v.2.2.1.toInt).toNat < (12 - x3.toInt).toNat → k2 v := hk2
  show wT_X5_routineNamed_2 _ k2 x0 x1 x3 Sl2
  unfold wT_X5_routineNamed_2
  obtain ⟨rfl, hI2⟩ := hI2
  obtain ⟨rfl, hI2⟩ := hI2
  obtain ⟨rfl, hI2⟩ := hI2
  intro z1 ez1
  refine ⟨fun c1 => ?_, fun c1 => ?_⟩
  · exact by (try clear hk2); grind [k_ii, k_ir, k_ri, k_rr, k_ai, k_ar, k_li, k_lr, k_qi, k_qr, ar_ci, ar_cl, ar_cq, la_ci, la_ca, la_cq, qa_ci, qa_ca, qa_cl, tk_link, kn12]
  · intro z3 ez3
    intro q4 eq4
    have wq4 := rd_w nS (by decide) ez3 eq4
    refine ⟨by (try clear hk2); grind [k_ii, k_ir, k_ri, k_rr, k_ai, k_ar, k_li, k_lr, k_qi, k_qr, ar_ci, ar_cl, ar_cq, la_ci, la_ca, la_cq, qa_ci, qa_ca, qa_cl, tk_link, kn12], ?_⟩
    intro z5 ez5
    replace ez5 := ez5.trans (la_rd nS (by decide) (by decide) wq4)
    intro z6 ez6
    refine ⟨fun c2 => ?_, fun c2 => ?_⟩
    · intro z8 ez8
      have hrz8 : -2147483648 ≤ x3.toInt + 1 ∧ x3.toInt + 1 < 2147483648 := by (try clear hk2); grind [k_ii, k_ir, k_ri, k_rr, k_ai, k_ar, k_li, k_lr, k_qi, k_qr, ar_ci, ar_cl, ar_cq, la_ci, la_ca, la_cq, qa_ci, qa_ca, qa_cl, tk_link, kn12]
      replace ez8 : z8.toInt = x3.toInt + 1 := w_add ez8 hrz8
      clear hrz8
      exact hk2 _ (by (try clear hk2); grind [k_ii, k_ir, k_ri, k_rr, k_ai, k_ar, k_li, k_lr, k_qi, k_qr, ar_ci, ar_cl, ar_cq, la_ci, la_ca, la_cq, qa_ci, qa_ca, qa_cl, tk_link, kn12]) (by (try clear hk2); grind [k_ii, k_ir, k_ri, k_rr, k_ai, k_ar, k_li, k_lr, k_qi, k_qr, ar_ci, ar_cl, ar_cq, la_ci, la_ca, la_cq, qa_ci, qa_ca, qa_cl, tk_link, kn12])
    · exact by (try clear hk2); grind [k_ii, k_ir, k_ri, k_rr, k_ai, k_ar, k_li, k_lr, k_qi, k_qr, ar_ci, ar_cl, ar_cq, la_ci, la_ca, la_cq, qa_ci, qa_ca, qa_cl, tk_link, kn12]
