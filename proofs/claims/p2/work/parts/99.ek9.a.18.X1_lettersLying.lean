
set_option maxHeartbeats 400000 in
theorem sk_X1_lettersLying (t0 : Nat) {S : kS} (hI : INJ S) : wT_X1_lettersLying t0 S (fun S1 r => S = S1) := by
  have nS : FX [] S S := FX_rf
  unfold wT_X1_lettersLying
  refine it_rule (fun u : Nat × Int32 × Int32 × kS => (FX [] S u.2.2.2) ∧ (S = u.2.2.2 ∧ t0 = u.1 ∧ 0 ≤ u.2.2.1.toInt ∧ u.2.2.1.toInt ≤ 8)) (fun u => (8 - u.2.2.1.toInt).toNat) ?_ (by (try clear hk4); grind [k_ii, k_ir, k_ri, k_rr, k_ai, k_ar, k_li, k_lr, k_qi, k_qr, ar_ci, ar_cl, ar_cq, la_ci, la_ca, la_cq, qa_ci, qa_ca, qa_cl, tk_link, kn8])
  rintro ⟨x0, x1, x2, Sl4⟩ k4 hI4 hk4
  replace hI4 : (FX [] S Sl4) ∧ (S = Sl4 ∧ t0 = x0 ∧ 0 ≤ x2.toInt ∧ x2.toInt ≤ 8) := hI4
  obtain ⟨nSl4, hI4⟩ := hI4
  replace hk4 : ∀ v : Nat × Int32 × Int32 × kS, (FX [] S v.2.2.2) ∧ (S = v.2.2.2 ∧ t0 = v.1 ∧ 0 ≤ v.2.2.1.toInt ∧ v.2.2.1.toInt ≤ 8) → (8 - v.2.2.1.toInt).toNat < (8 - x2.toInt).toNat → k4 v := hk4
  show wT_X1_lettersLying_4 _ k4 x0 x1 x2 Sl4
  unfold wT_X1_lettersLying_4
  obtain ⟨rfl, hI4⟩ := hI4
  obtain ⟨rfl, hI4⟩ := hI4
  refine ⟨fun c1 => ?_, fun c1 => ?_⟩
  · exact by (try clear hk4); grind [k_ii, k_ir, k_ri, k_rr, k_ai, k_ar, k_li, k_lr, k_qi, k_qr, ar_ci, ar_cl, ar_cq, la_ci, la_ca, la_cq, qa_ci, qa_ca, qa_cl, tk_link, kn8]
  · intro z2 ez2
    intro q3 eq3
    have wq3 := rd_w nS (by decide) ez2 eq3
    refine ⟨by (try clear hk4); grind [k_ii, k_ir, k_ri, k_rr, k_ai, k_ar, k_li, k_lr, k_qi, k_qr, ar_ci, ar_cl, ar_cq, la_ci, la_ca, la_cq, qa_ci, qa_ca, qa_cl, tk_link, kn8], ?_⟩
    intro z4 ez4
    replace ez4 := ez4.trans (ar_rd nS (by decide) (by decide) wq3)
    intro z5 ez5
    intro z6 ez6
    have hrz6 : -2147483648 ≤ x2.toInt + 1 ∧ x2.toInt + 1 < 2147483648 := by (try clear hk4); grind [k_ii, k_ir, k_ri, k_rr, k_ai, k_ar, k_li, k_lr, k_qi, k_qr, ar_ci, ar_cl, ar_cq, la_ci, la_ca, la_cq, qa_ci, qa_ca, qa_cl, tk_link, kn8]
    replace ez6 : z6.toInt = x2.toInt + 1 := w_add ez6 hrz6
    clear hrz6
    exact hk4 _ (by (try clear hk4); grind [k_ii, k_ir, k_ri, k_rr, k_ai, k_ar, k_li, k_lr, k_qi, k_qr, ar_ci, ar_cl, ar_cq, la_ci, la_ca, la_cq, qa_ci, qa_ca, qa_cl, tk_link, kn8]) (by (try clear hk4); grind [k_ii, k_ir, k_ri, k_rr, k_ai, k_ar, k_li, k_lr, k_qi, k_qr, ar_ci, ar_cl, ar_cq, la_ci, la_ca, la_cq, qa_ci, qa_ca, qa_cl, tk_link, kn8])
