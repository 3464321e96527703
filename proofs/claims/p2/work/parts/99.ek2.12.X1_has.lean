
set_option maxHeartbeats 400000 in
theorem sk_X1_has (t0 : Nat) (a0 : Int32) {S : kS} (hI : INJ S) : wT_X1_has t0 a0 S (fun S1 r => S = S1 ∧ (r ≠ 0 → 0 ≤ a0.toInt ∧ a0.toInt < (S.1 1 t0).toInt)) := by
  have nS : FX [] S S := FX_rf
  unfold wT_X1_has
  refine ⟨fun c1 => ?_, fun c1 => ?_⟩
  · exact by grind [k_ii, k_ir, k_ri, k_rr, k_ai, k_ar, k_li, k_lr, k_qi, k_qr, ar_ci, ar_cl, ar_cq, la_ci, la_ca, la_cq, qa_ci, qa_ca, qa_cl, tk_link]
  · intro z2 ez2
    refine ⟨fun c2 => ?_, fun c2 => ?_⟩
    · exact by grind [k_ii, k_ir, k_ri, k_rr, k_ai, k_ar, k_li, k_lr, k_qi, k_qr, ar_ci, ar_cl, ar_cq, la_ci, la_ca, la_cq, qa_ci, qa_ca, qa_cl, tk_link]
    · exact by grind [k_ii, k_ir, k_ri, k_rr, k_ai, k_ar, k_li, k_lr, k_qi, k_qr, ar_ci, ar_cl, ar_cq, la_ci, la_ca, la_cq, qa_ci, qa_ca, qa_cl, tk_link]
