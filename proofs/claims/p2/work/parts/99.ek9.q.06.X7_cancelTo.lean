
set_option maxHeartbeats 400000 in
theorem sk_X7_cancelTo (t0 : Nat) (a0 : Int32) (a1 : Int32) {S : kS} (hI : INJ S) (ho : ∀ i, -1 ≤ (ar S 43 t0 i).toInt ∧ (ar S 43 t0 i).toInt ≤ 1379) (ha : -1 ≤ a0.toInt ∧ a0.toInt ≤ 1379) : wT_X7_cancelTo t0 a0 a1 S (fun S1 r => S = S1) := by
  have nS : FX [] S S := FX_rf
  unfold wT_X7_cancelTo
  refine kmT_X7_leaveTo _ _ _ _ _ _ _ (fun S1 r1 hF1 pS1 => ?_) (sk_X7_leaveTo _ _ _ _ (INJ_x nS (by decide) hI) ho ha)
  obtain ⟨rfl, pS1⟩ := pS1
  clear hF1
  exact by grind [k_ii, k_ir, k_ri, k_rr, k_ai, k_ar, k_li, k_lr, k_qi, k_qr, ar_ci, ar_cl, ar_cq, la_ci, la_ca, la_cq, qa_ci, qa_ca, qa_cl, tk_link]
