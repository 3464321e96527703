
set_option maxHeartbeats 400000 in
theorem sk_X7_clear (t0 : Nat) {S : kS} (hI : INJ S) : wT_X7_clear t0 S (fun S1 => S1.1 24 t0 = 0 ∧ S1.1 25 t0 = 0) := by
  have nS : FX [] S S := FX_rf
  unfold wT_X7_clear
  intro S1 eS1
  have nS1 : FX [] S S1 := FX_i eS1 nS
  intro S2 eS2
  have nS2 : FX [] S S2 := FX_i eS2 nS1
  exact by grind [k_ii, k_ir, k_ri, k_rr, k_ai, k_ar, k_li, k_lr, k_qi, k_qr, ar_ci, ar_cl, ar_cq, la_ci, la_ca, la_cq, qa_ci, qa_ca, qa_cl, tk_link]
