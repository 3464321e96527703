
set_option maxHeartbeats 400000 in
theorem sk_X6_end (t0 : Nat) (a0 : Nat) (a1 : Int32) (a2 : Int32) {S : kS} (hI : INJ S) : wT_X6_end t0 a0 a1 a2 S (fun S1 => S1.1 22 t0 = 3) := by
  have nS : FX [] S S := FX_rf
  unfold wT_X6_end
  intro S1 eS1
  have nS1 : FX [] S S1 := FX_i eS1 nS
  intro S2 eS2
  have nS2 : FX [] S S2 := FX_i eS2 nS1
  intro S3 eS3
  have nS3 : FX [] S S3 := FX_i eS3 nS2
  exact by grind [k_ii, k_ir, k_ri, k_rr, k_ai, k_ar, k_li, k_lr, k_qi, k_qr, ar_ci, ar_cl, ar_cq, la_ci, la_ca, la_cq, qa_ci, qa_ca, qa_cl, tk_link]
