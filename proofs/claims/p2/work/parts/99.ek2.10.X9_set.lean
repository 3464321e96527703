
set_option maxHeartbeats 400000 in
theorem sk_X9_set (t0 : Nat) (a0 : Int32) (a1 : Int32) {S : kS} (hI : INJ S) : wT_X9_set t0 a0 a1 S (fun S1 => True) := by
  have nS : FX [] S S := FX_rf
  unfold wT_X9_set
  refine ⟨fun c1 => ?_, fun c1 => ?_⟩
  · exact by grind [k_ii, k_ir, k_ri, k_rr, k_ai, k_ar, k_li, k_lr, k_qi, k_qr, ar_ci, ar_cl, ar_cq, la_ci, la_ca, la_cq, qa_ci, qa_ca, qa_cl, tk_link, kn12]
  · refine ⟨fun c2 => ?_, fun c2 => ?_⟩
    · exact by grind [k_ii, k_ir, k_ri, k_rr, k_ai, k_ar, k_li, k_lr, k_qi, k_qr, ar_ci, ar_cl, ar_cq, la_ci, la_ca, la_cq, qa_ci, qa_ca, qa_cl, tk_link, kn12]
    · intro z3 ez3
      intro q4 eq4
      have wq4 := rd_w nS (by decide) ez3 eq4
      refine ⟨by grind [k_ii, k_ir, k_ri, k_rr, k_ai, k_ar, k_li, k_lr, k_qi, k_qr, ar_ci, ar_cl, ar_cq, la_ci, la_ca, la_cq, qa_ci, qa_ca, qa_cl, tk_link, kn12], ?_⟩
      intro S5 eS5
      have nS5 : FX [] S S5 := FX_a eS5 nS
      have arS5 := ar_wr hI nS (by decide) (by decide) wq4 eS5
      exact by grind [k_ii, k_ir, k_ri, k_rr, k_ai, k_ar, k_li, k_lr, k_qi, k_qr, ar_ci, ar_cl, ar_cq, la_ci, la_ca, la_cq, qa_ci, qa_ca, qa_cl, tk_link, kn12]
