
set_option maxHeartbeats 400000 in
theorem sk_X10_longer (a0 : Int64) (a1 : Int32) {S : kS} (hI : INJ S) : wT_X10_longer a0 a1 S (fun S1 r => S = S1) := by
  have nS : FX [] S S := FX_rf
  unfold wT_X10_longer
  intro z1 ez1
  refine kmT_X10_isDigit _ _ _ _ (fun S2 r2 hF1 pS2 => ?_) (sk_X10_isDigit _ (INJ_x nS (by decide) hI) )
  obtain ⟨rfl, pS2⟩ := pS2
  clear hF1
  refine ⟨fun c2 => ?_, fun c2 => ?_⟩
  · intro z4 ez4
    intro z5 ez5
    unfold wT_X10_longer_28
    intro z8 ez8
    intro z9 ez9
    exact by grind [k_ii, k_ir, k_ri, k_rr, k_ai, k_ar, k_li, k_lr, k_qi, k_qr, ar_ci, ar_cl, ar_cq, la_ci, la_ca, la_cq, qa_ci, qa_ca, qa_cl, tk_link]
  · intro z6 ez6
    intro z7 ez7
    unfold wT_X10_longer_28
    intro z8 ez8
    intro z9 ez9
    exact by grind [k_ii, k_ir, k_ri, k_rr, k_ai, k_ar, k_li, k_lr, k_qi, k_qr, ar_ci, ar_cl, ar_cq, la_ci, la_ca, la_cq, qa_ci, qa_ca, qa_cl, tk_link]
