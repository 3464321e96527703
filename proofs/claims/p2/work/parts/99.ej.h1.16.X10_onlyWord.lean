
set_option maxHeartbeats 400000 in
theorem sk_X10_onlyWord (t0 : Nat) {S : kS} (hI : INJ S) : wT_X10_onlyWord t0 S (fun S1 r => S = S1) := by
  have nS : FX [] S S := FX_rf
  unfold wT_X10_onlyWord
  intro z1 ez1
  refine ⟨fun c1 => ?_, fun c1 => ?_⟩
  · unfold wT_X10_onlyWord_27
    unfold wT_X10_onlyWord_28
    exact by grind [k_ii, k_ir, k_ri, k_rr, k_ai, k_ar, k_li, k_lr, k_qi, k_qr, ar_ci, ar_cl, ar_cq, la_ci, la_ca, la_cq, qa_ci, qa_ca, qa_cl, tk_link, kn4002]
  · intro z3 ez3
    intro q4 eq4
    have wq4 := rd_w nS (by decide) ez3 eq4
    refine ⟨by grind [k_ii, k_ir, k_ri, k_rr, k_ai, k_ar, k_li, k_lr, k_qi, k_qr, ar_ci, ar_cl, ar_cq, la_ci, la_ca, la_cq, qa_ci, qa_ca, qa_cl, tk_link, kn4002], ?_⟩
    intro z5 ez5
    replace ez5 := ez5.trans (ar_rd nS (by decide) (by decide) wq4)
    refine ⟨fun c2 => ?_, fun c2 => ?_⟩
    · unfold wT_X10_onlyWord_27
      unfold wT_X10_onlyWord_28
      exact by grind [k_ii, k_ir, k_ri, k_rr, k_ai, k_ar, k_li, k_lr, k_qi, k_qr, ar_ci, ar_cl, ar_cq, la_ci, la_ca, la_cq, qa_ci, qa_ca, qa_cl, tk_link, kn4002]
    · intro z7 ez7
      intro q8 eq8
      have wq8 := rd_w nS (by decide) ez7 eq8
      refine ⟨by grind [k_ii, k_ir, k_ri, k_rr, k_ai, k_ar, k_li, k_lr, k_qi, k_qr, ar_ci, ar_cl, ar_cq, la_ci, la_ca, la_cq, qa_ci, qa_ca, qa_cl, tk_link, kn4002], ?_⟩
      intro z9 ez9
      replace ez9 := ez9.trans (la_rd nS (by decide) (by decide) wq8)
      unfold wT_X10_onlyWord_28
      exact by grind [k_ii, k_ir, k_ri, k_rr, k_ai, k_ar, k_li, k_lr, k_qi, k_qr, ar_ci, ar_cl, ar_cq, la_ci, la_ca, la_cq, qa_ci, qa_ca, qa_cl, tk_link, kn4002]
