
set_option maxHeartbeats 400000 in
theorem sk_X11_lost (t0 : Nat) (a0 : Int32) (a1 : Int32) {S : kS} (hI : INJ S) : wT_X11_lost t0 a0 a1 S (fun S1 r => S = S1) := by
  have nS : FX [] S S := FX_rf
  unfold wT_X11_lost
  intro z1 ez1
  intro q2 eq2
  have wq2 := rd_w nS (by decide) ez1 eq2
  intro z3 ez3
  intro q4 eq4
  have wq4 := rd_w nS (by decide) ez3 eq4
  refine kmT_X0_tell _ _ _ _ _ _ (fun S5 r5 hF1 pS5 => ?_) (sk_X0_tell _ _ _ (INJ_x nS (by decide) hI) )
  obtain ⟨rfl, pS5⟩ := pS5
  clear hF1
  exact by grind [k_ii, k_ir, k_ri, k_rr, k_ai, k_ar, k_li, k_lr, k_qi, k_qr, ar_ci, ar_cl, ar_cq, la_ci, la_ca, la_cq, qa_ci, qa_ca, qa_cl, tk_link]
