
set_option maxHeartbeats 400000 in
theorem sk_X7_is (t0 : Nat) (a0 : Int32) (a1 : Int32) {S : kS} (hI : INJ S) (ha : 0 ≤ a0.toInt ∧ a0.toInt < 460) : wT_X7_is t0 a0 a1 S (fun S1 r => S = S1 ∧ (r = 0 ∨ r = 1) ∧ (r = 1 ↔ ar S 49 t0 (ix a0) &&& a1 ≠ 0)) := by
  have nS : FX [] S S := FX_rf
  unfold wT_X7_is
  intro z1 ez1
  intro q2 eq2
  have wq2 := rd_w nS (by decide) ez1 eq2
  refine ⟨by grind [k_ii, k_ir, k_ri, k_rr, k_ai, k_ar, k_li, k_lr, k_qi, k_qr, ar_ci, ar_cl, ar_cq, la_ci, la_ca, la_cq, qa_ci, qa_ca, qa_cl, tk_link, kn460], ?_⟩
  intro z3 ez3
  replace ez3 := ez3.trans (ar_rd nS (by decide) (by decide) wq2)
  intro z4 ez4
  refine ⟨fun c1 => ?_, fun c1 => ?_⟩
  · exact by grind [k_ii, k_ir, k_ri, k_rr, k_ai, k_ar, k_li, k_lr, k_qi, k_qr, ar_ci, ar_cl, ar_cq, la_ci, la_ca, la_cq, qa_ci, qa_ca, qa_cl, tk_link, kn460]
  · exact by grind [k_ii, k_ir, k_ri, k_rr, k_ai, k_ar, k_li, k_lr, k_qi, k_qr, ar_ci, ar_cl, ar_cq, la_ci, la_ca, la_cq, qa_ci, qa_ca, qa_cl, tk_link, kn460]
