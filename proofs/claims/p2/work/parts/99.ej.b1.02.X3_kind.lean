
set_option maxHeartbeats 400000 in
theorem sk_X3_kind {tk : Nat} (t0 : Nat) {S : kS} (hI : INJ S) (hO14_t0 : S.2.1 14 t0 = some tk) (ha : 0 ≤ (S.1 6 t0).toInt ∧ (S.1 6 t0).toInt ≤ 4001) : wT_X3_kind t0 S (fun S1 r => S = S1 ∧ r = ar S 64 tk (ix (S.1 6 t0))) := by
  have nS : FX [] S S := FX_rf
  unfold wT_X3_kind
  intro z1 ez1
  intro q2 eq2
  obtain rfl := ob_q nS (by decide) hO14_t0 ez1 eq2
  intro z3 ez3
  intro z4 ez4
  intro q5 eq5
  have wq5 := rd_w nS (by decide) ez3 eq5
  refine ⟨by grind [k_ii, k_ir, k_ri, k_rr, k_ai, k_ar, k_li, k_lr, k_qi, k_qr, ar_ci, ar_cl, ar_cq, la_ci, la_ca, la_cq, qa_ci, qa_ca, qa_cl, tk_link, kn4002], ?_⟩
  intro z6 ez6
  replace ez6 := ez6.trans (ar_rd nS (by decide) (by decide) wq5)
  exact by grind [k_ii, k_ir, k_ri, k_rr, k_ai, k_ar, k_li, k_lr, k_qi, k_qr, ar_ci, ar_cl, ar_cq, la_ci, la_ca, la_cq, qa_ci, qa_ca, qa_cl, tk_link, kn4002]
