
set_option maxHeartbeats 400000 in
theorem sk_X7_mark (t0 : Nat) (a0 : Int32) (a1 : Int32) {S : kS} (hI : INJ S) (ha : 0 ≤ a0.toInt ∧ a0.toInt < 460) : wT_X7_mark t0 a0 a1 S (fun S1 => ∀ i, ar S1 49 t0 i = if i = ix a0 then ar S 49 t0 i ||| a1 else ar S 49 t0 i) := by
  have nS : FX [] S S := FX_rf
  unfold wT_X7_mark
  intro z1 ez1
  intro q2 eq2
  have wq2 := rd_w nS (by decide) ez1 eq2
  refine ⟨by grind [k_ii, k_ir, k_ri, k_rr, k_ai, k_ar, k_li, k_lr, k_qi, k_qr, ar_ci, ar_cl, ar_cq, la_ci, la_ca, la_cq, qa_ci, qa_ca, qa_cl, tk_link, kn460], ?_⟩
  intro z3 ez3
  replace ez3 := ez3.trans (ar_rd nS (by decide) (by decide) wq2)
  intro z4 ez4
  refine ⟨by grind [k_ii, k_ir, k_ri, k_rr, k_ai, k_ar, k_li, k_lr, k_qi, k_qr, ar_ci, ar_cl, ar_cq, la_ci, la_ca, la_cq, qa_ci, qa_ca, qa_cl, tk_link, kn460], ?_⟩
  intro S5 eS5
  have nS5 : FX [] S S5 := FX_a eS5 nS
  have arS5 := ar_wr hI nS (by decide) (by decide) wq2 eS5
  exact by grind [k_ii, k_ir, k_ri, k_rr, k_ai, k_ar, k_li, k_lr, k_qi, k_qr, ar_ci, ar_cl, ar_cq, la_ci, la_ca, la_cq, qa_ci, qa_ca, qa_cl, tk_link, kn460]
