
set_option maxHeartbeats 400000 in
theorem sk_X3_emit {pg : Nat} (t0 : Nat) (a0 : Int32) (a1 : Int32) {S : kS} (hI : INJ S) (hO15_t0 : S.2.1 15 t0 = some pg) (h : 0 ≤ (S.1 17 pg).toInt) : wT_X3_emit t0 a0 a1 S (fun S1 r => 0 ≤ r.toInt ∧ r.toInt ≤ 8063 ∧ (((S.1 17 pg).toInt < 8064 ∧ r.toInt = (S.1 17 pg).toInt ∧ (S1.1 17 pg).toInt = (S.1 17 pg).toInt + 1 ∧ (∀ i, ar S1 28 pg i = if i = ix (S.1 17 pg) then a0 else ar S 28 pg i) ∧ (∀ i, ar S1 29 pg i = if i = ix (S.1 17 pg) then a1 else ar S 29 pg i) ∧ (∀ i, ar S1 30 pg i = if i = ix (S.1 17 pg) then S.1 8 t0 else ar S 30 pg i)) ∨ (8064 ≤ (S.1 17 pg).toInt ∧ S1 = S))) := by
  have nS : FX [] S S := FX_rf
  unfold wT_X3_emit
  intro z1 ez1
  intro z2 ez2
  refine ⟨pg, ob_e nS (by decide) hO15_t0 ez1, ?_⟩
  refine kmT_X5_emit _ _ _ _ _ _ _ (fun S4 r4 hF1 pS4 => ?_) (sk_X5_emit _ _ _ _ (INJ_x nS (by decide) hI) (by grind [k_ii, k_ir, k_ri, k_rr, k_ai, k_ar, k_li, k_lr, k_qi, k_qr, ar_ci, ar_cl, ar_cq, la_ci, la_ca, la_cq, qa_ci, qa_ca, qa_cl, tk_link]))
  have nS4 : FX [] S S4 := FX_k hF1 (by decide) nS
  clear hF1
  exact by grind [k_ii, k_ir, k_ri, k_rr, k_ai, k_ar, k_li, k_lr, k_qi, k_qr, ar_ci, ar_cl, ar_cq, la_ci, la_ca, la_cq, qa_ci, qa_ca, qa_cl, tk_link]
