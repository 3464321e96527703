
set_option maxHeartbeats 400000 in
theorem sk_X2_clear (t0 : Nat) {S : kS} (hI : INJ S) : wT_X2_clear t0 S (fun S1 => (∀ x, S1.2.1 12 x = if x = t0 then none else S.2.1 12 x) ∧ (∀ x, S1.2.1 13 x = if x = t0 then none else S.2.1 13 x)) := by
  have nS : FX [12, 13] S S := FX_rf
  unfold wT_X2_clear
  intro S1 eS1
  have nS1 : FX [12, 13] S S1 := FX_r eS1 (by decide) nS
  have arS1 := ar_cr eS1 (by decide)
  have laS1 := la_cr eS1 (by decide)
  have qaS1 := qa_cr eS1 (by decide)
  intro S2 eS2
  have nS2 : FX [12, 13] S S2 := FX_r eS2 (by decide) nS1
  have arS2 := ar_cr eS2 (by decide)
  have laS2 := la_cr eS2 (by decide)
  have qaS2 := qa_cr eS2 (by decide)
  exact by grind [k_ii, k_ir, k_ri, k_rr, k_ai, k_ar, k_li, k_lr, k_qi, k_qr, ar_ci, ar_cl, ar_cq, la_ci, la_ca, la_cq, qa_ci, qa_ca, qa_cl, tk_link]
