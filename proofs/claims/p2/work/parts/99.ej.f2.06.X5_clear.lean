
set_option maxHeartbeats 400000 in
theorem sk_X5_clear {sc : Nat} (t0 : Nat) {S : kS} (hI : INJ S) (hO31_t0 : S.2.1 31 t0 = some sc) : wT_X5_clear t0 S (fun S1 => S1.1 17 t0 = 0 ∧ S1.1 18 t0 = 0 ∧ S1.1 24 sc = 0 ∧ S1.1 25 sc = 0) := by
  have nS : FX [] S S := FX_rf
  unfold wT_X5_clear
  intro S1 eS1
  have nS1 : FX [] S S1 := FX_i eS1 nS
  intro S2 eS2
  have nS2 : FX [] S S2 := FX_i eS2 nS1
  intro z3 ez3
  intro q4 eq4
  obtain rfl := ob_q nS2 (by decide) hO31_t0 ez3 eq4
  refine kmT_X7_clear _ _ _ _ (fun S5 hF1 pS5 => ?_) (sk_X7_clear _ (INJ_x nS2 (by decide) hI) )
  have nS5 : FX [] S S5 := FX_k hF1 (by decide) nS2
  have z17_S5 : ∀ o, S5.1 17 o = S2.1 17 o := fun o => congrFun (hF1.1 17 (by decide)) o
  have z18_S5 : ∀ o, S5.1 18 o = S2.1 18 o := fun o => congrFun (hF1.1 18 (by decide)) o
  clear hF1
  exact by grind [k_ii, k_ir, k_ri, k_rr, k_ai, k_ar, k_li, k_lr, k_qi, k_qr, ar_ci, ar_cl, ar_cq, la_ci, la_ca, la_cq, qa_ci, qa_ca, qa_cl, tk_link]
