
set_option maxHeartbeats 400000 in
theorem sk_X3_step {tk : Nat} (t0 : Nat) {S : kS} (hI : INJ S) (hO14_t0 : S.2.1 14 t0 = some tk) (ha : 0 ≤ (S.1 6 t0).toInt ∧ (S.1 6 t0).toInt ≤ 4001) : wT_X3_step t0 S (fun S1 => ((S.1 6 t0).toInt + 1 < (S.1 40 tk).toInt ∧ (S1.1 6 t0).toInt = (S.1 6 t0).toInt + 1) ∨ (¬ (S.1 6 t0).toInt + 1 < (S.1 40 tk).toInt ∧ (S1.1 6 t0).toInt = (S.1 6 t0).toInt)) := by
  have nS : FX [] S S := FX_rf
  unfold wT_X3_step
  intro z1 ez1
  intro z2 ez2
  have hrz2 : -2147483648 ≤ z1.toInt + 1 ∧ z1.toInt + 1 < 2147483648 := by grind [k_ii, k_ir, k_ri, k_rr, k_ai, k_ar, k_li, k_lr, k_qi, k_qr, ar_ci, ar_cl, ar_cq, la_ci, la_ca, la_cq, qa_ci, qa_ca, qa_cl, tk_link]
  replace ez2 : z2.toInt = z1.toInt + 1 := w_add ez2 hrz2
  clear hrz2
  intro z3 ez3
  intro q4 eq4
  obtain rfl := ob_q nS (by decide) hO14_t0 ez3 eq4
  intro z5 ez5
  refine ⟨fun c1 => ?_, fun c1 => ?_⟩
  · exact by grind [k_ii, k_ir, k_ri, k_rr, k_ai, k_ar, k_li, k_lr, k_qi, k_qr, ar_ci, ar_cl, ar_cq, la_ci, la_ca, la_cq, qa_ci, qa_ca, qa_cl, tk_link]
  · intro z7 ez7
    intro z8 ez8
    have hrz8 : -2147483648 ≤ z7.toInt + 1 ∧ z7.toInt + 1 < 2147483648 := by grind [k_ii, k_ir, k_ri, k_rr, k_ai, k_ar, k_li, k_lr, k_qi, k_qr, ar_ci, ar_cl, ar_cq, la_ci, la_ca, la_cq, qa_ci, qa_ca, qa_cl, tk_link]
    replace ez8 : z8.toInt = z7.toInt + 1 := w_add ez8 hrz8
    clear hrz8
    intro S9 eS9
    have nS9 : FX [] S S9 := FX_i eS9 nS
    exact by grind [k_ii, k_ir, k_ri, k_rr, k_ai, k_ar, k_li, k_lr, k_qi, k_qr, ar_ci, ar_cl, ar_cq, la_ci, la_ca, la_cq, qa_ci, qa_ca, qa_cl, tk_link]
