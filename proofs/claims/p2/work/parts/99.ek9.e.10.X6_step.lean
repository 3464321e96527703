
set_option maxHeartbeats 400000 in
theorem sk_X6_step (t0 : Nat) {S : kS} (hI : INJ S) (h : 0 ≤ (S.1 19 t0).toInt ∧ 0 ≤ (S.1 20 t0).toInt) : wT_X6_step t0 S (fun S1 r => (r = 0 ∧ S1 = S) ∨ (r ≠ 0 ∧ (S1.1 19 t0).toInt = (S.1 19 t0).toInt + 1 ∧ (S1.1 20 t0).toInt = (S.1 20 t0).toInt + 1 ∧ (S.1 19 t0).toInt < 100000 ∧ (S.1 20 t0).toInt < 3000)) := by
  have nS : FX [] S S := FX_rf
  unfold wT_X6_step
  intro z1 ez1
  refine ⟨fun c1 => ?_, fun c1 => ?_⟩
  · exact by grind [k_ii, k_ir, k_ri, k_rr, k_ai, k_ar, k_li, k_lr, k_qi, k_qr, ar_ci, ar_cl, ar_cq, la_ci, la_ca, la_cq, qa_ci, qa_ca, qa_cl, tk_link]
  · intro z3 ez3
    refine ⟨fun c2 => ?_, fun c2 => ?_⟩
    · intro z5 ez5
      intro z6 ez6
      have hrz6 : -2147483648 ≤ z5.toInt + 1 ∧ z5.toInt + 1 < 2147483648 := by grind [k_ii, k_ir, k_ri, k_rr, k_ai, k_ar, k_li, k_lr, k_qi, k_qr, ar_ci, ar_cl, ar_cq, la_ci, la_ca, la_cq, qa_ci, qa_ca, qa_cl, tk_link]
      replace ez6 : z6.toInt = z5.toInt + 1 := w_add ez6 hrz6
      clear hrz6
      intro S7 eS7
      have nS7 : FX [] S S7 := FX_i eS7 nS
      intro z8 ez8
      intro z9 ez9
      have hrz9 : -2147483648 ≤ z8.toInt + 1 ∧ z8.toInt + 1 < 2147483648 := by grind [k_ii, k_ir, k_ri, k_rr, k_ai, k_ar, k_li, k_lr, k_qi, k_qr, ar_ci, ar_cl, ar_cq, la_ci, la_ca, la_cq, qa_ci, qa_ca, qa_cl, tk_link]
      replace ez9 : z9.toInt = z8.toInt + 1 := w_add ez9 hrz9
      clear hrz9
      intro S10 eS10
      have nS10 : FX [] S S10 := FX_i eS10 nS7
      exact by grind [k_ii, k_ir, k_ri, k_rr, k_ai, k_ar, k_li, k_lr, k_qi, k_qr, ar_ci, ar_cl, ar_cq, la_ci, la_ca, la_cq, qa_ci, qa_ca, qa_cl, tk_link]
    · exact by grind [k_ii, k_ir, k_ri, k_rr, k_ai, k_ar, k_li, k_lr, k_qi, k_qr, ar_ci, ar_cl, ar_cq, la_ci, la_ca, la_cq, qa_ci, qa_ca, qa_cl, tk_link]
