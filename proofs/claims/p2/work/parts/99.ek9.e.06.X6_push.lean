
set_option maxHeartbeats 400000 in
theorem sk_X6_push (t0 : Nat) (a0 : Int32) {S : kS} (hI : INJ S) (h : 0 ≤ (S.1 21 t0).toInt ∧ (S.1 21 t0).toInt ≤ 64) : wT_X6_push t0 a0 S (fun S1 => 0 ≤ (S1.1 21 t0).toInt ∧ (S1.1 21 t0).toInt ≤ 64) := by
  have nS : FX [] S S := FX_rf
  unfold wT_X6_push
  intro z1 ez1
  refine ⟨fun c1 => ?_, fun c1 => ?_⟩
  · exact by grind [k_ii, k_ir, k_ri, k_rr, k_ai, k_ar, k_li, k_lr, k_qi, k_qr, ar_ci, ar_cl, ar_cq, la_ci, la_ca, la_cq, qa_ci, qa_ca, qa_cl, tk_link, kn64]
  · intro z3 ez3
    intro z4 ez4
    intro q5 eq5
    have wq5 := rd_w nS (by decide) ez3 eq5
    refine ⟨by grind [k_ii, k_ir, k_ri, k_rr, k_ai, k_ar, k_li, k_lr, k_qi, k_qr, ar_ci, ar_cl, ar_cq, la_ci, la_ca, la_cq, qa_ci, qa_ca, qa_cl, tk_link, kn64], ?_⟩
    intro S6 eS6
    have nS6 : FX [] S S6 := FX_a eS6 nS
    have arS6 := ar_wr hI nS (by decide) (by decide) wq5 eS6
    intro z7 ez7
    intro z8 ez8
    have hrz8 : -2147483648 ≤ z7.toInt + 1 ∧ z7.toInt + 1 < 2147483648 := by grind [k_ii, k_ir, k_ri, k_rr, k_ai, k_ar, k_li, k_lr, k_qi, k_qr, ar_ci, ar_cl, ar_cq, la_ci, la_ca, la_cq, qa_ci, qa_ca, qa_cl, tk_link, kn64]
    replace ez8 : z8.toInt = z7.toInt + 1 := w_add ez8 hrz8
    clear hrz8
    intro S9 eS9
    have nS9 : FX [] S S9 := FX_i eS9 nS6
    exact by grind [k_ii, k_ir, k_ri, k_rr, k_ai, k_ar, k_li, k_lr, k_qi, k_qr, ar_ci, ar_cl, ar_cq, la_ci, la_ca, la_cq, qa_ci, qa_ca, qa_cl, tk_link, kn64]
