
set_option maxHeartbeats 400000 in
theorem sk_X6_pop (t0 : Nat) {S : kS} (hI : INJ S) (h : 0 ≤ (S.1 21 t0).toInt ∧ (S.1 21 t0).toInt ≤ 64) : wT_X6_pop t0 S (fun S1 r => 0 ≤ (S1.1 21 t0).toInt ∧ (S1.1 21 t0).toInt ≤ 64) := by
  have nS : FX [] S S := FX_rf
  unfold wT_X6_pop
  intro z1 ez1
  refine ⟨fun c1 => ?_, fun c1 => ?_⟩
  · intro z3 ez3
    intro z4 ez4
    have hrz4 : -2147483648 ≤ z3.toInt - 1 ∧ z3.toInt - 1 < 2147483648 := by grind [k_ii, k_ir, k_ri, k_rr, k_ai, k_ar, k_li, k_lr, k_qi, k_qr, ar_ci, ar_cl, ar_cq, la_ci, la_ca, la_cq, qa_ci, qa_ca, qa_cl, tk_link, kn64]
    replace ez4 : z4.toInt = z3.toInt - 1 := w_sub ez4 hrz4
    clear hrz4
    intro S5 eS5
    have nS5 : FX [] S S5 := FX_i eS5 nS
    intro z6 ez6
    intro z7 ez7
    intro q8 eq8
    have wq8 := rd_w nS5 (by decide) ez6 eq8
    refine ⟨by grind [k_ii, k_ir, k_ri, k_rr, k_ai, k_ar, k_li, k_lr, k_qi, k_qr, ar_ci, ar_cl, ar_cq, la_ci, la_ca, la_cq, qa_ci, qa_ca, qa_cl, tk_link, kn64], ?_⟩
    intro z9 ez9
    replace ez9 := ez9.trans (ar_rd nS5 (by decide) (by decide) wq8)
    exact by grind [k_ii, k_ir, k_ri, k_rr, k_ai, k_ar, k_li, k_lr, k_qi, k_qr, ar_ci, ar_cl, ar_cq, la_ci, la_ca, la_cq, qa_ci, qa_ca, qa_cl, tk_link, kn64]
  · exact by grind [k_ii, k_ir, k_ri, k_rr, k_ai, k_ar, k_li, k_lr, k_qi, k_qr, ar_ci, ar_cl, ar_cq, la_ci, la_ca, la_cq, qa_ci, qa_ca, qa_cl, tk_link, kn64]
