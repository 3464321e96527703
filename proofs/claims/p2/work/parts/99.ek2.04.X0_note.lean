
set_option maxHeartbeats 400000 in
theorem sk_X0_note (t0 : Nat) (a0 : Int32) (a1 : Int32) {S : kS} (hI : INJ S) (h : 0 ≤ (S.1 0 t0).toInt ∧ (S.1 0 t0).toInt ≤ 1000000000) : wT_X0_note t0 a0 a1 S (fun S1 => (S1.1 0 t0).toInt = (S.1 0 t0).toInt + 1 ∧ ∀ o, o ≠ t0 → S1.1 0 o = S.1 0 o) := by
  have nS : FX [] S S := FX_rf
  unfold wT_X0_note
  intro z1 ez1
  refine ⟨fun c1 => ?_, fun c1 => ?_⟩
  · unfold wT_X0_note_30
    intro z11 ez11
    intro z12 ez12
    have hrz12 : -2147483648 ≤ z11.toInt + 1 ∧ z11.toInt + 1 < 2147483648 := by grind [k_ii, k_ir, k_ri, k_rr, k_ai, k_ar, k_li, k_lr, k_qi, k_qr, ar_ci, ar_cl, ar_cq, la_ci, la_ca, la_cq, qa_ci, qa_ca, qa_cl, tk_link, kn300]
    replace ez12 : z12.toInt = z11.toInt + 1 := w_add ez12 hrz12
    clear hrz12
    intro S13 eS13
    have nS13 : FX [] S S13 := FX_i eS13 nS
    exact by grind [k_ii, k_ir, k_ri, k_rr, k_ai, k_ar, k_li, k_lr, k_qi, k_qr, ar_ci, ar_cl, ar_cq, la_ci, la_ca, la_cq, qa_ci, qa_ca, qa_cl, tk_link, kn300]
  · intro z3 ez3
    intro z4 ez4
    intro q5 eq5
    have wq5 := rd_w nS (by decide) ez3 eq5
    refine ⟨by grind [k_ii, k_ir, k_ri, k_rr, k_ai, k_ar, k_li, k_lr, k_qi, k_qr, ar_ci, ar_cl, ar_cq, la_ci, la_ca, la_cq, qa_ci, qa_ca, qa_cl, tk_link, kn300], ?_⟩
    intro S6 eS6
    have nS6 : FX [] S S6 := FX_a eS6 nS
    have arS6 := ar_wr hI nS (by decide) (by decide) wq5 eS6
    intro z7 ez7
    intro z8 ez8
    intro q9 eq9
    have wq9 := rd_w nS6 (by decide) ez7 eq9
    refine ⟨by grind [k_ii, k_ir, k_ri, k_rr, k_ai, k_ar, k_li, k_lr, k_qi, k_qr, ar_ci, ar_cl, ar_cq, la_ci, la_ca, la_cq, qa_ci, qa_ca, qa_cl, tk_link, kn300], ?_⟩
    intro S10 eS10
    have nS10 : FX [] S S10 := FX_a eS10 nS6
    have arS10 := ar_wr hI nS6 (by decide) (by decide) wq9 eS10
    unfold wT_X0_note_30
    intro z11 ez11
    intro z12 ez12
    have hrz12 : -2147483648 ≤ z11.toInt + 1 ∧ z11.toInt + 1 < 2147483648 := by grind [k_ii, k_ir, k_ri, k_rr, k_ai, k_ar, k_li, k_lr, k_qi, k_qr, ar_ci, ar_cl, ar_cq, la_ci, la_ca, la_cq, qa_ci, qa_ca, qa_cl, tk_link, kn300]
    replace ez12 : z12.toInt = z11.toInt + 1 := w_add ez12 hrz12
    clear hrz12
    intro S13 eS13
    have nS13 : FX [] S S13 := FX_i eS13 nS10
    exact by grind [k_ii, k_ir, k_ri, k_rr, k_ai, k_ar, k_li, k_lr, k_qi, k_qr, ar_ci, ar_cl, ar_cq, la_ci, la_ca, la_cq, qa_ci, qa_ca, qa_cl, tk_link, kn300]
