
set_option maxHeartbeats 400000 in
theorem sk_X5_emit (t0 : Nat) (a0 : Int32) (a1 : Int32) (a2 : Int32) {S : kS} (hI : INJ S) (h : 0 ≤ (S.1 17 t0).toInt) : wT_X5_emit t0 a0 a1 a2 S (fun S1 r => 0 ≤ r.toInt ∧ r.toInt ≤ 8063 ∧ (((S.1 17 t0).toInt < 8064 ∧ r.toInt = (S.1 17 t0).toInt ∧ (S1.1 17 t0).toInt = (S.1 17 t0).toInt + 1 ∧ (∀ i, ar S1 28 t0 i = if i = ix (S.1 17 t0) then a0 else ar S 28 t0 i) ∧ (∀ i, ar S1 29 t0 i = if i = ix (S.1 17 t0) then a1 else ar S 29 t0 i) ∧ (∀ i, ar S1 30 t0 i = if i = ix (S.1 17 t0) then a2 else ar S 30 t0 i)) ∨ (8064 ≤ (S.1 17 t0).toInt ∧ S1 = S))) := by
  have nS : FX [] S S := FX_rf
  unfold wT_X5_emit
  intro z1 ez1
  refine ⟨fun c1 => ?_, fun c1 => ?_⟩
  · intro z3 ez3
    intro z4 ez4
    intro q5 eq5
    have wq5 := rd_w nS (by decide) ez3 eq5
    refine ⟨by grind [k_ii, k_ir, k_ri, k_rr, k_ai, k_ar, k_li, k_lr, k_qi, k_qr, ar_ci, ar_cl, ar_cq, la_ci, la_ca, la_cq, qa_ci, qa_ca, qa_cl, tk_link, kn8064], ?_⟩
    intro S6 eS6
    have nS6 : FX [] S S6 := FX_a eS6 nS
    have arS6 := ar_wr hI nS (by decide) (by decide) wq5 eS6
    intro z7 ez7
    intro z8 ez8
    intro q9 eq9
    have wq9 := rd_w nS6 (by decide) ez7 eq9
    refine ⟨by grind [k_ii, k_ir, k_ri, k_rr, k_ai, k_ar, k_li, k_lr, k_qi, k_qr, ar_ci, ar_cl, ar_cq, la_ci, la_ca, la_cq, qa_ci, qa_ca, qa_cl, tk_link, kn8064], ?_⟩
    intro S10 eS10
    have nS10 : FX [] S S10 := FX_a eS10 nS6
    have arS10 := ar_wr hI nS6 (by decide) (by decide) wq9 eS10
    intro z11 ez11
    intro z12 ez12
    intro q13 eq13
    have wq13 := rd_w nS10 (by decide) ez11 eq13
    refine ⟨by grind [k_ii, k_ir, k_ri, k_rr, k_ai, k_ar, k_li, k_lr, k_qi, k_qr, ar_ci, ar_cl, ar_cq, la_ci, la_ca, la_cq, qa_ci, qa_ca, qa_cl, tk_link, kn8064], ?_⟩
    intro S14 eS14
    have nS14 : FX [] S S14 := FX_a eS14 nS10
    have arS14 := ar_wr hI nS10 (by decide) (by decide) wq13 eS14
    intro z15 ez15
    intro z16 ez16
    have hrz16 : -2147483648 ≤ z15.toInt + 1 ∧ z15.toInt + 1 < 2147483648 := by grind [k_ii, k_ir, k_ri, k_rr, k_ai, k_ar, k_li, k_lr, k_qi, k_qr, ar_ci, ar_cl, ar_cq, la_ci, la_ca, la_cq, qa_ci, qa_ca, qa_cl, tk_link, kn8064]
    replace ez16 : z16.toInt = z15.toInt + 1 := w_add ez16 hrz16
    clear hrz16
    intro S17 eS17
    have nS17 : FX [] S S17 := FX_i eS17 nS14
    intro z18 ez18
    intro z19 ez19
    have hrz19 : -2147483648 ≤ z18.toInt - 1 ∧ z18.toInt - 1 < 2147483648 := by grind [k_ii, k_ir, k_ri, k_rr, k_ai, k_ar, k_li, k_lr, k_qi, k_qr, ar_ci, ar_cl, ar_cq, la_ci, la_ca, la_cq, qa_ci, qa_ca, qa_cl, tk_link, kn8064]
    replace ez19 : z19.toInt = z18.toInt - 1 := w_sub ez19 hrz19
    clear hrz19
    exact by grind [k_ii, k_ir, k_ri, k_rr, k_ai, k_ar, k_li, k_lr, k_qi, k_qr, ar_ci, ar_cl, ar_cq, la_ci, la_ca, la_cq, qa_ci, qa_ca, qa_cl, tk_link, kn8064]
  · exact by grind [k_ii, k_ir, k_ri, k_rr, k_ai, k_ar, k_li, k_lr, k_qi, k_qr, ar_ci, ar_cl, ar_cq, la_ci, la_ca, la_cq, qa_ci, qa_ca, qa_cl, tk_link, kn8064]
