
set_option maxHeartbeats 400000 in
theorem sk_X7_newLoop (t0 : Nat) (a0 : Int32) (a1 : Int32) {S : kS} (hI : INJ S) (h : 0 ≤ (S.1 25 t0).toInt) : wT_X7_newLoop t0 a0 a1 S (fun S1 r => (r = -1 ∧ S1 = S) ∨ ((S.1 25 t0).toInt < 460 ∧ r.toInt = (S.1 25 t0).toInt ∧ (S1.1 25 t0).toInt = (S.1 25 t0).toInt + 1 ∧ (∀ i, ar S1 50 t0 i = if i = ix (S.1 25 t0) then a0 else ar S 50 t0 i) ∧ (∀ i, ar S1 51 t0 i = if i = ix (S.1 25 t0) then a1 else ar S 51 t0 i))) := by
  have nS : FX [] S S := FX_rf
  unfold wT_X7_newLoop
  intro z1 ez1
  refine ⟨fun c1 => ?_, fun c1 => ?_⟩
  · intro z3 ez3
    intro z4 ez4
    intro q5 eq5
    have wq5 := rd_w nS (by decide) ez3 eq5
    refine ⟨by grind [k_ii, k_ir, k_ri, k_rr, k_ai, k_ar, k_li, k_lr, k_qi, k_qr, ar_ci, ar_cl, ar_cq, la_ci, la_ca, la_cq, qa_ci, qa_ca, qa_cl, tk_link, kn460], ?_⟩
    intro S6 eS6
    have nS6 : FX [] S S6 := FX_a eS6 nS
    have arS6 := ar_wr hI nS (by decide) (by decide) wq5 eS6
    intro z7 ez7
    intro z8 ez8
    intro q9 eq9
    have wq9 := rd_w nS6 (by decide) ez7 eq9
    refine ⟨by grind [k_ii, k_ir, k_ri, k_rr, k_ai, k_ar, k_li, k_lr, k_qi, k_qr, ar_ci, ar_cl, ar_cq, la_ci, la_ca, la_cq, qa_ci, qa_ca, qa_cl, tk_link, kn460], ?_⟩
    intro S10 eS10
    have nS10 : FX [] S S10 := FX_a eS10 nS6
    have arS10 := ar_wr hI nS6 (by decide) (by decide) wq9 eS10
    intro z11 ez11
    intro z12 ez12
    have hrz12 : -2147483648 ≤ z11.toInt + 1 ∧ z11.toInt + 1 < 2147483648 := by grind [k_ii, k_ir, k_ri, k_rr, k_ai, k_ar, k_li, k_lr, k_qi, k_qr, ar_ci, ar_cl, ar_cq, la_ci, la_ca, la_cq, qa_ci, qa_ca, qa_cl, tk_link, kn460]
    replace ez12 : z12.toInt = z11.toInt + 1 := w_add ez12 hrz12
    clear hrz12
    intro S13 eS13
    have nS13 : FX [] S S13 := FX_i eS13 nS10
    intro z14 ez14
    intro z15 ez15
    have hrz15 : -2147483648 ≤ z14.toInt - 1 ∧ z14.toInt - 1 < 2147483648 := by grind [k_ii, k_ir, k_ri, k_rr, k_ai, k_ar, k_li, k_lr, k_qi, k_qr, ar_ci, ar_cl, ar_cq, la_ci, la_ca, la_cq, qa_ci, qa_ca, qa_cl, tk_link, kn460]
    replace ez15 : z15.toInt = z14.toInt - 1 := w_sub ez15 hrz15
    clear hrz15
    exact by grind [k_ii, k_ir, k_ri, k_rr, k_ai, k_ar, k_li, k_lr, k_qi, k_qr, ar_ci, ar_cl, ar_cq, la_ci, la_ca, la_cq, qa_ci, qa_ca, qa_cl, tk_link, kn460]
  · exact by grind [k_ii, k_ir, k_ri, k_rr, k_ai, k_ar, k_li, k_lr, k_qi, k_qr, ar_ci, ar_cl, ar_cq, la_ci, la_ca, la_cq, qa_ci, qa_ca, qa_cl, tk_link, kn460]
