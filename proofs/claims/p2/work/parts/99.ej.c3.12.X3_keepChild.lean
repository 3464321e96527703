
set_option maxHeartbeats 400000 in
theorem sk_X3_keepChild {tk : Nat} (t0 : Nat) (a0 : Int32) (a1 : Int32) (a2 : Int32) {S : kS} (hI : INJ S) (hO14_t0 : S.2.1 14 t0 = some tk) (hk : 0 ≤ (S.1 11 t0).toInt ∧ (S.1 11 t0).toInt ≤ 460) (ha : 0 ≤ a0.toInt ∧ a0.toInt ≤ 4001) : wT_X3_keepChild t0 a0 a1 a2 S (fun S1 => (460 ≤ (S.1 11 t0).toInt ∧ S1 = S) ∨ ((S.1 11 t0).toInt < 460 ∧ (S1.1 11 t0).toInt = (S.1 11 t0).toInt + 1 ∧ ∀ i, ar S1 17 t0 i = if i = ix (S.1 11 t0) then a2 else ar S 17 t0 i)) := by
  have nS : FX [] S S := FX_rf
  unfold wT_X3_keepChild
  intro z1 ez1
  refine ⟨fun c1 => ?_, fun c1 => ?_⟩
  · exact by grind [k_ii, k_ir, k_ri, k_rr, k_ai, k_ar, k_li, k_lr, k_qi, k_qr, ar_ci, ar_cl, ar_cq, la_ci, la_ca, la_cq, qa_ci, qa_ca, qa_cl, tk_link, kn4002, kn460]
  · intro z3 ez3
    intro z4 ez4
    intro q5 eq5
    have wq5 := rd_w nS (by decide) ez3 eq5
    refine ⟨by grind [k_ii, k_ir, k_ri, k_rr, k_ai, k_ar, k_li, k_lr, k_qi, k_qr, ar_ci, ar_cl, ar_cq, la_ci, la_ca, la_cq, qa_ci, qa_ca, qa_cl, tk_link, kn4002, kn460], ?_⟩
    intro S6 eS6
    have nS6 : FX [] S S6 := FX_a eS6 nS
    have arS6 := ar_wr hI nS (by decide) (by decide) wq5 eS6
    intro z7 ez7
    intro z8 ez8
    intro z9 ez9
    intro q10 eq10
    obtain rfl := ob_q nS6 (by decide) hO14_t0 ez9 eq10
    intro z11 ez11
    intro q12 eq12
    have wq12 := rd_w nS6 (by decide) ez11 eq12
    refine ⟨by grind [k_ii, k_ir, k_ri, k_rr, k_ai, k_ar, k_li, k_lr, k_qi, k_qr, ar_ci, ar_cl, ar_cq, la_ci, la_ca, la_cq, qa_ci, qa_ca, qa_cl, tk_link, kn4002, kn460], ?_⟩
    intro z13 ez13
    replace ez13 := ez13.trans (ar_rd nS6 (by decide) (by decide) wq12)
    intro q14 eq14
    have wq14 := rd_w nS6 (by decide) ez7 eq14
    refine ⟨by grind [k_ii, k_ir, k_ri, k_rr, k_ai, k_ar, k_li, k_lr, k_qi, k_qr, ar_ci, ar_cl, ar_cq, la_ci, la_ca, la_cq, qa_ci, qa_ca, qa_cl, tk_link, kn4002, kn460], ?_⟩
    intro S15 eS15
    have nS15 : FX [] S S15 := FX_a eS15 nS6
    have arS15 := ar_wr hI nS6 (by decide) (by decide) wq14 eS15
    intro z16 ez16
    intro z17 ez17
    intro z18 ez18
    intro q19 eq19
    obtain rfl := ob_q nS15 (by decide) hO14_t0 ez18 eq19
    intro z20 ez20
    intro q21 eq21
    have wq21 := rd_w nS15 (by decide) ez20 eq21
    refine ⟨by grind [k_ii, k_ir, k_ri, k_rr, k_ai, k_ar, k_li, k_lr, k_qi, k_qr, ar_ci, ar_cl, ar_cq, la_ci, la_ca, la_cq, qa_ci, qa_ca, qa_cl, tk_link, kn4002, kn460], ?_⟩
    intro z22 ez22
    replace ez22 := ez22.trans (la_rd nS15 (by decide) (by decide) wq21)
    intro q23 eq23
    have wq23 := rd_w nS15 (by decide) ez16 eq23
    refine ⟨by grind [k_ii, k_ir, k_ri, k_rr, k_ai, k_ar, k_li, k_lr, k_qi, k_qr, ar_ci, ar_cl, ar_cq, la_ci, la_ca, la_cq, qa_ci, qa_ca, qa_cl, tk_link, kn4002, kn460], ?_⟩
    intro S24 eS24
    have nS24 : FX [] S S24 := FX_l eS24 nS15
    have laS24 := la_wr hI nS15 (by decide) (by decide) wq23 eS24
    intro z25 ez25
    intro z26 ez26
    intro q27 eq27
    have wq27 := rd_w nS24 (by decide) ez25 eq27
    refine ⟨by grind [k_ii, k_ir, k_ri, k_rr, k_ai, k_ar, k_li, k_lr, k_qi, k_qr, ar_ci, ar_cl, ar_cq, la_ci, la_ca, la_cq, qa_ci, qa_ca, qa_cl, tk_link, kn4002, kn460], ?_⟩
    intro S28 eS28
    have nS28 : FX [] S S28 := FX_a eS28 nS24
    have arS28 := ar_wr hI nS24 (by decide) (by decide) wq27 eS28
    intro z29 ez29
    intro z30 ez30
    have hrz30 : -2147483648 ≤ z29.toInt + 1 ∧ z29.toInt + 1 < 2147483648 := by grind [k_ii, k_ir, k_ri, k_rr, k_ai, k_ar, k_li, k_lr, k_qi, k_qr, ar_ci, ar_cl, ar_cq, la_ci, la_ca, la_cq, qa_ci, qa_ca, qa_cl, tk_link, kn4002, kn460]
    replace ez30 : z30.toInt = z29.toInt + 1 := w_add ez30 hrz30
    clear hrz30
    intro S31 eS31
    have nS31 : FX [] S S31 := FX_i eS31 nS28
    exact by grind [k_ii, k_ir, k_ri, k_rr, k_ai, k_ar, k_li, k_lr, k_qi, k_qr, ar_ci, ar_cl, ar_cq, la_ci, la_ca, la_cq, qa_ci, qa_ca, qa_cl, tk_link, kn4002, kn460]
