
set_option maxHeartbeats 400000 in
theorem sk_X5_openRoutine (t0 : Nat) (a0 : Int64) {S : kS} (hI : INJ S) (h : 0 ≤ (S.1 18 t0).toInt) : wT_X5_openRoutine t0 a0 S (fun S1 => (12 ≤ (S.1 18 t0).toInt ∧ S1 = S) ∨ ((S.1 18 t0).toInt < 12 ∧ (S1.1 18 t0).toInt = (S.1 18 t0).toInt + 1 ∧ (∀ i, ar S1 32 t0 i = if i = ix (S.1 18 t0) then S.1 17 t0 else ar S 32 t0 i) ∧ (∀ i, ar S1 35 t0 i = if i = ix (S.1 18 t0) then 0 else ar S 35 t0 i) ∧ (∀ i, ar S1 36 t0 i = if i = ix (S.1 18 t0) then 0 else ar S 36 t0 i))) := by
  have nS : FX [] S S := FX_rf
  unfold wT_X5_openRoutine
  intro z1 ez1
  refine ⟨fun c1 => ?_, fun c1 => ?_⟩
  · exact by grind [k_ii, k_ir, k_ri, k_rr, k_ai, k_ar, k_li, k_lr, k_qi, k_qr, ar_ci, ar_cl, ar_cq, la_ci, la_ca, la_cq, qa_ci, qa_ca, qa_cl, tk_link, kn12]
  · intro z3 ez3
    intro z4 ez4
    intro q5 eq5
    have wq5 := rd_w nS (by decide) ez3 eq5
    refine ⟨by grind [k_ii, k_ir, k_ri, k_rr, k_ai, k_ar, k_li, k_lr, k_qi, k_qr, ar_ci, ar_cl, ar_cq, la_ci, la_ca, la_cq, qa_ci, qa_ca, qa_cl, tk_link, kn12], ?_⟩
    intro S6 eS6
    have nS6 : FX [] S S6 := FX_l eS6 nS
    have laS6 := la_wr hI nS (by decide) (by decide) wq5 eS6
    intro z7 ez7
    intro z8 ez8
    intro z9 ez9
    intro q10 eq10
    have wq10 := rd_w nS6 (by decide) ez7 eq10
    refine ⟨by grind [k_ii, k_ir, k_ri, k_rr, k_ai, k_ar, k_li, k_lr, k_qi, k_qr, ar_ci, ar_cl, ar_cq, la_ci, la_ca, la_cq, qa_ci, qa_ca, qa_cl, tk_link, kn12], ?_⟩
    intro S11 eS11
    have nS11 : FX [] S S11 := FX_a eS11 nS6
    have arS11 := ar_wr hI nS6 (by decide) (by decide) wq10 eS11
    intro z12 ez12
    intro z13 ez13
    intro q14 eq14
    have wq14 := rd_w nS11 (by decide) ez12 eq14
    refine ⟨by grind [k_ii, k_ir, k_ri, k_rr, k_ai, k_ar, k_li, k_lr, k_qi, k_qr, ar_ci, ar_cl, ar_cq, la_ci, la_ca, la_cq, qa_ci, qa_ca, qa_cl, tk_link, kn12], ?_⟩
    intro S15 eS15
    have nS15 : FX [] S S15 := FX_a eS15 nS11
    have arS15 := ar_wr hI nS11 (by decide) (by decide) wq14 eS15
    intro z16 ez16
    intro z17 ez17
    intro q18 eq18
    have wq18 := rd_w nS15 (by decide) ez16 eq18
    refine ⟨by grind [k_ii, k_ir, k_ri, k_rr, k_ai, k_ar, k_li, k_lr, k_qi, k_qr, ar_ci, ar_cl, ar_cq, la_ci, la_ca, la_cq, qa_ci, qa_ca, qa_cl, tk_link, kn12], ?_⟩
    intro S19 eS19
    have nS19 : FX [] S S19 := FX_a eS19 nS15
    have arS19 := ar_wr hI nS15 (by decide) (by decide) wq18 eS19
    intro z20 ez20
    intro z21 ez21
    intro q22 eq22
    have wq22 := rd_w nS19 (by decide) ez20 eq22
    refine ⟨by grind [k_ii, k_ir, k_ri, k_rr, k_ai, k_ar, k_li, k_lr, k_qi, k_qr, ar_ci, ar_cl, ar_cq, la_ci, la_ca, la_cq, qa_ci, qa_ca, qa_cl, tk_link, kn12], ?_⟩
    intro S23 eS23
    have nS23 : FX [] S S23 := FX_a eS23 nS19
    have arS23 := ar_wr hI nS19 (by decide) (by decide) wq22 eS23
    intro z24 ez24
    intro z25 ez25
    have hrz25 : -2147483648 ≤ z24.toInt + 1 ∧ z24.toInt + 1 < 2147483648 := by grind [k_ii, k_ir, k_ri, k_rr, k_ai, k_ar, k_li, k_lr, k_qi, k_qr, ar_ci, ar_cl, ar_cq, la_ci, la_ca, la_cq, qa_ci, qa_ca, qa_cl, tk_link, kn12]
    replace ez25 : z25.toInt = z24.toInt + 1 := w_add ez25 hrz25
    clear hrz25
    intro S26 eS26
    have nS26 : FX [] S S26 := FX_i eS26 nS23
    exact by grind [k_ii, k_ir, k_ri, k_rr, k_ai, k_ar, k_li, k_lr, k_qi, k_qr, ar_ci, ar_cl, ar_cq, la_ci, la_ca, la_cq, qa_ci, qa_ca, qa_cl, tk_link, kn12]
