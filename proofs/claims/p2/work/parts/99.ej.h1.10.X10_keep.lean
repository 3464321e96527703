
set_option maxHeartbeats 400000 in
theorem sk_X10_keep (t0 : Nat) (a0 : Int32) (a1 : Int32) (a2 : Int64) {S : kS} (hI : INJ S) (h : (0 ≤ (S.1 40 t0).toInt ∧ (S.1 40 t0).toInt ≤ 4001 ∧ ar S 64 t0 4001 = 4 ∧ (∀ i, 0 ≤ (ar S 65 t0 i).toInt ∧ (ar S 65 t0 i).toInt ≤ 4000))) (ha : 0 ≤ a1.toInt ∧ a1.toInt ≤ 4000) : wT_X10_keep t0 a0 a1 a2 S (fun S1 => ((S.1 40 t0).toInt < 4001 → (S1.1 40 t0).toInt = (S.1 40 t0).toInt + 1 ∧ ar S1 64 t0 (ix (S.1 40 t0)) = a0) ∧ (S.1 40 t0).toInt ≤ (S1.1 40 t0).toInt ∧ (S1.1 40 t0).toInt ≤ (S.1 40 t0).toInt + 1 ∧ (0 ≤ (S1.1 40 t0).toInt ∧ (S1.1 40 t0).toInt ≤ 4001 ∧ ar S1 64 t0 4001 = 4 ∧ (∀ i, 0 ≤ (ar S1 65 t0 i).toInt ∧ (ar S1 65 t0 i).toInt ≤ 4000))) := by
  have nS : FX [] S S := FX_rf
  unfold wT_X10_keep
  intro z1 ez1
  refine ⟨fun c1 => ?_, fun c1 => ?_⟩
  · exact by grind [kx_int, k_ii, k_ir, k_ri, k_rr, k_ai, k_ar, k_li, k_lr, k_qi, k_qr, ar_ci, ar_cl, ar_cq, la_ci, la_ca, la_cq, qa_ci, qa_ca, qa_cl, tk_link, kn4002]
  · intro z3 ez3
    intro z4 ez4
    intro q5 eq5
    have wq5 := rd_w nS (by decide) ez3 eq5
    refine ⟨by grind [kx_int, k_ii, k_ir, k_ri, k_rr, k_ai, k_ar, k_li, k_lr, k_qi, k_qr, ar_ci, ar_cl, ar_cq, la_ci, la_ca, la_cq, qa_ci, qa_ca, qa_cl, tk_link, kn4002], ?_⟩
    intro S6 eS6
    have nS6 : FX [] S S6 := FX_a eS6 nS
    have arS6 := ar_wr hI nS (by decide) (by decide) wq5 eS6
    intro z7 ez7
    intro z8 ez8
    intro q9 eq9
    have wq9 := rd_w nS6 (by decide) ez7 eq9
    refine ⟨by grind [kx_int, k_ii, k_ir, k_ri, k_rr, k_ai, k_ar, k_li, k_lr, k_qi, k_qr, ar_ci, ar_cl, ar_cq, la_ci, la_ca, la_cq, qa_ci, qa_ca, qa_cl, tk_link, kn4002], ?_⟩
    intro S10 eS10
    have nS10 : FX [] S S10 := FX_a eS10 nS6
    have arS10 := ar_wr hI nS6 (by decide) (by decide) wq9 eS10
    intro z11 ez11
    intro z12 ez12
    intro q13 eq13
    have wq13 := rd_w nS10 (by decide) ez11 eq13
    refine ⟨by grind [kx_int, k_ii, k_ir, k_ri, k_rr, k_ai, k_ar, k_li, k_lr, k_qi, k_qr, ar_ci, ar_cl, ar_cq, la_ci, la_ca, la_cq, qa_ci, qa_ca, qa_cl, tk_link, kn4002], ?_⟩
    intro S14 eS14
    have nS14 : FX [] S S14 := FX_l eS14 nS10
    have laS14 := la_wr hI nS10 (by decide) (by decide) wq13 eS14
    intro z15 ez15
    intro z16 ez16
    have hrz16 : -2147483648 ≤ z15.toInt + 1 ∧ z15.toInt + 1 < 2147483648 := by grind [kx_int, k_ii, k_ir, k_ri, k_rr, k_ai, k_ar, k_li, k_lr, k_qi, k_qr, ar_ci, ar_cl, ar_cq, la_ci, la_ca, la_cq, qa_ci, qa_ca, qa_cl, tk_link, kn4002]
    replace ez16 : z16.toInt = z15.toInt + 1 := w_add ez16 hrz16
    clear hrz16
    intro S17 eS17
    have nS17 : FX [] S S17 := FX_i eS17 nS14
    exact by grind [kx_int, k_ii, k_ir, k_ri, k_rr, k_ai, k_ar, k_li, k_lr, k_qi, k_qr, ar_ci, ar_cl, ar_cq, la_ci, la_ca, la_cq, qa_ci, qa_ca, qa_cl, tk_link, kn4002]
