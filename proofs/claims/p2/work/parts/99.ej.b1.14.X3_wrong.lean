
set_option maxHeartbeats 400000 in
theorem sk_X3_wrong {tk : Nat} (t0 : Nat) (a0 : Int32) {S : kS} (hI : INJ S) (hO14_t0 : S.2.1 14 t0 = some tk) (ha : 0 ≤ (S.1 6 t0).toInt ∧ (S.1 6 t0).toInt ≤ 4001) (hp : ∀ i, 0 ≤ (ar S 65 tk i).toInt ∧ (ar S 65 tk i).toInt ≤ 4000) (hw : 0 < a0.toInt ∧ a0.toInt ≤ 6) : wT_X3_wrong t0 a0 S (fun S1 => (S1.1 7 t0).toInt ≠ 0 ∧ (((S.1 7 t0).toInt = 0 ∧ (S1.1 6 t0).toInt = 4001) ∨ ((S.1 7 t0).toInt ≠ 0 ∧ (S1.1 6 t0).toInt = (S.1 6 t0).toInt))) := by
  have nS : FX [] S S := FX_rf
  unfold wT_X3_wrong
  intro z1 ez1
  refine ⟨fun c1 => ?_, fun c1 => ?_⟩
  · exact by grind [k_ii, k_ir, k_ri, k_rr, k_ai, k_ar, k_li, k_lr, k_qi, k_qr, ar_ci, ar_cl, ar_cq, la_ci, la_ca, la_cq, qa_ci, qa_ca, qa_cl, tk_link, kn4002]
  · intro z3 ez3
    intro q4 eq4
    obtain rfl := ob_q nS (by decide) hO14_t0 ez3 eq4
    intro z5 ez5
    intro z6 ez6
    intro q7 eq7
    have wq7 := rd_w nS (by decide) ez5 eq7
    refine ⟨by grind [k_ii, k_ir, k_ri, k_rr, k_ai, k_ar, k_li, k_lr, k_qi, k_qr, ar_ci, ar_cl, ar_cq, la_ci, la_ca, la_cq, qa_ci, qa_ca, qa_cl, tk_link, kn4002], ?_⟩
    intro z8 ez8
    replace ez8 := ez8.trans (ar_rd nS (by decide) (by decide) wq7)
    intro z9 ez9
    intro z10 ez10
    have hrz10 : -2147483648 ≤ a0.toInt + z9.toInt ∧ a0.toInt + z9.toInt < 2147483648 := by grind [k_ii, k_ir, k_ri, k_rr, k_ai, k_ar, k_li, k_lr, k_qi, k_qr, ar_ci, ar_cl, ar_cq, la_ci, la_ca, la_cq, qa_ci, qa_ca, qa_cl, tk_link, kn4002]
    replace ez10 : z10.toInt = a0.toInt + z9.toInt := w_add ez10 hrz10
    clear hrz10
    intro S11 eS11
    have nS11 : FX [] S S11 := FX_i eS11 nS
    intro S12 eS12
    have nS12 : FX [] S S12 := FX_i eS12 nS11
    exact by grind [k_ii, k_ir, k_ri, k_rr, k_ai, k_ar, k_li, k_lr, k_qi, k_qr, ar_ci, ar_cl, ar_cq, la_ci, la_ca, la_cq, qa_ci, qa_ca, qa_cl, tk_link, kn4002]
