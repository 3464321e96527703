
set_option maxHeartbeats 400000 in
theorem sk_X3_take {tk : Nat} (t0 : Nat) (a0 : Int32) {S : kS} (hI : INJ S) (hO14_t0 : S.2.1 14 t0 = some tk) (ha : 0 ≤ (S.1 6 t0).toInt ∧ (S.1 6 t0).toInt ≤ 4001) : wT_X3_take t0 a0 S (fun S1 r => (r = 0 ∧ S1 = S) ∨ (r = 1 ∧ ar S 64 tk (ix (S.1 6 t0)) = a0 ∧ (S.1 6 t0).toInt + 1 < (S.1 40 tk).toInt ∧ (S1.1 6 t0).toInt = (S.1 6 t0).toInt + 1)) := by
  have nS : FX [] S S := FX_rf
  unfold wT_X3_take
  intro z1 ez1
  intro q2 eq2
  obtain rfl := ob_q nS (by decide) hO14_t0 ez1 eq2
  intro z3 ez3
  intro z4 ez4
  intro q5 eq5
  have wq5 := rd_w nS (by decide) ez3 eq5
  refine ⟨by grind [k_ii, k_ir, k_ri, k_rr, k_ai, k_ar, k_li, k_lr, k_qi, k_qr, ar_ci, ar_cl, ar_cq, la_ci, la_ca, la_cq, qa_ci, qa_ca, qa_cl, tk_link, kn4002], ?_⟩
  intro z6 ez6
  replace ez6 := ez6.trans (ar_rd nS (by decide) (by decide) wq5)
  refine ⟨fun c1 => ?_, fun c1 => ?_⟩
  · exact by grind [k_ii, k_ir, k_ri, k_rr, k_ai, k_ar, k_li, k_lr, k_qi, k_qr, ar_ci, ar_cl, ar_cq, la_ci, la_ca, la_cq, qa_ci, qa_ca, qa_cl, tk_link, kn4002]
  · intro z8 ez8
    intro z9 ez9
    have hrz9 : -2147483648 ≤ z8.toInt + 1 ∧ z8.toInt + 1 < 2147483648 := by grind [k_ii, k_ir, k_ri, k_rr, k_ai, k_ar, k_li, k_lr, k_qi, k_qr, ar_ci, ar_cl, ar_cq, la_ci, la_ca, la_cq, qa_ci, qa_ca, qa_cl, tk_link, kn4002]
    replace ez9 : z9.toInt = z8.toInt + 1 := w_add ez9 hrz9
    clear hrz9
    intro z10 ez10
    intro q11 eq11
    obtain rfl := ob_q nS (by decide) hO14_t0 ez10 eq11
    intro z12 ez12
    refine ⟨fun c2 => ?_, fun c2 => ?_⟩
    · intro z14 ez14
      intro z15 ez15
      have hrz15 : -2147483648 ≤ z14.toInt + 1 ∧ z14.toInt + 1 < 2147483648 := by grind [k_ii, k_ir, k_ri, k_rr, k_ai, k_ar, k_li, k_lr, k_qi, k_qr, ar_ci, ar_cl, ar_cq, la_ci, la_ca, la_cq, qa_ci, qa_ca, qa_cl, tk_link, kn4002]
      replace ez15 : z15.toInt = z14.toInt + 1 := w_add ez15 hrz15
      clear hrz15
      intro S16 eS16
      have nS16 : FX [] S S16 := FX_i eS16 nS
      exact by grind [k_ii, k_ir, k_ri, k_rr, k_ai, k_ar, k_li, k_lr, k_qi, k_qr, ar_ci, ar_cl, ar_cq, la_ci, la_ca, la_cq, qa_ci, qa_ca, qa_cl, tk_link, kn4002]
    · exact by grind [k_ii, k_ir, k_ri, k_rr, k_ai, k_ar, k_li, k_lr, k_qi, k_qr, ar_ci, ar_cl, ar_cq, la_ci, la_ca, la_cq, qa_ci, qa_ca, qa_cl, tk_link, kn4002]
