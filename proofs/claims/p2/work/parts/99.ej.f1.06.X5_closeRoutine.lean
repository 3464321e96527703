
set_option maxHeartbeats 400000 in
theorem sk_X5_closeRoutine (t0 : Nat) {S : kS} (hI : INJ S) (h : 0 ≤ (S.1 17 t0).toInt) (hr : 0 ≤ (S.1 18 t0).toInt ∧ (S.1 18 t0).toInt ≤ 12) : wT_X5_closeRoutine t0 S (fun S1 => ((S.1 18 t0).toInt ≤ 0 ∧ S1 = S) ∨ ((S.1 17 t0).toInt < 8064 ∧ (S1.1 17 t0).toInt = (S.1 17 t0).toInt + 1 ∧ (∀ i, ar S1 28 t0 i = if i = ix (S.1 17 t0) then 24 else ar S 28 t0 i) ∧ (∀ i, ar S1 29 t0 i = if i = ix (S.1 17 t0) then 0 else ar S 29 t0 i) ∧ (∀ i, ar S1 30 t0 i = if i = ix (S.1 17 t0) then -1 else ar S 30 t0 i)) ∨ (8064 ≤ (S.1 17 t0).toInt ∧ S1.1 17 t0 = S.1 17 t0 ∧ (∀ i, ar S1 28 t0 i = ar S 28 t0 i) ∧ (∀ i, ar S1 29 t0 i = ar S 29 t0 i) ∧ (∀ i, ar S1 30 t0 i = ar S 30 t0 i))) := by
  have nS : FX [] S S := FX_rf
  unfold wT_X5_closeRoutine
  intro z1 ez1
  refine ⟨fun c1 => ?_, fun c1 => ?_⟩
  · exact by grind [k_ii, k_ir, k_ri, k_rr, k_ai, k_ar, k_li, k_lr, k_qi, k_qr, ar_ci, ar_cl, ar_cq, la_ci, la_ca, la_cq, qa_ci, qa_ca, qa_cl, tk_link, kn12]
  · intro z3 ez3
    intro z4 ez4
    intro z5 ez5
    have hrz5 : -2147483648 ≤ z4.toInt - 1 ∧ z4.toInt - 1 < 2147483648 := by grind [k_ii, k_ir, k_ri, k_rr, k_ai, k_ar, k_li, k_lr, k_qi, k_qr, ar_ci, ar_cl, ar_cq, la_ci, la_ca, la_cq, qa_ci, qa_ca, qa_cl, tk_link, kn12]
    replace ez5 : z5.toInt = z4.toInt - 1 := w_sub ez5 hrz5
    clear hrz5
    refine kmT_X5_emit _ _ _ _ _ _ _ (fun S6 r6 hF2 pS6 => ?_) (sk_X5_emit _ _ _ _ (INJ_x nS (by decide) hI) (by grind [k_ii, k_ir, k_ri, k_rr, k_ai, k_ar, k_li, k_lr, k_qi, k_qr, ar_ci, ar_cl, ar_cq, la_ci, la_ca, la_cq, qa_ci, qa_ca, qa_cl, tk_link, kn12]))
    have nS6 : FX [] S S6 := FX_k hF2 (by decide) nS
    clear hF2
    intro q7 eq7
    have wq7 := rd_w nS (by decide) ez3 eq7
    refine ⟨by grind [k_ii, k_ir, k_ri, k_rr, k_ai, k_ar, k_li, k_lr, k_qi, k_qr, ar_ci, ar_cl, ar_cq, la_ci, la_ca, la_cq, qa_ci, qa_ca, qa_cl, tk_link, kn12], ?_⟩
    intro S8 eS8
    have nS8 : FX [] S S8 := FX_a eS8 nS6
    have arS8 := ar_wr hI nS6 (by decide) (by decide) wq7 eS8
    exact by grind [k_ii, k_ir, k_ri, k_rr, k_ai, k_ar, k_li, k_lr, k_qi, k_qr, ar_ci, ar_cl, ar_cq, la_ci, la_ca, la_cq, qa_ci, qa_ca, qa_cl, tk_link, kn12]
