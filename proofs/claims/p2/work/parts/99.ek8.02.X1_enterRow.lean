
set_option maxHeartbeats 400000 in
theorem sk_X1_enterRow (t0 : Nat) (a0 : Nat) {S : kS} (hI : INJ S) (h : 0 ≤ (S.1 3 t0).toInt ∧ (S.1 3 t0).toInt ≤ 200) : wT_X1_enterRow t0 a0 S (fun S1 => (∀ o, S1.1 30 o = if o = a0 then 0 else S.1 30 o) ∧ (((S.1 3 t0).toInt < 200 ∧ (S1.1 3 t0).toInt = (S.1 3 t0).toInt + 1 ∧ ∀ i, ar S1 4 t0 i = if i = ix (S.1 3 t0) then S.1 28 a0 else ar S 4 t0 i) ∨ (S1.1 3 t0 = S.1 3 t0 ∧ ∀ i, ar S1 4 t0 i = ar S 4 t0 i))) := by
  have nS : FX [] S S := FX_rf
  unfold wT_X1_enterRow
  intro z1 ez1
  refine ⟨fun c1 => ?_, fun c1 => ?_⟩
  · intro S3 eS3
    have nS3 : FX [] S S3 := FX_i eS3 nS
    exact by grind [k_ii, k_ir, k_ri, k_rr, k_ai, k_ar, k_li, k_lr, k_qi, k_qr, ar_ci, ar_cl, ar_cq, la_ci, la_ca, la_cq, qa_ci, qa_ca, qa_cl, tk_link, kn200]
  · intro z4 ez4
    intro z5 ez5
    intro z6 ez6
    intro q7 eq7
    have wq7 := rd_w nS (by decide) ez4 eq7
    refine ⟨by grind [k_ii, k_ir, k_ri, k_rr, k_ai, k_ar, k_li, k_lr, k_qi, k_qr, ar_ci, ar_cl, ar_cq, la_ci, la_ca, la_cq, qa_ci, qa_ca, qa_cl, tk_link, kn200], ?_⟩
    intro S8 eS8
    have nS8 : FX [] S S8 := FX_a eS8 nS
    have arS8 := ar_wr hI nS (by decide) (by decide) wq7 eS8
    intro z9 ez9
    intro z10 ez10
    have hrz10 : -2147483648 ≤ z9.toInt + 1 ∧ z9.toInt + 1 < 2147483648 := by grind [k_ii, k_ir, k_ri, k_rr, k_ai, k_ar, k_li, k_lr, k_qi, k_qr, ar_ci, ar_cl, ar_cq, la_ci, la_ca, la_cq, qa_ci, qa_ca, qa_cl, tk_link, kn200]
    replace ez10 : z10.toInt = z9.toInt + 1 := w_add ez10 hrz10
    clear hrz10
    intro S11 eS11
    have nS11 : FX [] S S11 := FX_i eS11 nS8
    intro S12 eS12
    have nS12 : FX [] S S12 := FX_i eS12 nS11
    exact by grind [k_ii, k_ir, k_ri, k_rr, k_ai, k_ar, k_li, k_lr, k_qi, k_qr, ar_ci, ar_cl, ar_cq, la_ci, la_ca, la_cq, qa_ci, qa_ca, qa_cl, tk_link, kn200]
