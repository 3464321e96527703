
set_option maxHeartbeats 400000 in
theorem sk_X1_enterRow {n : Int} (t0 : Nat) (a0 : Nat) {S : kS} (hI : INJ S) (h : ROE n (S.1 3 t0).toInt (ar S 4 t0)) (ha : 0 ≤ (S.1 28 a0).toInt ∧ (S.1 28 a0).toInt < n) : wT_X1_enterRow t0 a0 S (fun S1 => ROE n (S1.1 3 t0).toInt (ar S1 4 t0) ∧ S1.1 30 a0 = 0 ∧ (S.1 3 t0).toInt ≤ (S1.1 3 t0).toInt) := by
  have nS : FX [] S S := FX_rf
  have h0 := h.1
  have h9 := h.2.1
  unfold wT_X1_enterRow
  intro z1 ez1
  refine ⟨fun c1 => ?_, fun c1 => ?_⟩
  · intro S3 eS3
    have nS3 : FX [] S S3 := FX_i eS3 nS
    have g3 : ROE n (S3.1 3 t0).toInt (ar S3 4 t0) := by have e1 : (S3.1 3 t0).toInt = (S.1 3 t0).toInt := (by grind [k_ii, k_ir, k_ri, k_rr, k_ai, k_ar, k_li, k_lr, k_qi, k_qr, ar_ci, ar_cl, ar_cq, la_ci, la_ca, la_cq, qa_ci, qa_ca, qa_cl, tk_link, kn200]); have e2 : ar S3 4 t0 = ar S 4 t0 := (by funext j; rw [eS3]; rfl); rw [e1, e2]; exact h
    exact by grind [k_ii, k_ir, k_ri, k_rr, k_ai, k_ar, k_li, k_lr, k_qi, k_qr, ar_ci, ar_cl, ar_cq, la_ci, la_ca, la_cq, qa_ci, qa_ca, qa_cl, tk_link, kn200]
  · intro z4 ez4
    intro z5 ez5
    intro z6 ez6
    intro q7 eq7
    have wq7 := rd_w nS (by decide) ez4 eq7
    refine ⟨by grind [k_ii, k_ir, k_ri, k_rr, k_ai, k_ar, k_li, k_lr, k_qi, k_qr, ar_ci, ar_cl, ar_cq, la_ci, la_ca, la_cq, qa_ci, qa_ca, qa_cl, tk_link, kn200], ?_⟩
    intro S8 eS8
    have nS8 : FX [] S S8 := FX_a eS8 nS
    have arS8 := ar_wr hI nS (by decide) (by decide) wq7 eS8
    have g8 : (S.1 3 t0).toInt < 200 → ROE n ((S.1 3 t0).toInt + 1) (ar S8 4 t0) := fun q => ROE_p (k := ix z5) (v := z6) h (by rw [ez6]; exact ha) rfl (by omega) (by rw [kx_int z5 (by rw [ez5]; exact h0), ez5]) (fun i => by rw [arS8 4 t0 i]; rcases Decidable.em (i = ix z5) with c9 | c9; (rw [if_pos ⟨rfl, rfl, c9⟩, if_pos c9]); (rw [if_neg (fun q => c9 q.2.2), if_neg c9]))
    intro z9 ez9
    intro z10 ez10
    have hrz10 : -2147483648 ≤ z9.toInt + 1 ∧ z9.toInt + 1 < 2147483648 := by grind [k_ii, k_ir, k_ri, k_rr, k_ai, k_ar, k_li, k_lr, k_qi, k_qr, ar_ci, ar_cl, ar_cq, la_ci, la_ca, la_cq, qa_ci, qa_ca, qa_cl, tk_link, kn200]
    replace ez10 : z10.toInt = z9.toInt + 1 := w_add ez10 hrz10
    clear hrz10
    intro S11 eS11
    have nS11 : FX [] S S11 := FX_i eS11 nS8
    intro S12 eS12
    have nS12 : FX [] S S12 := FX_i eS12 nS11
    have g12 : ROE n (S12.1 3 t0).toInt (ar S12 4 t0) := by have e1 : (S12.1 3 t0).toInt = (S.1 3 t0).toInt + 1 := (by grind [k_ii, k_ir, k_ri, k_rr, k_ai, k_ar, k_li, k_lr, k_qi, k_qr, ar_ci, ar_cl, ar_cq, la_ci, la_ca, la_cq, qa_ci, qa_ca, qa_cl, tk_link, kn200]); have e2 : ar S12 4 t0 = ar S8 4 t0 := (by funext j; rw [eS12, eS11]; rfl); rw [e1, e2]; exact g8 (by grind [k_ii, k_ir, k_ri, k_rr, k_ai, k_ar, k_li, k_lr, k_qi, k_qr, ar_ci, ar_cl, ar_cq, la_ci, la_ca, la_cq, qa_ci, qa_ca, qa_cl, tk_link, kn200])
    exact by grind [k_ii, k_ir, k_ri, k_rr, k_ai, k_ar, k_li, k_lr, k_qi, k_qr, ar_ci, ar_cl, ar_cq, la_ci, la_ca, la_cq, qa_ci, qa_ca, qa_cl, tk_link, kn200]
