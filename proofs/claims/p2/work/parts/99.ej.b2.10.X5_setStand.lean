
set_option maxHeartbeats 400000 in
theorem sk_X5_setStand (t0 : Nat) (a0 : Int32) (a1 : Int32) {S : kS} (hI : INJ S) (hc : ∀ i, 0 ≤ (ar S 37 t0 i).toInt ∧ (ar S 37 t0 i).toInt ≤ 8063) (hr : 0 ≤ (S.1 18 t0).toInt ∧ (S.1 18 t0).toInt ≤ 12) (ha : 0 ≤ a1.toInt ∧ a1.toInt ≤ 8063) : wT_X5_setStand t0 a0 a1 S (fun S1 => (∀ i, 0 ≤ (ar S1 37 t0 i).toInt ∧ (ar S1 37 t0 i).toInt ≤ 8063) ∧ ((1 ≤ (S.1 18 t0).toInt ∧ 0 ≤ a0.toInt ∧ a0.toInt < 16) → ∀ i : Nat, (ar S1 37 t0 i).toInt = if (i : Int) = 16 * ((S.1 18 t0).toInt - 1) + a0.toInt then a1.toInt else (ar S 37 t0 i).toInt)) := by
  have nS : FX [] S S := FX_rf
  unfold wT_X5_setStand
  intro z1 ez1
  refine ⟨fun c1 => ?_, fun c1 => ?_⟩
  · exact ⟨hc, fun q9 => absurd q9 (by grind [k_ii, k_ir, k_ri, k_rr, k_ai, k_ar, k_li, k_lr, k_qi, k_qr, ar_ci, ar_cl, ar_cq, la_ci, la_ca, la_cq, qa_ci, qa_ca, qa_cl, tk_link, kn192])⟩
  · refine ⟨fun c2 => ?_, fun c2 => ?_⟩
    · exact ⟨hc, fun q9 => absurd q9 (by grind [k_ii, k_ir, k_ri, k_rr, k_ai, k_ar, k_li, k_lr, k_qi, k_qr, ar_ci, ar_cl, ar_cq, la_ci, la_ca, la_cq, qa_ci, qa_ca, qa_cl, tk_link, kn192])⟩
    · refine ⟨fun c3 => ?_, fun c3 => ?_⟩
      · exact ⟨hc, fun q9 => absurd q9 (by grind [k_ii, k_ir, k_ri, k_rr, k_ai, k_ar, k_li, k_lr, k_qi, k_qr, ar_ci, ar_cl, ar_cq, la_ci, la_ca, la_cq, qa_ci, qa_ca, qa_cl, tk_link, kn192])⟩
      · intro z5 ez5
        intro z6 ez6
        intro z7 ez7
        have hrz7 : -2147483648 ≤ z6.toInt - 1 ∧ z6.toInt - 1 < 2147483648 := by grind [k_ii, k_ir, k_ri, k_rr, k_ai, k_ar, k_li, k_lr, k_qi, k_qr, ar_ci, ar_cl, ar_cq, la_ci, la_ca, la_cq, qa_ci, qa_ca, qa_cl, tk_link, kn192]
        replace ez7 : z7.toInt = z6.toInt - 1 := w_sub ez7 hrz7
        clear hrz7
        intro z8 ez8
        have hrz8 : -100000 ≤ z7.toInt ∧ z7.toInt ≤ 100000 := by grind [k_ii, k_ir, k_ri, k_rr, k_ai, k_ar, k_li, k_lr, k_qi, k_qr, ar_ci, ar_cl, ar_cq, la_ci, la_ca, la_cq, qa_ci, qa_ca, qa_cl, tk_link, kn192]
        replace ez8 : z8.toInt = 16 * z7.toInt := w_mc ez8 rfl (by decide) hrz8
        intro z9 ez9
        have hrz9 : -2147483648 ≤ z8.toInt + a0.toInt ∧ z8.toInt + a0.toInt < 2147483648 := by grind [k_ii, k_ir, k_ri, k_rr, k_ai, k_ar, k_li, k_lr, k_qi, k_qr, ar_ci, ar_cl, ar_cq, la_ci, la_ca, la_cq, qa_ci, qa_ca, qa_cl, tk_link, kn192]
        replace ez9 : z9.toInt = z8.toInt + a0.toInt := w_add ez9 hrz9
        clear hrz9
        intro q10 eq10
        have wq10 := rd_w nS (by decide) ez5 eq10
        have z9p : 0 ≤ z9.toInt := by grind [k_ii, k_ir, k_ri, k_rr, k_ai, k_ar, k_li, k_lr, k_qi, k_qr, ar_ci, ar_cl, ar_cq, la_ci, la_ca, la_cq, qa_ci, qa_ca, qa_cl, tk_link, kn192]
        have k9 : ((ix z9 : Nat) : Int) = 16 * ((S.1 18 t0).toInt - 1) + a0.toInt := by rw [kx_int z9 z9p]; grind [k_ii, k_ir, k_ri, k_rr, k_ai, k_ar, k_li, k_lr, k_qi, k_qr, ar_ci, ar_cl, ar_cq, la_ci, la_ca, la_cq, qa_ci, qa_ca, qa_cl, tk_link, kn192]
        refine ⟨by grind [k_ii, k_ir, k_ri, k_rr, k_ai, k_ar, k_li, k_lr, k_qi, k_qr, ar_ci, ar_cl, ar_cq, la_ci, la_ca, la_cq, qa_ci, qa_ca, qa_cl, tk_link, kn192], ?_⟩
        intro S11 eS11
        have nS11 : FX [] S S11 := FX_a eS11 nS
        have arS11 := ar_wr hI nS (by decide) (by decide) wq10 eS11
        exact ⟨by grind [k_ii, k_ir, k_ri, k_rr, k_ai, k_ar, k_li, k_lr, k_qi, k_qr, ar_ci, ar_cl, ar_cq, la_ci, la_ca, la_cq, qa_ci, qa_ca, qa_cl, tk_link, kn192], fun _ i => by rw [arS11 37 t0 i]; rcases Decidable.em (i = ix z9) with c9 | c9; (rw [if_pos ⟨rfl, rfl, c9⟩, if_pos (by rw [c9]; exact k9)]); (rw [if_neg (fun q => c9 q.2.2), if_neg (fun q => c9 (by omega))])⟩
