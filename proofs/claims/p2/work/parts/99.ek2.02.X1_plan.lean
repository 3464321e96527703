
set_option maxHeartbeats 400000 in
theorem sk_X1_plan {n : Int} (t0 : Nat) (a0 : Int32) {S : kS} (hI : INJ S) (h : AGE n (S.1 5 t0).toInt (ar S 10 t0)) (ha : AEV n a0.toInt) : wT_X1_plan t0 a0 S (fun S1 => AGE n (S1.1 5 t0).toInt (ar S1 10 t0) ∧ (S.1 5 t0).toInt ≤ (S1.1 5 t0).toInt) := by
  have nS : FX [] S S := FX_rf
  have h0 := h.1
  have h9 := h.2.1
  unfold wT_X1_plan
  intro z1 ez1
  refine ⟨fun c1 => ?_, fun c1 => ?_⟩
  · exact by grind [k_ii, k_ir, k_ri, k_rr, k_ai, k_ar, k_li, k_lr, k_qi, k_qr, ar_ci, ar_cl, ar_cq, la_ci, la_ca, la_cq, qa_ci, qa_ca, qa_cl, tk_link, kn416]
  · intro z3 ez3
    intro z4 ez4
    intro q5 eq5
    have wq5 := rd_w nS (by decide) ez3 eq5
    refine ⟨by grind [k_ii, k_ir, k_ri, k_rr, k_ai, k_ar, k_li, k_lr, k_qi, k_qr, ar_ci, ar_cl, ar_cq, la_ci, la_ca, la_cq, qa_ci, qa_ca, qa_cl, tk_link, kn416], ?_⟩
    intro S6 eS6
    have nS6 : FX [] S S6 := FX_a eS6 nS
    have arS6 := ar_wr hI nS (by decide) (by decide) wq5 eS6
    have g6 : (S.1 5 t0).toInt < 416 → AGE n ((S.1 5 t0).toInt + 1) (ar S6 10 t0) := fun q => AGE_p (k := ix z4) h ha rfl (by omega) (by rw [kx_int z4 (by rw [ez4]; exact h0), ez4]) (fun i => by rw [arS6 10 t0 i]; rcases Decidable.em (i = ix z4) with c | c; (rw [if_pos ⟨rfl, rfl, c⟩, if_pos c]); (rw [if_neg (fun q => c q.2.2), if_neg c]))
    intro z7 ez7
    intro z8 ez8
    have hrz8 : -2147483648 ≤ z7.toInt + 1 ∧ z7.toInt + 1 < 2147483648 := by grind [k_ii, k_ir, k_ri, k_rr, k_ai, k_ar, k_li, k_lr, k_qi, k_qr, ar_ci, ar_cl, ar_cq, la_ci, la_ca, la_cq, qa_ci, qa_ca, qa_cl, tk_link, kn416]
    replace ez8 : z8.toInt = z7.toInt + 1 := w_add ez8 hrz8
    clear hrz8
    intro S9 eS9
    have nS9 : FX [] S S9 := FX_i eS9 nS6
    have g9 : AGE n (S9.1 5 t0).toInt (ar S9 10 t0) := by have e1 : (S9.1 5 t0).toInt = (S.1 5 t0).toInt + 1 := (by grind [k_ii, k_ir, k_ri, k_rr, k_ai, k_ar, k_li, k_lr, k_qi, k_qr, ar_ci, ar_cl, ar_cq, la_ci, la_ca, la_cq, qa_ci, qa_ca, qa_cl, tk_link, kn416]); have e2 : ar S9 10 t0 = ar S6 10 t0 := (by funext j; rw [eS9]; rfl); rw [e1, e2]; exact g6 (by grind [k_ii, k_ir, k_ri, k_rr, k_ai, k_ar, k_li, k_lr, k_qi, k_qr, ar_ci, ar_cl, ar_cq, la_ci, la_ca, la_cq, qa_ci, qa_ca, qa_cl, tk_link, kn416])
    exact by grind [k_ii, k_ir, k_ri, k_rr, k_ai, k_ar, k_li, k_lr, k_qi, k_qr, ar_ci, ar_cl, ar_cq, la_ci, la_ca, la_cq, qa_ci, qa_ca, qa_cl, tk_link, kn416]
