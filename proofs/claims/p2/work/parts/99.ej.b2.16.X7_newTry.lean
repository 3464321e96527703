
set_option maxHeartbeats 400000 in
theorem sk_X7_newTry (t0 : Nat) (a0 : Int32) (a1 : Int32) {S : kS} (hI : INJ S) (h : 0 ≤ (S.1 24 t0).toInt) (ha : -1 ≤ a0.toInt ∧ a0.toInt < 3 * (S.1 24 t0).toInt ∧ (S.1 24 t0).toInt ≤ 460) (hd : ∀ i, 0 ≤ (ar S 44 t0 i).toInt ∧ (ar S 44 t0 i).toInt ≤ 9) : wT_X7_newTry t0 a0 a1 S (fun S1 r => (r = -1 ∧ S1 = S) ∨ ((S.1 24 t0).toInt < 460 ∧ r.toInt = (S.1 24 t0).toInt ∧ (S1.1 24 t0).toInt = (S.1 24 t0).toInt + 1 ∧ (∀ i, ar S1 43 t0 i = if i = ix (S.1 24 t0) then a0 else ar S 43 t0 i) ∧ (∀ i, ar S1 44 t0 i = if i = ix (S.1 24 t0) then (if 0 ≤ a0.toInt then ar S 44 t0 (a0.toInt / 3).toNat + 1 else 0) else ar S 44 t0 i) ∧ (∀ i, ar S1 45 t0 i = if i = ix (S.1 24 t0) then a1 else ar S 45 t0 i) ∧ (∀ i, ar S1 49 t0 i = if i = ix (S.1 24 t0) then 0 else ar S 49 t0 i))) := by
  have nS : FX [] S S := FX_rf
  unfold wT_X7_newTry
  intro z1 ez1
  refine ⟨fun c1 => ?_, fun c1 => ?_⟩
  · intro z3 ez3
    intro z4 ez4
    intro q5 eq5
    have wq5 := rd_w nS (by decide) ez3 eq5
    refine ⟨by grind [k_ii, k_ir, k_ri, k_rr, k_ai, k_ar, k_li, k_lr, k_qi, k_qr, ar_ci, ar_cl, ar_cq, la_ci, la_ca, la_cq, qa_ci, qa_ca, qa_cl, tk_link, kn460], ?_⟩
    intro S6 eS6
    have nS6 : FX [] S S6 := FX_a eS6 nS
    have arS6 := ar_wr hI nS (by decide) (by decide) wq5 eS6
    intro z7 ez7
    intro z8 ez8
    have d8 : z8 = S.1 24 t0 := by grind [k_ii, k_ir, k_ri, k_rr, k_ai, k_ar, k_li, k_lr, k_qi, k_qr, ar_ci, ar_cl, ar_cq, la_ci, la_ca, la_cq, qa_ci, qa_ca, qa_cl, tk_link, kn460]
    refine ⟨fun c2 => ?_, fun c2 => ?_⟩
    · intro z10 ez10
      refine ⟨by grind [k_ii, k_ir, k_ri, k_rr, k_ai, k_ar, k_li, k_lr, k_qi, k_qr, ar_ci, ar_cl, ar_cq, la_ci, la_ca, la_cq, qa_ci, qa_ca, qa_cl, tk_link, kn460], ?_⟩
      intro z11 ez11
      have dz11 : z11.toInt = a0.toInt / 3 ∧ 0 ≤ z11.toInt ∧ z11.toInt < 460 := by rw [ez11]; exact dv3 (by grind [k_ii, k_ir, k_ri, k_rr, k_ai, k_ar, k_li, k_lr, k_qi, k_qr, ar_ci, ar_cl, ar_cq, la_ci, la_ca, la_cq, qa_ci, qa_ca, qa_cl, tk_link, kn460]) (by grind [k_ii, k_ir, k_ri, k_rr, k_ai, k_ar, k_li, k_lr, k_qi, k_qr, ar_ci, ar_cl, ar_cq, la_ci, la_ca, la_cq, qa_ci, qa_ca, qa_cl, tk_link, kn460])
      clear ez11
      have i11 : ix z11 = (a0.toInt / 3).toNat := by unfold ix; rw [dz11.1]
      intro q12 eq12
      have wq12 := rd_w nS6 (by decide) ez10 eq12
      refine ⟨by grind [k_ii, k_ir, k_ri, k_rr, k_ai, k_ar, k_li, k_lr, k_qi, k_qr, ar_ci, ar_cl, ar_cq, la_ci, la_ca, la_cq, qa_ci, qa_ca, qa_cl, tk_link, kn460], ?_⟩
      intro z13 ez13
      replace ez13 := ez13.trans (ar_rd nS6 (by decide) (by decide) wq12)
      intro z14 ez14
      have hrz14 : -2147483648 ≤ z13.toInt + 1 ∧ z13.toInt + 1 < 2147483648 := by grind [k_ii, k_ir, k_ri, k_rr, k_ai, k_ar, k_li, k_lr, k_qi, k_qr, ar_ci, ar_cl, ar_cq, la_ci, la_ca, la_cq, qa_ci, qa_ca, qa_cl, tk_link, kn460]
      replace ez14 : z14.toInt = z13.toInt + 1 := w_add ez14 hrz14
      clear hrz14
      unfold wT_X7_newTry_48
      intro q15 eq15
      have wq15 := rd_w nS6 (by decide) ez7 eq15
      refine ⟨by grind [k_ii, k_ir, k_ri, k_rr, k_ai, k_ar, k_li, k_lr, k_qi, k_qr, ar_ci, ar_cl, ar_cq, la_ci, la_ca, la_cq, qa_ci, qa_ca, qa_cl, tk_link, kn460], ?_⟩
      intro S16 eS16
      have nS16 : FX [] S S16 := FX_a eS16 nS6
      have arS16 := ar_wr hI nS6 (by decide) (by decide) wq15 eS16
      intro z17 ez17
      intro z18 ez18
      intro q19 eq19
      have wq19 := rd_w nS16 (by decide) ez17 eq19
      refine ⟨by grind [k_ii, k_ir, k_ri, k_rr, k_ai, k_ar, k_li, k_lr, k_qi, k_qr, ar_ci, ar_cl, ar_cq, la_ci, la_ca, la_cq, qa_ci, qa_ca, qa_cl, tk_link, kn460], ?_⟩
      intro S20 eS20
      have nS20 : FX [] S S20 := FX_a eS20 nS16
      have arS20 := ar_wr hI nS16 (by decide) (by decide) wq19 eS20
      intro z21 ez21
      intro z22 ez22
      intro q23 eq23
      have wq23 := rd_w nS20 (by decide) ez21 eq23
      refine ⟨by grind [k_ii, k_ir, k_ri, k_rr, k_ai, k_ar, k_li, k_lr, k_qi, k_qr, ar_ci, ar_cl, ar_cq, la_ci, la_ca, la_cq, qa_ci, qa_ca, qa_cl, tk_link, kn460], ?_⟩
      intro S24 eS24
      have nS24 : FX [] S S24 := FX_a eS24 nS20
      have arS24 := ar_wr hI nS20 (by decide) (by decide) wq23 eS24
      intro z25 ez25
      intro z26 ez26
      have hrz26 : -2147483648 ≤ z25.toInt + 1 ∧ z25.toInt + 1 < 2147483648 := by grind [k_ii, k_ir, k_ri, k_rr, k_ai, k_ar, k_li, k_lr, k_qi, k_qr, ar_ci, ar_cl, ar_cq, la_ci, la_ca, la_cq, qa_ci, qa_ca, qa_cl, tk_link, kn460]
      replace ez26 : z26.toInt = z25.toInt + 1 := w_add ez26 hrz26
      clear hrz26
      intro S27 eS27
      have nS27 : FX [] S S27 := FX_i eS27 nS24
      intro z28 ez28
      intro z29 ez29
      have hrz29 : -2147483648 ≤ z28.toInt - 1 ∧ z28.toInt - 1 < 2147483648 := by grind [k_ii, k_ir, k_ri, k_rr, k_ai, k_ar, k_li, k_lr, k_qi, k_qr, ar_ci, ar_cl, ar_cq, la_ci, la_ca, la_cq, qa_ci, qa_ca, qa_cl, tk_link, kn460]
      replace ez29 : z29.toInt = z28.toInt - 1 := w_sub ez29 hrz29
      clear hrz29
      exact by grind [k_ii, k_ir, k_ri, k_rr, k_ai, k_ar, k_li, k_lr, k_qi, k_qr, ar_ci, ar_cl, ar_cq, la_ci, la_ca, la_cq, qa_ci, qa_ca, qa_cl, tk_link, kn460]
    · unfold wT_X7_newTry_48
      intro q15 eq15
      have wq15 := rd_w nS6 (by decide) ez7 eq15
      refine ⟨by grind [k_ii, k_ir, k_ri, k_rr, k_ai, k_ar, k_li, k_lr, k_qi, k_qr, ar_ci, ar_cl, ar_cq, la_ci, la_ca, la_cq, qa_ci, qa_ca, qa_cl, tk_link, kn460], ?_⟩
      intro S16 eS16
      have nS16 : FX [] S S16 := FX_a eS16 nS6
      have arS16 := ar_wr hI nS6 (by decide) (by decide) wq15 eS16
      intro z17 ez17
      intro z18 ez18
      intro q19 eq19
      have wq19 := rd_w nS16 (by decide) ez17 eq19
      refine ⟨by grind [k_ii, k_ir, k_ri, k_rr, k_ai, k_ar, k_li, k_lr, k_qi, k_qr, ar_ci, ar_cl, ar_cq, la_ci, la_ca, la_cq, qa_ci, qa_ca, qa_cl, tk_link, kn460], ?_⟩
      intro S20 eS20
      have nS20 : FX [] S S20 := FX_a eS20 nS16
      have arS20 := ar_wr hI nS16 (by decide) (by decide) wq19 eS20
      intro z21 ez21
      intro z22 ez22
      intro q23 eq23
      have wq23 := rd_w nS20 (by decide) ez21 eq23
      refine ⟨by grind [k_ii, k_ir, k_ri, k_rr, k_ai, k_ar, k_li, k_lr, k_qi, k_qr, ar_ci, ar_cl, ar_cq, la_ci, la_ca, la_cq, qa_ci, qa_ca, qa_cl, tk_link, kn460], ?_⟩
      intro S24 eS24
      have nS24 : FX [] S S24 := FX_a eS24 nS20
      have arS24 := ar_wr hI nS20 (by decide) (by decide) wq23 eS24
      intro z25 ez25
      intro z26 ez26
      have hrz26 : -2147483648 ≤ z25.toInt + 1 ∧ z25.toInt + 1 < 2147483648 := by grind [k_ii, k_ir, k_ri, k_rr, k_ai, k_ar, k_li, k_lr, k_qi, k_qr, ar_ci, ar_cl, ar_cq, la_ci, la_ca, la_cq, qa_ci, qa_ca, qa_cl, tk_link, kn460]
      replace ez26 : z26.toInt = z25.toInt + 1 := w_add ez26 hrz26
      clear hrz26
      intro S27 eS27
      have nS27 : FX [] S S27 := FX_i eS27 nS24
      intro z28 ez28
      intro z29 ez29
      have hrz29 : -2147483648 ≤ z28.toInt - 1 ∧ z28.toInt - 1 < 2147483648 := by grind [k_ii, k_ir, k_ri, k_rr, k_ai, k_ar, k_li, k_lr, k_qi, k_qr, ar_ci, ar_cl, ar_cq, la_ci, la_ca, la_cq, qa_ci, qa_ca, qa_cl, tk_link, kn460]
      replace ez29 : z29.toInt = z28.toInt - 1 := w_sub ez29 hrz29
      clear hrz29
      exact by grind [k_ii, k_ir, k_ri, k_rr, k_ai, k_ar, k_li, k_lr, k_qi, k_qr, ar_ci, ar_cl, ar_cq, la_ci, la_ca, la_cq, qa_ci, qa_ca, qa_cl, tk_link, kn460]
  · exact by grind [k_ii, k_ir, k_ri, k_rr, k_ai, k_ar, k_li, k_lr, k_qi, k_qr, ar_ci, ar_cl, ar_cq, la_ci, la_ca, la_cq, qa_ci, qa_ca, qa_cl, tk_link, kn460]
