
set_option maxHeartbeats 400000 in
theorem sk_X3_repeated {n : Int} {r_X3_block : Nat → Int32 → kS → (kS → Prop) → Prop} (hf_X3_block : ∀ t0 : Nat, ∀ a0 : Int32, KmV [6, 7, 8, 9, 10, 11, 17, 24, 25] [] [17, 18, 19, 28, 29, 30, 35, 36, 37, 43, 44, 45, 46, 47, 48, 49, 50, 51, 52] [20, 39] [] (r_X3_block t0 a0)) (hr_X3_block : ∀ (tk pg sc : Nat) (t0 : Nat) (a0 : Int32) (S : kS), INJ S → S.2.1 14 t0 = some tk → S.2.1 15 t0 = some pg → S.2.1 16 t0 = some sc → RG (vw t0 tk pg sc S) → BG 12 (vw t0 tk pg sc S) → TY ((-2)) (vw t0 tk pg sc S) → (LK (vw t0 tk pg sc S)) → (DK (a0.toInt + 1) (vw t0 tk pg sc S)) → (0 ≤ a0.toInt ∧ a0.toInt ≤ 10) → (11 - a0.toInt ≤ n) → r_X3_block t0 a0 S (fun S1 => Rx (-4) (vw t0 tk pg sc S) (vw t0 tk pg sc S1) ∧ TY ((-2)) (vw t0 tk pg sc S1) ∧ N1e (vw t0 tk pg sc S) (vw t0 tk pg sc S1))) {tk pg sc : Nat} (t0 : Nat) (a0 : Int32) (a1 : Int32) {S : kS} (hI : INJ S) (hO14_t0 : S.2.1 14 t0 = some tk) (hO15_t0 : S.2.1 15 t0 = some pg) (hO16_t0 : S.2.1 16 t0 = some sc) (hG_S : RG (vw t0 tk pg sc S)) (hB_S : BG 12 (vw t0 tk pg sc S)) (hT_S : TY (-2) (vw t0 tk pg sc S)) (hL_S : LK (vw t0 tk pg sc S)) (hD_S : DK a0.toInt (vw t0 tk pg sc S)) (ha : 1 ≤ a0.toInt ∧ a0.toInt ≤ 10) (hn : 11 - a0.toInt ≤ n) (hf : FST a1.toInt (vw t0 tk pg sc S)) : wT_X3_repeated r_X3_block t0 a0 a1 S (fun S1 => Rx (-3) (vw t0 tk pg sc S) (vw t0 tk pg sc S1) ∧ TY (-2) (vw t0 tk pg sc S1)) := by
  have nS : FX [] S S := FX_rf
  have PS : Rx 0 (vw t0 tk pg sc S) (vw t0 tk pg sc S) := Rx_rf
  have yS := hT_S
  unfold wT_X3_repeated
  intro z1 ez1
  intro z2 ez2
  intro z3 ez3
  refine ⟨sc, ob_e nS (by decide) hO16_t0 ez2, ?_⟩
  refine kmT_X7_newLoop _ _ _ _ _ _ (fun S5 r5 hF1 pS5 => ?_) (sr_X7_newLoop (x0 := t0) (tk := tk) (pg := pg) _ _ _ (INJ_x nS (by decide) hI) (Rx_g PS hG_S) ((by rw [ez3]; rfl)))
  have nS5 : FX [] S S5 := FX_k hF1 (by decide) nS
  have VS5 := vw_k (t0 := t0) (tk := tk) (pg := pg) (sc := sc) hF1 (INJ_x nS (by decide) hI) (by decide) (by decide)
  clear hF1
  have hG_S5 : RG (vw t0 tk pg sc S5) := by rcases pS5 with ⟨_, h⟩ | ⟨h1, h2, h3⟩; (rw [h]; exact hG_S); exact RG_nl h1.1 h3 h1.2.2.2 hG_S
  have hB_S5 : BG 12 (vw t0 tk pg sc S5) := by rcases pS5 with ⟨_, h⟩ | ⟨h1, h2, h3⟩; (rw [h]; exact hB_S); exact BG_v h1.2.2.2 (by decide) hB_S
  have yS5 : TY (-2) (vw t0 tk pg sc S5) := by rcases pS5 with ⟨_, h⟩ | ⟨h1, h2, h3⟩; (rw [h]; exact hT_S); exact TY_v h1.2.2.2 (by decide) (by decide) hT_S
  have PS5 : Rx 0 (vw t0 tk pg sc S5) (vw t0 tk pg sc S5) := Rx_rf
  refine ⟨fun c2 => ?_, fun c2 => ?_⟩
  · refine kqT_X3_expression _ _ _ _ _ (fun S7 hF3 pS7 => ?_) (sq_X3_expression (tk := tk) (pg := pg) (sc := sc) (t := -2) _ _ (INJ_x nS5 (by decide) hI) (ob_h nS5 (by decide) hO14_t0) (ob_h nS5 (by decide) hO15_t0) (ob_h nS5 (by decide) hO16_t0) (Rx_g PS5 hG_S5) (BG_r PS5 hB_S5 (by decide)) yS5 (by decide) ((by decide)))
    have nS7 : FX [] S S7 := FX_k hF3 (by decide) nS5
    have PS7 := Rx_tr hG_S5 PS5 pS7.1
    have yS7 : TY (-1) (vw t0 tk pg sc S7) := TY_e pS7.2 (by decide)
    clear hF3
    have nlS5 := pS5.resolve_left (fun h => c2 h.1)
    have iS5 : 0 ≤ r5.toInt ∧ r5.toInt < 460 := by have := nlS5.2.1; have := nlS5.2.2; have := hG_S.2.2.2.2.1; omega
    have l25 : r5.toInt < (vw t0 tk pg sc S7).1 25 := by have h1 := nlS5.1.1; have h2 := nlS5.2.1; have h3 := PS7.2.1.2.2.2.2; omega
    refine kmT_X3_emit _ _ _ _ _ _ (fun S8 r8 hF4 pS8 => ?_) (sr_X3_emit (tk := tk) (pg := pg) (sc := sc) _ _ _ (INJ_x nS7 (by decide) hI) (ob_h nS7 (by decide) hO14_t0) (ob_h nS7 (by decide) hO15_t0) (ob_h nS7 (by decide) hO16_t0) (Rx_g PS7 hG_S5))
    have nS8 : FX [] S S8 := FX_k hF4 (by decide) nS7
    have iS8 : 0 ≤ r8.toInt ∧ r8.toInt ≤ 8063 := ⟨pS8.1, pS8.2.1⟩
    clear hF4
    intro S9 eS9
    have nS9 : FX [] S S9 := FX_i eS9 nS8
    have vS9 := vw_ci (tk := tk) (pg := pg) (sc := sc) eS9 (by decide)
    have hG_S9 : RG (vw t0 tk pg sc S9) := RG_9 (by rw [vS9.2, vS9.1.1 25 (by decide), (EMr_i pS8).1 25 (by decide)]; exact ⟨Int.le_trans (by decide) iS5.1, l25⟩) vS9.1 (EMr_g pS8 (Rx_g PS7 hG_S5))
    have hB_S9 : BG 12 (vw t0 tk pg sc S9) := BG_v vS9.1 (by decide) (EMr_B (Rx_g PS7 hG_S5) (BG_r (c1 := 11) PS7 hB_S5 (by decide)) (by decide) pS8 (by decide))
    have yS9 : TY (-2) (vw t0 tk pg sc S9) := TY_v vS9.1 (by decide) (by decide) (EMr_T (Rx_g PS7 hG_S5) (BG_r (c1 := 60) PS7 hB_S5 (by decide)) (by decide) pS8 yS7 (by decide))
    have PS9 : Rx 0 (vw t0 tk pg sc S9) (vw t0 tk pg sc S9) := Rx_rf
    have hL_S9 : LK (vw t0 tk pg sc S9) := fun q9 => LK_l vS9.2 (by have q8 : (vw t0 tk pg sc S8).1 7 = 0 := (vS9.1.1 7 (by decide)).symm.trans q9; have q7 : (vw t0 tk pg sc S7).1 7 = 0 := ((EMr_i pS8).1 7 (by decide)).symm.trans q8; have k7 := (PS7.2.2.2.2 q7).1.2.2.2.2.2 r5.toInt.toNat (by have := nlS5.1.1; have := nlS5.2.1; have := iS5.1; omega); rw [vS9.1.2 50 (by decide) (by decide), (EMr_i pS8).2 50 (by decide) (by decide), k7.1, nlS5.1.2.1, if_pos (by have := nlS5.2.1; have := iS5.1; omega), vS9.1.1 8 (by decide), (EMr_i pS8).1 8 (by decide), PS7.2.2.2.1.1, nlS5.1.2.2.2.1 8 (by decide)]) q9
    have hD_S9 : DK a0.toInt (vw t0 tk pg sc S9) := DK_v vS9.1 (by decide) (by decide) (DK_v (EMr_i pS8) (by decide) (by decide) (DK_r hG_S5 PS7 (DK_v (NL_v nlS5.1) (by decide) (by decide) hD_S)))
    refine hf_X3_block _ _ _ _ _ (fun S10 hF5 pS10 => ?_) (hr_X3_block tk pg sc _ _ _ (INJ_x nS9 (by decide) hI) (ob_h nS9 (by decide) hO14_t0) (ob_h nS9 (by decide) hO15_t0) (ob_h nS9 (by decide) hO16_t0) (Rx_g PS9 hG_S9) (BG_r PS9 hB_S9 (by decide)) yS9 (LK_r hG_S9 PS9 hL_S9) (DK_m (DK_r hG_S9 PS9 hD_S9) (by grind [NZ, k_ii, k_ir, k_ri, k_rr, k_ai, k_ar, k_li, k_lr, k_qi, k_qr, ar_ci, ar_cl, ar_cq, la_ci, la_ca, la_cq, qa_ci, qa_ca, qa_cl, tk_link, kn460, kn8064])) (by grind [NZ, k_ii, k_ir, k_ri, k_rr, k_ai, k_ar, k_li, k_lr, k_qi, k_qr, ar_ci, ar_cl, ar_cq, la_ci, la_ca, la_cq, qa_ci, qa_ca, qa_cl, tk_link, kn460, kn8064]) (by grind [NZ, k_ii, k_ir, k_ri, k_rr, k_ai, k_ar, k_li, k_lr, k_qi, k_qr, ar_ci, ar_cl, ar_cq, la_ci, la_ca, la_cq, qa_ci, qa_ca, qa_cl, tk_link, kn460, kn8064]))
    have nS10 : FX [] S S10 := FX_k hF5 (by decide) nS9
    have PS10 := Rx_tr hG_S9 PS9 pS10.1
    have yS10 := pS10.2.1
    clear hF5
    intro S11 eS11
    have nS11 : FX [] S S11 := FX_i eS11 nS10
    have vS11 := vw_ci (tk := tk) (pg := pg) (sc := sc) eS11 (by decide)
    have e11 : (vw t0 tk pg sc S11).1 9 = (vw t0 tk pg sc S).1 9 := vS11.2.trans (by rw [ez1]; rfl)
    have hG_S11 : RG (vw t0 tk pg sc S11) := RG_9 (by have h1 := nlS5.1.1; have h2 := PS7.2.1.2.2.2.2; have h3 := (EMr_i pS8).1 25 (by decide); have h4 := vS9.1.1 25 (by decide); have h5 := PS10.2.1.2.2.2.2; have h6 := vS11.1.1 25 (by decide); have h7 := hG_S.2.2.2.2.2.2.2.1; omega) vS11.1 (Rx_g PS10 hG_S9)
    refine kmT_X3_emit _ _ _ _ _ _ (fun S12 r12 hF6 pS12 => ?_) (sr_X3_emit (tk := tk) (pg := pg) (sc := sc) _ _ _ (INJ_x nS11 (by decide) hI) (ob_h nS11 (by decide) hO14_t0) (ob_h nS11 (by decide) hO15_t0) (ob_h nS11 (by decide) hO16_t0) hG_S11)
    have nS12 : FX [] S S12 := FX_k hF6 (by decide) nS11
    have VS12 := vw_k (t0 := t0) (tk := tk) (pg := pg) (sc := sc) hF6 (INJ_x nS11 (by decide) hI) (by decide) (by decide)
    clear hF6
    intro z13 ez13
    refine ⟨pg, ob_e nS12 (by decide) hO15_t0 ez13, ?_⟩
    intro z15 ez15
    intro z16 ez16
    refine ⟨pg, ob_e nS12 (by decide) hO15_t0 ez16, ?_⟩
    intro z18 ez18
    intro q19 eq19
    have wq19 := rd_w nS12 (by decide) ez15 eq19
    refine ⟨by grind [NZ, k_ii, k_ir, k_ri, k_rr, k_ai, k_ar, k_li, k_lr, k_qi, k_qr, ar_ci, ar_cl, ar_cq, la_ci, la_ca, la_cq, qa_ci, qa_ca, qa_cl, tk_link, kn460, kn8064], ?_⟩
    intro S20 eS20
    have nS20 : FX [] S S20 := FX_a eS20 nS12
    have arS20 := ar_wr hI nS12 (by decide) (by decide) wq19 eS20
    have tS20 := PT_of (t0 := t0) (tk := tk) (pg := pg) (sc := sc) eS20 arS20 pS8.1
    intro z21 ez21
    refine ⟨sc, ob_e nS20 (by decide) hO16_t0 ez21, ?_⟩
    intro z23 ez23
    intro z24 ez24
    refine ⟨pg, ob_e nS20 (by decide) hO15_t0 ez24, ?_⟩
    intro z26 ez26
    intro q27 eq27
    have wq27 := rd_w nS20 (by decide) ez23 eq27
    refine ⟨by grind [NZ, k_ii, k_ir, k_ri, k_rr, k_ai, k_ar, k_li, k_lr, k_qi, k_qr, ar_ci, ar_cl, ar_cq, la_ci, la_ca, la_cq, qa_ci, qa_ca, qa_cl, tk_link, kn460, kn8064], ?_⟩
    intro S28 eS28
    have nS28 : FX [] S S28 := FX_a eS28 nS20
    have arS28 := ar_wr hI nS20 (by decide) (by decide) wq27 eS28
    have up52 := up_v (A := ar S20 52 sc) (A1 := ar S28 52 sc) (z := r5) (v := z26) iS5.1 (fun j => by rw [arS28 52 sc j]; rcases Decidable.em (j = ix r5) with h9 | h9; (rw [if_pos ⟨rfl, rfl, h9⟩, if_pos h9]); (rw [if_neg (fun q => h9 q.2.2), if_neg h9]))
    have lpX := Rx_lp hG_S hf nlS5.1 nlS5.2.1 nlS5.2.2 PS7 (BG_r (c1 := 60) PS7 hB_S5 (by decide)) (by decide) pS8 vS9.1 vS9.2 PS10 vS11.1 (vS11.2.trans (by rw [ez1]; rfl)) yS10 (BG_v vS11.1 (by decide) (BG_r (c1 := 60) PS10 hB_S9 (by decide))) (by decide) pS12 tS20 (by rw [ez18]; rfl) up52 (vw_ca eS28 arS28 (by decide)) (by rw [ez26]; rfl)
    exact ⟨Rx_m lpX.1 (by decide), lpX.2⟩
  · refine kmT_X3_wrong _ _ _ _ _ (fun S29 hF7 pS29 => ?_) (sr_X3_wrong (tk := tk) (pg := pg) (sc := sc) _ _ (INJ_x nS5 (by decide) hI) (ob_h nS5 (by decide) hO14_t0) (ob_h nS5 (by decide) hO15_t0) (ob_h nS5 (by decide) hO16_t0) (Rx_g PS5 hG_S5) ((by decide)))
    have nS29 : FX [] S S29 := FX_k hF7 (by decide) nS5
    have PS29 := Rx_tr hG_S5 PS5 pS29.1
    have fS29 : (vw t0 tk pg sc S29).1 7 ≠ 0 := pS29.2
    clear hF7
    exact ⟨Rx_m (Rx_tr hG_S (Rx_eq (by rw [(pS5.resolve_right (fun h => absurd (show r5.toInt = -1 by rw [c2]; rfl) (by have := h.2.1; have := hG_S.2.2.2.2.1.1; omega))).2])) PS29) (by decide), fun q => absurd q fS29⟩
