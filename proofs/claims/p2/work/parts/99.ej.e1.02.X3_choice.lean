
set_option maxHeartbeats 400000 in
theorem sk_X3_choice {n : Int} {r_X3_block : Nat → Int32 → kS → (kS → Prop) → Prop} (hf_X3_block : ∀ t0 : Nat, ∀ a0 : Int32, KmV [6, 7, 8, 9, 10, 11, 17, 24, 25] [] [17, 18, 19, 28, 29, 30, 35, 36, 37, 43, 44, 45, 46, 47, 48, 49, 50, 51, 52] [20, 39] [] (r_X3_block t0 a0)) (hr_X3_block : ∀ (tk pg sc : Nat) (t0 : Nat) (a0 : Int32) (S : kS), INJ S → S.2.1 14 t0 = some tk → S.2.1 15 t0 = some pg → S.2.1 16 t0 = some sc → RG (vw t0 tk pg sc S) → BG 12 (vw t0 tk pg sc S) → TY ((-2)) (vw t0 tk pg sc S) → (LK (vw t0 tk pg sc S)) → (DK (a0.toInt + 1) (vw t0 tk pg sc S)) → (0 ≤ a0.toInt ∧ a0.toInt ≤ 10) → (11 - a0.toInt ≤ n) → r_X3_block t0 a0 S (fun S1 => Rx (-4) (vw t0 tk pg sc S) (vw t0 tk pg sc S1) ∧ TY ((-2)) (vw t0 tk pg sc S1) ∧ N1e (vw t0 tk pg sc S) (vw t0 tk pg sc S1))) {tk pg sc : Nat} (t0 : Nat) (a0 : Int32) {S : kS} (hI : INJ S) (hO14_t0 : S.2.1 14 t0 = some tk) (hO15_t0 : S.2.1 15 t0 = some pg) (hO16_t0 : S.2.1 16 t0 = some sc) (hG_S : RG (vw t0 tk pg sc S)) (hB_S : BG 12 (vw t0 tk pg sc S)) (hT_S : TY (-2) (vw t0 tk pg sc S)) (hL_S : LK (vw t0 tk pg sc S)) (hD_S : DK a0.toInt (vw t0 tk pg sc S)) (ha : 1 ≤ a0.toInt ∧ a0.toInt ≤ 10) (hn : 11 - a0.toInt ≤ n) : wT_X3_choice r_X3_block t0 a0 S (fun S1 => Rx (-4) (vw t0 tk pg sc S) (vw t0 tk pg sc S1) ∧ TY (-2) (vw t0 tk pg sc S1)) := by
  have nS : FX [] S S := FX_rf
  have PS : Rx 0 (vw t0 tk pg sc S) (vw t0 tk pg sc S) := Rx_rf
  have yS := hT_S
  unfold wT_X3_choice
  refine kqT_X3_expression _ _ _ _ _ (fun S1 hF1 pS1 => ?_) (sq_X3_expression (tk := tk) (pg := pg) (sc := sc) (t := -2) _ _ (INJ_x nS (by decide) hI) (ob_h nS (by decide) hO14_t0) (ob_h nS (by decide) hO15_t0) (ob_h nS (by decide) hO16_t0) (Rx_g PS hG_S) (BG_r PS hB_S (by decide)) yS (by decide) ((by decide)))
  have nS1 : FX [] S S1 := FX_k hF1 (by decide) nS
  have PS1 := Rx_tr hG_S PS pS1.1
  have yS1 : TY (-1) (vw t0 tk pg sc S1) := TY_e pS1.2 (by decide)
  clear hF1
  refine kmT_X3_emit _ _ _ _ _ _ (fun S2 r2 hF2 pS2 => ?_) (sr_X3_emit (tk := tk) (pg := pg) (sc := sc) _ _ _ (INJ_x nS1 (by decide) hI) (ob_h nS1 (by decide) hO14_t0) (ob_h nS1 (by decide) hO15_t0) (ob_h nS1 (by decide) hO16_t0) (Rx_g PS1 hG_S))
  have nS2 : FX [] S S2 := FX_k hF2 (by decide) nS1
  have iS2 : 0 ≤ r2.toInt ∧ r2.toInt ≤ 8063 := ⟨pS2.1, pS2.2.1⟩
  clear hF2
  have hG_S2 : RG (vw t0 tk pg sc S2) := EMr_g pS2 (Rx_g PS1 hG_S)
  have hB_S2 : BG 12 (vw t0 tk pg sc S2) := EMr_B (Rx_g PS1 hG_S) (BG_r (c1 := 11) PS1 hB_S (by decide)) (by decide) pS2 (by decide)
  have yS2 : TY (-2) (vw t0 tk pg sc S2) := EMr_T (Rx_g PS1 hG_S) (BG_r (c1 := 60) PS1 hB_S (by decide)) (by decide) pS2 yS1 (by decide)
  have PS2 : Rx 0 (vw t0 tk pg sc S2) (vw t0 tk pg sc S2) := Rx_rf
  have hL_S2 : LK (vw t0 tk pg sc S2) := LK_v (EMr_i pS2) (by decide) (by decide) (LK_r hG_S PS1 hL_S)
  have hD_S2 : DK a0.toInt (vw t0 tk pg sc S2) := DK_v (EMr_i pS2) (by decide) (by decide) (DK_r hG_S PS1 hD_S)
  refine hf_X3_block _ _ _ _ _ (fun S3 hF3 pS3 => ?_) (hr_X3_block tk pg sc _ _ _ (INJ_x nS2 (by decide) hI) (ob_h nS2 (by decide) hO14_t0) (ob_h nS2 (by decide) hO15_t0) (ob_h nS2 (by decide) hO16_t0) (Rx_g PS2 hG_S2) (BG_r PS2 hB_S2 (by decide)) yS2 (LK_r hG_S2 PS2 hL_S2) (DK_m (DK_r hG_S2 PS2 hD_S2) (by grind [NZ, k_ii, k_ir, k_ri, k_rr, k_ai, k_ar, k_li, k_lr, k_qi, k_qr, ar_ci, ar_cl, ar_cq, la_ci, la_ca, la_cq, qa_ci, qa_ca, qa_cl, tk_link, kn8064])) (by grind [NZ, k_ii, k_ir, k_ri, k_rr, k_ai, k_ar, k_li, k_lr, k_qi, k_qr, ar_ci, ar_cl, ar_cq, la_ci, la_ca, la_cq, qa_ci, qa_ca, qa_cl, tk_link, kn8064]) (by grind [NZ, k_ii, k_ir, k_ri, k_rr, k_ai, k_ar, k_li, k_lr, k_qi, k_qr, ar_ci, ar_cl, ar_cq, la_ci, la_ca, la_cq, qa_ci, qa_ca, qa_cl, tk_link, kn8064]))
  have nS3 : FX [] S S3 := FX_k hF3 (by decide) nS2
  have PS3 := Rx_tr hG_S2 PS2 pS3.1
  have yS3 := pS3.2.1
  clear hF3
  refine kmT_X3_take _ _ _ _ _ (fun S4 r4 hF4 pS4 => ?_) (sr_X3_take (tk := tk) (pg := pg) (sc := sc) _ _ (INJ_x nS3 (by decide) hI) (ob_h nS3 (by decide) hO14_t0) (ob_h nS3 (by decide) hO15_t0) (ob_h nS3 (by decide) hO16_t0) (Rx_g PS3 hG_S2))
  have nS4 : FX [] S S4 := FX_k hF4 (by decide) nS3
  have PS4 := Rx_tr hG_S2 PS3 pS4.1
  have yS4 := TY_r pS4.1 yS3 ((vw_k hF4 (INJ_x nS3 (by decide) hI) (by decide) (by decide)).1 17 (by decide)) ((vw_k hF4 (INJ_x nS3 (by decide) hI) (by decide) (by decide)).2 28 (by decide) (by decide))
  clear hF4
  refine ⟨fun c5 => ?_, fun c5 => ?_⟩
  · intro z6 ez6
    refine ⟨pg, ob_e nS4 (by decide) hO15_t0 ez6, ?_⟩
    intro z8 ez8
    intro z9 ez9
    refine ⟨pg, ob_e nS4 (by decide) hO15_t0 ez9, ?_⟩
    intro z11 ez11
    intro q12 eq12
    have wq12 := rd_w nS4 (by decide) ez8 eq12
    refine ⟨by grind [NZ, k_ii, k_ir, k_ri, k_rr, k_ai, k_ar, k_li, k_lr, k_qi, k_qr, ar_ci, ar_cl, ar_cq, la_ci, la_ca, la_cq, qa_ci, qa_ca, qa_cl, tk_link, kn8064], ?_⟩
    intro S13 eS13
    have nS13 : FX [] S S13 := FX_a eS13 nS4
    have arS13 := ar_wr hI nS4 (by decide) (by decide) wq12 eS13
    have tS13 := PT_of (t0 := t0) (tk := tk) (pg := pg) (sc := sc) eS13 arS13 pS2.1
    exact ⟨Rx_m (Rx_if1 hG_S PS1 (BG_r (c1 := 60) PS1 hB_S (by decide)) (by decide) pS2 PS4 tS13 (by rw [ez11]; rfl) yS4) (by decide), TY_pt tS13 yS4⟩
  · refine kmT_X3_emit _ _ _ _ _ _ (fun S14 r14 hF6 pS14 => ?_) (sr_X3_emit (tk := tk) (pg := pg) (sc := sc) _ _ _ (INJ_x nS4 (by decide) hI) (ob_h nS4 (by decide) hO14_t0) (ob_h nS4 (by decide) hO15_t0) (ob_h nS4 (by decide) hO16_t0) (Rx_g PS4 hG_S2))
    have nS14 : FX [] S S14 := FX_k hF6 (by decide) nS4
    have iS14 : 0 ≤ r14.toInt ∧ r14.toInt ≤ 8063 := ⟨pS14.1, pS14.2.1⟩
    clear hF6
    have hg_S22 : RG (vw t0 tk pg sc S14) := EMr_g pS14 (Rx_g PS4 hG_S2)
    have hb_S22 : BG 12 (vw t0 tk pg sc S14) := EMr_B (Rx_g PS4 hG_S2) (BG_r (c1 := 11) PS4 hB_S2 (by decide)) (by decide) pS14 (by decide)
    have ht_S22 : TY (-2) (vw t0 tk pg sc S14) := EMr_T (Rx_g PS4 hG_S2) (BG_r (c1 := 60) PS4 hB_S2 (by decide)) (by decide) pS14 yS4 (by decide)
    have hl_S22 := LK_v (EMr_i pS14) (by decide) (by decide) (LK_r hG_S2 PS4 hL_S2)
    have hd_S22 := DK_v (EMr_i pS14) (by decide) (by decide) (DK_r hG_S2 PS4 hD_S2)
    intro z15 ez15
    refine ⟨pg, ob_e nS14 (by decide) hO15_t0 ez15, ?_⟩
    intro z17 ez17
    intro z18 ez18
    refine ⟨pg, ob_e nS14 (by decide) hO15_t0 ez18, ?_⟩
    intro z20 ez20
    intro q21 eq21
    have wq21 := rd_w nS14 (by decide) ez17 eq21
    refine ⟨by grind [NZ, k_ii, k_ir, k_ri, k_rr, k_ai, k_ar, k_li, k_lr, k_qi, k_qr, ar_ci, ar_cl, ar_cq, la_ci, la_ca, la_cq, qa_ci, qa_ca, qa_cl, tk_link, kn8064], ?_⟩
    intro S22 eS22
    have nS22 : FX [] S S22 := FX_a eS22 nS14
    have arS22 := ar_wr hI nS14 (by decide) (by decide) wq21 eS22
    have tS22 := PT_of (t0 := t0) (tk := tk) (pg := pg) (sc := sc) eS22 arS22 pS2.1
    have hG_S22 : RG (vw t0 tk pg sc S22) := PT_g tS22 hg_S22
    have hB_S22 : BG 12 (vw t0 tk pg sc S22) := BG_v tS22.2 (by decide) hb_S22
    have yS22 : TY (-2) (vw t0 tk pg sc S22) := TY_pt tS22 ht_S22
    have PS22 : Rx 0 (vw t0 tk pg sc S22) (vw t0 tk pg sc S22) := Rx_rf
    have hL_S22 : LK (vw t0 tk pg sc S22) := LK_v tS22.2 (by decide) (by decide) hl_S22
    have hD_S22 : DK a0.toInt (vw t0 tk pg sc S22) := DK_v tS22.2 (by decide) (by decide) hd_S22
    refine hf_X3_block _ _ _ _ _ (fun S23 hF7 pS23 => ?_) (hr_X3_block tk pg sc _ _ _ (INJ_x nS22 (by decide) hI) (ob_h nS22 (by decide) hO14_t0) (ob_h nS22 (by decide) hO15_t0) (ob_h nS22 (by decide) hO16_t0) (Rx_g PS22 hG_S22) (BG_r PS22 hB_S22 (by decide)) yS22 (LK_r hG_S22 PS22 hL_S22) (DK_m (DK_r hG_S22 PS22 hD_S22) (by grind [NZ, k_ii, k_ir, k_ri, k_rr, k_ai, k_ar, k_li, k_lr, k_qi, k_qr, ar_ci, ar_cl, ar_cq, la_ci, la_ca, la_cq, qa_ci, qa_ca, qa_cl, tk_link, kn8064])) (by grind [NZ, k_ii, k_ir, k_ri, k_rr, k_ai, k_ar, k_li, k_lr, k_qi, k_qr, ar_ci, ar_cl, ar_cq, la_ci, la_ca, la_cq, qa_ci, qa_ca, qa_cl, tk_link, kn8064]) (by grind [NZ, k_ii, k_ir, k_ri, k_rr, k_ai, k_ar, k_li, k_lr, k_qi, k_qr, ar_ci, ar_cl, ar_cq, la_ci, la_ca, la_cq, qa_ci, qa_ca, qa_cl, tk_link, kn8064]))
    have nS23 : FX [] S S23 := FX_k hF7 (by decide) nS22
    have PS23 := Rx_tr hG_S22 PS22 pS23.1
    have yS23 := pS23.2.1
    clear hF7
    intro z24 ez24
    refine ⟨pg, ob_e nS23 (by decide) hO15_t0 ez24, ?_⟩
    intro z26 ez26
    intro z27 ez27
    refine ⟨pg, ob_e nS23 (by decide) hO15_t0 ez27, ?_⟩
    intro z29 ez29
    intro q30 eq30
    have wq30 := rd_w nS23 (by decide) ez26 eq30
    refine ⟨by grind [NZ, k_ii, k_ir, k_ri, k_rr, k_ai, k_ar, k_li, k_lr, k_qi, k_qr, ar_ci, ar_cl, ar_cq, la_ci, la_ca, la_cq, qa_ci, qa_ca, qa_cl, tk_link, kn8064], ?_⟩
    intro S31 eS31
    have nS31 : FX [] S S31 := FX_a eS31 nS23
    have arS31 := ar_wr hI nS23 (by decide) (by decide) wq30 eS31
    have tS31 := PT_of (t0 := t0) (tk := tk) (pg := pg) (sc := sc) eS31 arS31 pS14.1
    exact ⟨Rx_m (Rx_if2 hG_S PS1 (BG_r (c1 := 60) PS1 hB_S (by decide)) (by decide) pS2 PS4 yS4 (BG_r (c1 := 60) PS4 hB_S2 (by decide)) (by decide) pS14 tS22 (by rw [ez20]; rfl) PS23 yS23 tS31 (by rw [ez29]; rfl)) (by decide), TY_pt tS31 yS23⟩
