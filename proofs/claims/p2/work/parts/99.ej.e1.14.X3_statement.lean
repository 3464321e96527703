
set_option maxHeartbeats 400000 in
theorem sk_X3_statement {n : Int} {r_X3_block : Nat → Int32 → kS → (kS → Prop) → Prop} (hf_X3_block : ∀ t0 : Nat, ∀ a0 : Int32, KmV [6, 7, 8, 9, 10, 11, 17, 24, 25] [] [17, 18, 19, 28, 29, 30, 35, 36, 37, 43, 44, 45, 46, 47, 48, 49, 50, 51, 52] [20, 39] [] (r_X3_block t0 a0)) (hr_X3_block : ∀ (tk pg sc : Nat) (t0 : Nat) (a0 : Int32) (S : kS), INJ S → S.2.1 14 t0 = some tk → S.2.1 15 t0 = some pg → S.2.1 16 t0 = some sc → RG (vw t0 tk pg sc S) → BG 12 (vw t0 tk pg sc S) → TY ((-2)) (vw t0 tk pg sc S) → (LK (vw t0 tk pg sc S)) → (DK (a0.toInt + 1) (vw t0 tk pg sc S)) → (0 ≤ a0.toInt ∧ a0.toInt ≤ 10) → (11 - a0.toInt ≤ n) → r_X3_block t0 a0 S (fun S1 => Rx (-4) (vw t0 tk pg sc S) (vw t0 tk pg sc S1) ∧ TY ((-2)) (vw t0 tk pg sc S1) ∧ N1e (vw t0 tk pg sc S) (vw t0 tk pg sc S1))) {tk pg sc : Nat} (t0 : Nat) (a0 : Int32) {S : kS} (hI : INJ S) (hO14_t0 : S.2.1 14 t0 = some tk) (hO15_t0 : S.2.1 15 t0 = some pg) (hO16_t0 : S.2.1 16 t0 = some sc) (hG_S : RG (vw t0 tk pg sc S)) (hB_S : BG 11 (vw t0 tk pg sc S)) (hT_S : TY (-2) (vw t0 tk pg sc S)) (hL_S : LK (vw t0 tk pg sc S)) (hD_S : DK a0.toInt (vw t0 tk pg sc S)) (ha : 1 ≤ a0.toInt ∧ a0.toInt ≤ 10) (hn : 11 - a0.toInt ≤ n) (hz : NZ (vw t0 tk pg sc S)) : wT_X3_statement r_X3_block t0 a0 S (fun S1 => Rx (-1) (vw t0 tk pg sc S) (vw t0 tk pg sc S1) ∧ TY (-2) (vw t0 tk pg sc S1) ∧ N1e (vw t0 tk pg sc S) (vw t0 tk pg sc S1)) := by
  have nS : FX [] S S := FX_rf
  have PS : Rx 0 (vw t0 tk pg sc S) (vw t0 tk pg sc S) := Rx_rf
  have yS := hT_S
  unfold wT_X3_statement
  refine kmT_X3_emit _ _ _ _ _ _ (fun S1 r1 hF1 pS1 => ?_) (sr_X3_emit (tk := tk) (pg := pg) (sc := sc) _ _ _ (INJ_x nS (by decide) hI) (ob_h nS (by decide) hO14_t0) (ob_h nS (by decide) hO15_t0) (ob_h nS (by decide) hO16_t0) (Rx_g PS hG_S))
  have nS1 : FX [] S S1 := FX_k hF1 (by decide) nS
  have gS1 : (vw t0 tk pg sc S1).1 7 = (vw t0 tk pg sc S).1 7 := (vw_k hF1 (INJ_x nS (by decide) hI) (by decide) (by decide)).1 7 (by decide)
  have iS1 : 0 ≤ r1.toInt ∧ r1.toInt ≤ 8063 := ⟨pS1.1, pS1.2.1⟩
  clear hF1
  have hG_S1 : RG (vw t0 tk pg sc S1) := EMr_g pS1 (Rx_g PS hG_S)
  have hB_S1 : BG 12 (vw t0 tk pg sc S1) := EMr_B (Rx_g PS hG_S) (BG_r (c1 := 11) PS hB_S (by decide)) (by decide) pS1 (by decide)
  have yS1 : TY (-2) (vw t0 tk pg sc S1) := EMr_T (Rx_g PS hG_S) (BG_r (c1 := 60) PS hB_S (by decide)) (by decide) pS1 yS (by decide)
  have PS1 : Rx 0 (vw t0 tk pg sc S1) (vw t0 tk pg sc S1) := Rx_rf
  have hL_S1 : LK (vw t0 tk pg sc S1) := LK_v (EMr_i pS1) (by decide) (by decide) (LK_r hG_S PS hL_S)
  have hD_S1 : DK a0.toInt (vw t0 tk pg sc S1) := DK_v (EMr_i pS1) (by decide) (by decide) (DK_r hG_S PS hD_S)
  have nzS1 : NZ (vw t0 tk pg sc S1) := NZ_vf (EMr_i pS1) (by decide) (by decide) hz
  refine kmT_X3_kind _ _ _ _ (fun S2 r2 hF2 pS2 => ?_) (sr_X3_kind (tk := tk) (pg := pg) (sc := sc) _ (INJ_x nS1 (by decide) hI) (ob_h nS1 (by decide) hO14_t0) (ob_h nS1 (by decide) hO15_t0) (ob_h nS1 (by decide) hO16_t0) (Rx_g PS1 hG_S1))
  obtain ⟨rfl, pS2⟩ := pS2
  clear hF2
  refine ⟨fun c3 => ?_, fun c3 => ?_⟩
  · refine kmT_X3_assigned _ _ _ _ (fun S4 hF4 pS4 => ?_) (sk_X3_assigned (tk := tk) (pg := pg) (sc := sc) _ (INJ_x nS1 (by decide) hI) (ob_h nS1 (by decide) hO14_t0) (ob_h nS1 (by decide) hO15_t0) (ob_h nS1 (by decide) hO16_t0) (Rx_g PS1 hG_S1) (BG_r PS1 hB_S1 (by decide)) yS1 (by grind [NZ, k_ii, k_ir, k_ri, k_rr, k_ai, k_ar, k_li, k_lr, k_qi, k_qr, ar_ci, ar_cl, ar_cq, la_ci, la_ca, la_cq, qa_ci, qa_ca, qa_cl, tk_link]))
    have nS4 : FX [] S S4 := FX_k hF4 (by decide) nS1
    have PS4 := Rx_tr hG_S1 PS1 pS4.1
    have yS4 := pS4.2
    clear hF4
    unfold wT_X3_statement_174
    refine kmT_X3_need _ _ _ _ _ (fun S27 hF5 pS27 => ?_) (sk_X3_need (tk := tk) (pg := pg) (sc := sc) _ _ (INJ_x nS4 (by decide) hI) (ob_h nS4 (by decide) hO14_t0) (ob_h nS4 (by decide) hO15_t0) (ob_h nS4 (by decide) hO16_t0) (Rx_g PS4 hG_S1))
    have nS27 : FX [] S S27 := FX_k hF5 (by decide) nS4
    have kS27 : (vw t0 tk pg sc S27).1 17 = (vw t0 tk pg sc S4).1 17 := (vw_k hF5 (INJ_x nS4 (by decide) hI) (by decide) (by decide)).1 17 (by decide)
    have PS27 := Rx_tr hG_S1 PS4 pS27
    have yS27 := TY_r pS27 yS4 ((vw_k hF5 (INJ_x nS4 (by decide) hI) (by decide) (by decide)).1 17 (by decide)) ((vw_k hF5 (INJ_x nS4 (by decide) hI) (by decide) (by decide)).2 28 (by decide) (by decide))
    clear hF5
    exact ⟨Rx_m (Rx_tr hG_S (EMr_R hG_S (BG_r (c1 := 60) PS hB_S (by decide)) (by decide) pS1 (fun q => ACTn_s (by decide))) PS27) (by decide), yS27, N1e_em hG_S (BG_r (c1 := 60) PS hB_S (by decide)) (by decide) pS1 PS27⟩
  · refine ⟨fun c6 => ?_, fun c6 => ?_⟩
    · refine kmT_X3_assigned _ _ _ _ (fun S6 hF7 pS6 => ?_) (sk_X3_assigned (tk := tk) (pg := pg) (sc := sc) _ (INJ_x nS1 (by decide) hI) (ob_h nS1 (by decide) hO14_t0) (ob_h nS1 (by decide) hO15_t0) (ob_h nS1 (by decide) hO16_t0) (Rx_g PS1 hG_S1) (BG_r PS1 hB_S1 (by decide)) yS1 (by grind [NZ, k_ii, k_ir, k_ri, k_rr, k_ai, k_ar, k_li, k_lr, k_qi, k_qr, ar_ci, ar_cl, ar_cq, la_ci, la_ca, la_cq, qa_ci, qa_ca, qa_cl, tk_link]))
      have nS6 : FX [] S S6 := FX_k hF7 (by decide) nS1
      have PS6 := Rx_tr hG_S1 PS1 pS6.1
      have yS6 := pS6.2
      clear hF7
      unfold wT_X3_statement_174
      refine kmT_X3_need _ _ _ _ _ (fun S27 hF8 pS27 => ?_) (sk_X3_need (tk := tk) (pg := pg) (sc := sc) _ _ (INJ_x nS6 (by decide) hI) (ob_h nS6 (by decide) hO14_t0) (ob_h nS6 (by decide) hO15_t0) (ob_h nS6 (by decide) hO16_t0) (Rx_g PS6 hG_S1))
      have nS27 : FX [] S S27 := FX_k hF8 (by decide) nS6
      have kS27 : (vw t0 tk pg sc S27).1 17 = (vw t0 tk pg sc S6).1 17 := (vw_k hF8 (INJ_x nS6 (by decide) hI) (by decide) (by decide)).1 17 (by decide)
      have PS27 := Rx_tr hG_S1 PS6 pS27
      have yS27 := TY_r pS27 yS6 ((vw_k hF8 (INJ_x nS6 (by decide) hI) (by decide) (by decide)).1 17 (by decide)) ((vw_k hF8 (INJ_x nS6 (by decide) hI) (by decide) (by decide)).2 28 (by decide) (by decide))
      clear hF8
      exact ⟨Rx_m (Rx_tr hG_S (EMr_R hG_S (BG_r (c1 := 60) PS hB_S (by decide)) (by decide) pS1 (fun q => ACTn_s (by decide))) PS27) (by decide), yS27, N1e_em hG_S (BG_r (c1 := 60) PS hB_S (by decide)) (by decide) pS1 PS27⟩
    · refine ⟨fun c9 => ?_, fun c9 => ?_⟩
      · refine kmT_X3_step _ _ _ _ (fun S8 hF10 pS8 => ?_) (sr_X3_step (tk := tk) (pg := pg) (sc := sc) _ (INJ_x nS1 (by decide) hI) (ob_h nS1 (by decide) hO14_t0) (ob_h nS1 (by decide) hO15_t0) (ob_h nS1 (by decide) hO16_t0) (Rx_g PS1 hG_S1) (by grind [NZ, k_ii, k_ir, k_ri, k_rr, k_ai, k_ar, k_li, k_lr, k_qi, k_qr, ar_ci, ar_cl, ar_cq, la_ci, la_ca, la_cq, qa_ci, qa_ca, qa_cl, tk_link]))
        have nS8 : FX [] S S8 := FX_k hF10 (by decide) nS1
        have gS8 : (vw t0 tk pg sc S8).1 7 = (vw t0 tk pg sc S1).1 7 := (vw_k hF10 (INJ_x nS1 (by decide) hI) (by decide) (by decide)).1 7 (by decide)
        have kS8 : (vw t0 tk pg sc S8).1 17 = (vw t0 tk pg sc S1).1 17 := (vw_k hF10 (INJ_x nS1 (by decide) hI) (by decide) (by decide)).1 17 (by decide)
        have PS8 := Rx_tr hG_S1 PS1 pS8
        have yS8 := TY_r pS8 yS1 ((vw_k hF10 (INJ_x nS1 (by decide) hI) (by decide) (by decide)).1 17 (by decide)) ((vw_k hF10 (INJ_x nS1 (by decide) hI) (by decide) (by decide)).2 28 (by decide) (by decide))
        clear hF10
        refine kqT_X3_expression _ _ _ _ _ (fun S9 hF11 pS9 => ?_) (sq_X3_expression (tk := tk) (pg := pg) (sc := sc) (t := -2) _ _ (INJ_x nS8 (by decide) hI) (ob_h nS8 (by decide) hO14_t0) (ob_h nS8 (by decide) hO15_t0) (ob_h nS8 (by decide) hO16_t0) (Rx_g PS8 hG_S1) (BG_r PS8 hB_S1 (by decide)) yS8 (by decide) ((by decide)))
        have nS9 : FX [] S S9 := FX_k hF11 (by decide) nS8
        have PS9 := Rx_tr hG_S1 PS8 pS9.1
        have yS9 : TY (-1) (vw t0 tk pg sc S9) := TY_e pS9.2 (by decide)
        clear hF11
        refine kmT_X3_emit _ _ _ _ _ _ (fun S10 r10 hF12 pS10 => ?_) (sr_X3_emit (tk := tk) (pg := pg) (sc := sc) _ _ _ (INJ_x nS9 (by decide) hI) (ob_h nS9 (by decide) hO14_t0) (ob_h nS9 (by decide) hO15_t0) (ob_h nS9 (by decide) hO16_t0) (Rx_g PS9 hG_S1))
        have nS10 : FX [] S S10 := FX_k hF12 (by decide) nS9
        have gS10 : (vw t0 tk pg sc S10).1 7 = (vw t0 tk pg sc S9).1 7 := (vw_k hF12 (INJ_x nS9 (by decide) hI) (by decide) (by decide)).1 7 (by decide)
        have iS10 : 0 ≤ r10.toInt ∧ r10.toInt ≤ 8063 := ⟨pS10.1, pS10.2.1⟩
        have PS10 := Rx_tr hG_S1 PS9 (EMr_R (Rx_g PS9 hG_S1) (BG_r (c1 := 60) PS9 hB_S1 (by decide)) (by decide) pS10 (fun q => ACTn_s (by decide)))
        have uS10 : (vw t0 tk pg sc S10).1 6 = (vw t0 tk pg sc S9).1 6 ∧ ∀ i, (vw t0 tk pg sc S10).2 64 i = (vw t0 tk pg sc S9).2 64 i := ⟨(vw_k hF12 (INJ_x nS9 (by decide) hI) (by decide) (by decide)).1 6 (by decide), fun i => congrFun ((vw_k hF12 (INJ_x nS9 (by decide) hI) (by decide) (by decide)).2 64 (by decide) (by decide)) i⟩
        have yS10 : TY (-2) (vw t0 tk pg sc S10) := EMr_T (Rx_g PS9 hG_S1) (BG_r (c1 := 60) PS9 hB_S1 (by decide)) (by decide) pS10 yS9 (by decide)
        clear hF12
        unfold wT_X3_statement_174
        refine kmT_X3_need _ _ _ _ _ (fun S27 hF13 pS27 => ?_) (sk_X3_need (tk := tk) (pg := pg) (sc := sc) _ _ (INJ_x nS10 (by decide) hI) (ob_h nS10 (by decide) hO14_t0) (ob_h nS10 (by decide) hO15_t0) (ob_h nS10 (by decide) hO16_t0) (Rx_g PS10 hG_S1))
        have nS27 : FX [] S S27 := FX_k hF13 (by decide) nS10
        have kS27 : (vw t0 tk pg sc S27).1 17 = (vw t0 tk pg sc S10).1 17 := (vw_k hF13 (INJ_x nS10 (by decide) hI) (by decide) (by decide)).1 17 (by decide)
        have PS27 := Rx_tr hG_S1 PS10 pS27
        have yS27 := TY_r pS27 yS10 ((vw_k hF13 (INJ_x nS10 (by decide) hI) (by decide) (by decide)).1 17 (by decide)) ((vw_k hF13 (INJ_x nS10 (by decide) hI) (by decide) (by decide)).2 28 (by decide) (by decide))
        clear hF13
        exact ⟨Rx_m (Rx_tr hG_S (EMr_R hG_S (BG_r (c1 := 60) PS hB_S (by decide)) (by decide) pS1 (fun q => ACTn_s (by decide))) PS27) (by decide), yS27, N1e_em hG_S (BG_r (c1 := 60) PS hB_S (by decide)) (by decide) pS1 PS27⟩
      · refine ⟨fun c14 => ?_, fun c14 => ?_⟩
        · refine kmT_X3_step _ _ _ _ (fun S12 hF15 pS12 => ?_) (sr_X3_step (tk := tk) (pg := pg) (sc := sc) _ (INJ_x nS1 (by decide) hI) (ob_h nS1 (by decide) hO14_t0) (ob_h nS1 (by decide) hO15_t0) (ob_h nS1 (by decide) hO16_t0) (Rx_g PS1 hG_S1) (by grind [NZ, k_ii, k_ir, k_ri, k_rr, k_ai, k_ar, k_li, k_lr, k_qi, k_qr, ar_ci, ar_cl, ar_cq, la_ci, la_ca, la_cq, qa_ci, qa_ca, qa_cl, tk_link]))
          have nS12 : FX [] S S12 := FX_k hF15 (by decide) nS1
          have gS12 : (vw t0 tk pg sc S12).1 7 = (vw t0 tk pg sc S1).1 7 := (vw_k hF15 (INJ_x nS1 (by decide) hI) (by decide) (by decide)).1 7 (by decide)
          have kS12 : (vw t0 tk pg sc S12).1 17 = (vw t0 tk pg sc S1).1 17 := (vw_k hF15 (INJ_x nS1 (by decide) hI) (by decide) (by decide)).1 17 (by decide)
          have PS12 := Rx_tr hG_S1 PS1 pS12
          have yS12 := TY_r pS12 yS1 ((vw_k hF15 (INJ_x nS1 (by decide) hI) (by decide) (by decide)).1 17 (by decide)) ((vw_k hF15 (INJ_x nS1 (by decide) hI) (by decide) (by decide)).2 28 (by decide) (by decide))
          clear hF15
          refine kmT_X3_choice hf_X3_block _ _ _ _ _ (fun S13 hF16 pS13 => ?_) (sk_X3_choice hf_X3_block hr_X3_block (tk := tk) (pg := pg) (sc := sc) _ _ (INJ_x nS12 (by decide) hI) (ob_h nS12 (by decide) hO14_t0) (ob_h nS12 (by decide) hO15_t0) (ob_h nS12 (by decide) hO16_t0) (Rx_g PS12 hG_S1) (BG_r PS12 hB_S1 (by decide)) yS12 (LK_r hG_S1 PS12 hL_S1) (DK_m (DK_r hG_S1 PS12 hD_S1) (by grind [NZ, k_ii, k_ir, k_ri, k_rr, k_ai, k_ar, k_li, k_lr, k_qi, k_qr, ar_ci, ar_cl, ar_cq, la_ci, la_ca, la_cq, qa_ci, qa_ca, qa_cl, tk_link])) (by grind [NZ, k_ii, k_ir, k_ri, k_rr, k_ai, k_ar, k_li, k_lr, k_qi, k_qr, ar_ci, ar_cl, ar_cq, la_ci, la_ca, la_cq, qa_ci, qa_ca, qa_cl, tk_link]) (by grind [NZ, k_ii, k_ir, k_ri, k_rr, k_ai, k_ar, k_li, k_lr, k_qi, k_qr, ar_ci, ar_cl, ar_cq, la_ci, la_ca, la_cq, qa_ci, qa_ca, qa_cl, tk_link]))
          have nS13 : FX [] S S13 := FX_k hF16 (by decide) nS12
          have PS13 := Rx_tr hG_S1 PS12 pS13.1
          have yS13 := pS13.2
          clear hF16
          exact ⟨Rx_m (Rx_tr hG_S (EMr_R hG_S (BG_r (c1 := 60) PS hB_S (by decide)) (by decide) pS1 (fun q => ACTn_s (by decide))) PS13) (by decide), yS13, N1e_em hG_S (BG_r (c1 := 60) PS hB_S (by decide)) (by decide) pS1 PS13⟩
        · refine ⟨fun c17 => ?_, fun c17 => ?_⟩
          · refine kmT_X3_step _ _ _ _ (fun S15 hF18 pS15 => ?_) (sr_X3_step (tk := tk) (pg := pg) (sc := sc) _ (INJ_x nS1 (by decide) hI) (ob_h nS1 (by decide) hO14_t0) (ob_h nS1 (by decide) hO15_t0) (ob_h nS1 (by decide) hO16_t0) (Rx_g PS1 hG_S1) (by grind [NZ, k_ii, k_ir, k_ri, k_rr, k_ai, k_ar, k_li, k_lr, k_qi, k_qr, ar_ci, ar_cl, ar_cq, la_ci, la_ca, la_cq, qa_ci, qa_ca, qa_cl, tk_link]))
            have nS15 : FX [] S S15 := FX_k hF18 (by decide) nS1
            have gS15 : (vw t0 tk pg sc S15).1 7 = (vw t0 tk pg sc S1).1 7 := (vw_k hF18 (INJ_x nS1 (by decide) hI) (by decide) (by decide)).1 7 (by decide)
            have kS15 : (vw t0 tk pg sc S15).1 17 = (vw t0 tk pg sc S1).1 17 := (vw_k hF18 (INJ_x nS1 (by decide) hI) (by decide) (by decide)).1 17 (by decide)
            have PS15 := Rx_tr hG_S1 PS1 pS15
            have yS15 := TY_r pS15 yS1 ((vw_k hF18 (INJ_x nS1 (by decide) hI) (by decide) (by decide)).1 17 (by decide)) ((vw_k hF18 (INJ_x nS1 (by decide) hI) (by decide) (by decide)).2 28 (by decide) (by decide))
            clear hF18
            refine kmT_X3_repeated hf_X3_block _ _ _ _ _ _ (fun S16 hF19 pS16 => ?_) (sk_X3_repeated hf_X3_block hr_X3_block (tk := tk) (pg := pg) (sc := sc) _ _ _ (INJ_x nS15 (by decide) hI) (ob_h nS15 (by decide) hO14_t0) (ob_h nS15 (by decide) hO15_t0) (ob_h nS15 (by decide) hO16_t0) (Rx_g PS15 hG_S1) (BG_r PS15 hB_S1 (by decide)) yS15 (LK_r hG_S1 PS15 hL_S1) (DK_m (DK_r hG_S1 PS15 hD_S1) (by grind [NZ, k_ii, k_ir, k_ri, k_rr, k_ai, k_ar, k_li, k_lr, k_qi, k_qr, ar_ci, ar_cl, ar_cq, la_ci, la_ca, la_cq, qa_ci, qa_ca, qa_cl, tk_link])) (by grind [NZ, k_ii, k_ir, k_ri, k_rr, k_ai, k_ar, k_li, k_lr, k_qi, k_qr, ar_ci, ar_cl, ar_cq, la_ci, la_ca, la_cq, qa_ci, qa_ca, qa_cl, tk_link]) (by grind [NZ, k_ii, k_ir, k_ri, k_rr, k_ai, k_ar, k_li, k_lr, k_qi, k_qr, ar_ci, ar_cl, ar_cq, la_ci, la_ca, la_cq, qa_ci, qa_ca, qa_cl, tk_link]) ((FST_r PS15 (FST_em hG_S (BG_r (c1 := 60) PS hB_S (by decide)) (by decide) pS1 yS))))
            have nS16 : FX [] S S16 := FX_k hF19 (by decide) nS15
            have PS16 := Rx_tr hG_S1 PS15 pS16.1
            have yS16 := pS16.2
            clear hF19
            exact ⟨Rx_m (Rx_tr hG_S (EMr_R hG_S (BG_r (c1 := 60) PS hB_S (by decide)) (by decide) pS1 (fun q => ACTn_s (by decide))) PS16) (by decide), yS16, N1e_em hG_S (BG_r (c1 := 60) PS hB_S (by decide)) (by decide) pS1 PS16⟩
          · refine ⟨fun c20 => ?_, fun c20 => ?_⟩
            · refine kmT_X3_returned _ _ _ _ (fun S18 hF21 pS18 => ?_) (sk_X3_returned (tk := tk) (pg := pg) (sc := sc) _ (INJ_x nS1 (by decide) hI) (ob_h nS1 (by decide) hO14_t0) (ob_h nS1 (by decide) hO15_t0) (ob_h nS1 (by decide) hO16_t0) (Rx_g PS1 hG_S1) (BG_r PS1 hB_S1 (by decide)) yS1 (by grind [NZ, k_ii, k_ir, k_ri, k_rr, k_ai, k_ar, k_li, k_lr, k_qi, k_qr, ar_ci, ar_cl, ar_cq, la_ci, la_ca, la_cq, qa_ci, qa_ca, qa_cl, tk_link]))
              have nS18 : FX [] S S18 := FX_k hF21 (by decide) nS1
              have PS18 := Rx_tr hG_S1 PS1 pS18.1
              have yS18 := pS18.2
              clear hF21
              unfold wT_X3_statement_174
              refine kmT_X3_need _ _ _ _ _ (fun S27 hF22 pS27 => ?_) (sk_X3_need (tk := tk) (pg := pg) (sc := sc) _ _ (INJ_x nS18 (by decide) hI) (ob_h nS18 (by decide) hO14_t0) (ob_h nS18 (by decide) hO15_t0) (ob_h nS18 (by decide) hO16_t0) (Rx_g PS18 hG_S1))
              have nS27 : FX [] S S27 := FX_k hF22 (by decide) nS18
              have kS27 : (vw t0 tk pg sc S27).1 17 = (vw t0 tk pg sc S18).1 17 := (vw_k hF22 (INJ_x nS18 (by decide) hI) (by decide) (by decide)).1 17 (by decide)
              have PS27 := Rx_tr hG_S1 PS18 pS27
              have yS27 := TY_r pS27 yS18 ((vw_k hF22 (INJ_x nS18 (by decide) hI) (by decide) (by decide)).1 17 (by decide)) ((vw_k hF22 (INJ_x nS18 (by decide) hI) (by decide) (by decide)).2 28 (by decide) (by decide))
              clear hF22
              exact ⟨Rx_m (Rx_tr hG_S (EMr_R hG_S (BG_r (c1 := 60) PS hB_S (by decide)) (by decide) pS1 (fun q => ACTn_s (by decide))) PS27) (by decide), yS27, N1e_em hG_S (BG_r (c1 := 60) PS hB_S (by decide)) (by decide) pS1 PS27⟩
            · refine ⟨fun c23 => ?_, fun c23 => ?_⟩
              · refine kmT_X3_step _ _ _ _ (fun S20 hF24 pS20 => ?_) (sr_X3_step (tk := tk) (pg := pg) (sc := sc) _ (INJ_x nS1 (by decide) hI) (ob_h nS1 (by decide) hO14_t0) (ob_h nS1 (by decide) hO15_t0) (ob_h nS1 (by decide) hO16_t0) (Rx_g PS1 hG_S1) (by grind [NZ, k_ii, k_ir, k_ri, k_rr, k_ai, k_ar, k_li, k_lr, k_qi, k_qr, ar_ci, ar_cl, ar_cq, la_ci, la_ca, la_cq, qa_ci, qa_ca, qa_cl, tk_link]))
                have nS20 : FX [] S S20 := FX_k hF24 (by decide) nS1
                have gS20 : (vw t0 tk pg sc S20).1 7 = (vw t0 tk pg sc S1).1 7 := (vw_k hF24 (INJ_x nS1 (by decide) hI) (by decide) (by decide)).1 7 (by decide)
                have kS20 : (vw t0 tk pg sc S20).1 17 = (vw t0 tk pg sc S1).1 17 := (vw_k hF24 (INJ_x nS1 (by decide) hI) (by decide) (by decide)).1 17 (by decide)
                have PS20 := Rx_tr hG_S1 PS1 pS20
                have yS20 := TY_r pS20 yS1 ((vw_k hF24 (INJ_x nS1 (by decide) hI) (by decide) (by decide)).1 17 (by decide)) ((vw_k hF24 (INJ_x nS1 (by decide) hI) (by decide) (by decide)).2 28 (by decide) (by decide))
                clear hF24
                refine kmT_X3_numberOf _ _ _ _ _ _ (fun S21 r21 hF25 pS21 => ?_) (sk_X3_numberOf (tk := tk) (pg := pg) (sc := sc) _ _ _ (INJ_x nS20 (by decide) hI) (ob_h nS20 (by decide) hO14_t0) (ob_h nS20 (by decide) hO15_t0) (ob_h nS20 (by decide) hO16_t0) (Rx_g PS20 hG_S1) ((by decide)))
                have nS21 : FX [] S S21 := FX_k hF25 (by decide) nS20
                have kS21 : (vw t0 tk pg sc S21).1 17 = (vw t0 tk pg sc S20).1 17 := (vw_k hF25 (INJ_x nS20 (by decide) hI) (by decide) (by decide)).1 17 (by decide)
                have PS21 := Rx_tr hG_S1 PS20 pS21.1
                have yS21 := TY_r pS21.1 yS20 ((vw_k hF25 (INJ_x nS20 (by decide) hI) (by decide) (by decide)).1 17 (by decide)) ((vw_k hF25 (INJ_x nS20 (by decide) hI) (by decide) (by decide)).2 28 (by decide) (by decide))
                clear hF25
                refine kmT_X3_emit _ _ _ _ _ _ (fun S22 r22 hF26 pS22 => ?_) (sr_X3_emit (tk := tk) (pg := pg) (sc := sc) _ _ _ (INJ_x nS21 (by decide) hI) (ob_h nS21 (by decide) hO14_t0) (ob_h nS21 (by decide) hO15_t0) (ob_h nS21 (by decide) hO16_t0) (Rx_g PS21 hG_S1))
                have nS22 : FX [] S S22 := FX_k hF26 (by decide) nS21
                have gS22 : (vw t0 tk pg sc S22).1 7 = (vw t0 tk pg sc S21).1 7 := (vw_k hF26 (INJ_x nS21 (by decide) hI) (by decide) (by decide)).1 7 (by decide)
                have iS22 : 0 ≤ r22.toInt ∧ r22.toInt ≤ 8063 := ⟨pS22.1, pS22.2.1⟩
                have PS22 := Rx_tr hG_S1 PS21 (EMr_R (Rx_g PS21 hG_S1) (BG_r (c1 := 60) PS21 hB_S1 (by decide)) (by decide) pS22 (fun q => ACTn_s (by decide)))
                have uS22 : (vw t0 tk pg sc S22).1 6 = (vw t0 tk pg sc S21).1 6 ∧ ∀ i, (vw t0 tk pg sc S22).2 64 i = (vw t0 tk pg sc S21).2 64 i := ⟨(vw_k hF26 (INJ_x nS21 (by decide) hI) (by decide) (by decide)).1 6 (by decide), fun i => congrFun ((vw_k hF26 (INJ_x nS21 (by decide) hI) (by decide) (by decide)).2 64 (by decide) (by decide)) i⟩
                have yS22 : TY (-2) (vw t0 tk pg sc S22) := EMr_T (Rx_g PS21 hG_S1) (BG_r (c1 := 60) PS21 hB_S1 (by decide)) (by decide) pS22 yS21 (by decide)
                clear hF26
                unfold wT_X3_statement_174
                refine kmT_X3_need _ _ _ _ _ (fun S27 hF27 pS27 => ?_) (sk_X3_need (tk := tk) (pg := pg) (sc := sc) _ _ (INJ_x nS22 (by decide) hI) (ob_h nS22 (by decide) hO14_t0) (ob_h nS22 (by decide) hO15_t0) (ob_h nS22 (by decide) hO16_t0) (Rx_g PS22 hG_S1))
                have nS27 : FX [] S S27 := FX_k hF27 (by decide) nS22
                have kS27 : (vw t0 tk pg sc S27).1 17 = (vw t0 tk pg sc S22).1 17 := (vw_k hF27 (INJ_x nS22 (by decide) hI) (by decide) (by decide)).1 17 (by decide)
                have PS27 := Rx_tr hG_S1 PS22 pS27
                have yS27 := TY_r pS27 yS22 ((vw_k hF27 (INJ_x nS22 (by decide) hI) (by decide) (by decide)).1 17 (by decide)) ((vw_k hF27 (INJ_x nS22 (by decide) hI) (by decide) (by decide)).2 28 (by decide) (by decide))
                clear hF27
                exact ⟨Rx_m (Rx_tr hG_S (EMr_R hG_S (BG_r (c1 := 60) PS hB_S (by decide)) (by decide) pS1 (fun q => ACTn_s (by decide))) PS27) (by decide), yS27, N1e_em hG_S (BG_r (c1 := 60) PS hB_S (by decide)) (by decide) pS1 PS27⟩
              · refine ⟨fun c28 => ?_, fun c28 => ?_⟩
                · refine kmT_X3_step _ _ _ _ (fun S24 hF29 pS24 => ?_) (sr_X3_step (tk := tk) (pg := pg) (sc := sc) _ (INJ_x nS1 (by decide) hI) (ob_h nS1 (by decide) hO14_t0) (ob_h nS1 (by decide) hO15_t0) (ob_h nS1 (by decide) hO16_t0) (Rx_g PS1 hG_S1) (by grind [NZ, k_ii, k_ir, k_ri, k_rr, k_ai, k_ar, k_li, k_lr, k_qi, k_qr, ar_ci, ar_cl, ar_cq, la_ci, la_ca, la_cq, qa_ci, qa_ca, qa_cl, tk_link]))
                  have nS24 : FX [] S S24 := FX_k hF29 (by decide) nS1
                  have gS24 : (vw t0 tk pg sc S24).1 7 = (vw t0 tk pg sc S1).1 7 := (vw_k hF29 (INJ_x nS1 (by decide) hI) (by decide) (by decide)).1 7 (by decide)
                  have kS24 : (vw t0 tk pg sc S24).1 17 = (vw t0 tk pg sc S1).1 17 := (vw_k hF29 (INJ_x nS1 (by decide) hI) (by decide) (by decide)).1 17 (by decide)
                  have PS24 := Rx_tr hG_S1 PS1 pS24
                  have yS24 := TY_r pS24 yS1 ((vw_k hF29 (INJ_x nS1 (by decide) hI) (by decide) (by decide)).1 17 (by decide)) ((vw_k hF29 (INJ_x nS1 (by decide) hI) (by decide) (by decide)).2 28 (by decide) (by decide))
                  clear hF29
                  refine kmT_X3_tried hf_X3_block _ _ _ _ _ (fun S25 hF30 pS25 => ?_) (sk_X3_tried hf_X3_block hr_X3_block (tk := tk) (pg := pg) (sc := sc) _ _ (INJ_x nS24 (by decide) hI) (ob_h nS24 (by decide) hO14_t0) (ob_h nS24 (by decide) hO15_t0) (ob_h nS24 (by decide) hO16_t0) (Rx_g PS24 hG_S1) (BG_r PS24 hB_S1 (by decide)) yS24 (LK_r hG_S1 PS24 hL_S1) (DK_m (DK_r hG_S1 PS24 hD_S1) (by grind [NZ, k_ii, k_ir, k_ri, k_rr, k_ai, k_ar, k_li, k_lr, k_qi, k_qr, ar_ci, ar_cl, ar_cq, la_ci, la_ca, la_cq, qa_ci, qa_ca, qa_cl, tk_link])) (by grind [NZ, k_ii, k_ir, k_ri, k_rr, k_ai, k_ar, k_li, k_lr, k_qi, k_qr, ar_ci, ar_cl, ar_cq, la_ci, la_ca, la_cq, qa_ci, qa_ca, qa_cl, tk_link]) (by grind [NZ, k_ii, k_ir, k_ri, k_rr, k_ai, k_ar, k_li, k_lr, k_qi, k_qr, ar_ci, ar_cl, ar_cq, la_ci, la_ca, la_cq, qa_ci, qa_ca, qa_cl, tk_link]) ((gS24.trans (KQ hG_S1 (by rw [← pS2, show r2 = 210 by assumption]; decide)))))
                  have nS25 : FX [] S S25 := FX_k hF30 (by decide) nS24
                  have PS25 := Rx_tr hG_S1 PS24 pS25.1
                  have yS25 := pS25.2
                  clear hF30
                  exact ⟨Rx_m (Rx_tr hG_S (EMr_R hG_S (BG_r (c1 := 60) PS hB_S (by decide)) (by decide) pS1 (fun q => ACTn_s (by decide))) PS25) (by decide), yS25, N1e_em hG_S (BG_r (c1 := 60) PS hB_S (by decide)) (by decide) pS1 PS25⟩
                · refine kmT_X3_leftLoop _ _ _ _ (fun S26 hF31 pS26 => ?_) (sk_X3_leftLoop (tk := tk) (pg := pg) (sc := sc) _ (INJ_x nS1 (by decide) hI) (ob_h nS1 (by decide) hO14_t0) (ob_h nS1 (by decide) hO15_t0) (ob_h nS1 (by decide) hO16_t0) (Rx_g PS1 hG_S1) (BG_r PS1 hB_S1 (by decide)) yS1 nzS1 (LK_r hG_S1 PS1 hL_S1))
                  have nS26 : FX [] S S26 := FX_k hF31 (by decide) nS1
                  have PS26 := Rx_tr hG_S1 PS1 pS26.1
                  have yS26 := pS26.2
                  clear hF31
                  unfold wT_X3_statement_174
                  refine kmT_X3_need _ _ _ _ _ (fun S27 hF32 pS27 => ?_) (sk_X3_need (tk := tk) (pg := pg) (sc := sc) _ _ (INJ_x nS26 (by decide) hI) (ob_h nS26 (by decide) hO14_t0) (ob_h nS26 (by decide) hO15_t0) (ob_h nS26 (by decide) hO16_t0) (Rx_g PS26 hG_S1))
                  have nS27 : FX [] S S27 := FX_k hF32 (by decide) nS26
                  have kS27 : (vw t0 tk pg sc S27).1 17 = (vw t0 tk pg sc S26).1 17 := (vw_k hF32 (INJ_x nS26 (by decide) hI) (by decide) (by decide)).1 17 (by decide)
                  have PS27 := Rx_tr hG_S1 PS26 pS27
                  have yS27 := TY_r pS27 yS26 ((vw_k hF32 (INJ_x nS26 (by decide) hI) (by decide) (by decide)).1 17 (by decide)) ((vw_k hF32 (INJ_x nS26 (by decide) hI) (by decide) (by decide)).2 28 (by decide) (by decide))
                  clear hF32
                  exact ⟨Rx_m (Rx_tr hG_S (EMr_R hG_S (BG_r (c1 := 60) PS hB_S (by decide)) (by decide) pS1 (fun q => ACTn_s (by decide))) PS27) (by decide), yS27, N1e_em hG_S (BG_r (c1 := 60) PS hB_S (by decide)) (by decide) pS1 PS27⟩
