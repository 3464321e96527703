
set_option maxHeartbeats 400000 in
theorem sk_X3_expression {n : Int} {r_X3_part : Nat → Int32 → kS → (kS → Prop) → Prop} (hf_X3_part : ∀ t0 : Nat, ∀ a0 : Int32, KmV [6, 7, 17] [] [28, 29, 30, 35] [39] [] (r_X3_part t0 a0)) (hr_X3_part : ∀ (tk pg sc : Nat) (t : Int) (t0 : Nat) (a0 : Int32) (S : kS), INJ S → S.2.1 14 t0 = some tk → S.2.1 15 t0 = some pg → S.2.1 16 t0 = some sc → RG (vw t0 tk pg sc S) → BG 12 (vw t0 tk pg sc S) → TY t (vw t0 tk pg sc S) → (-2 ≤ t) → (0 ≤ a0.toInt ∧ a0.toInt ≤ 10) → (11 - a0.toInt ≤ n) → r_X3_part t0 a0 S (fun S1 => Rx (-1) (vw t0 tk pg sc S) (vw t0 tk pg sc S1) ∧ TY ((exo t)) (vw t0 tk pg sc S1))) {tk pg sc : Nat} {t : Int} (t0 : Nat) (a0 : Int32) {S : kS} (hI : INJ S) (hO14_t0 : S.2.1 14 t0 = some tk) (hO15_t0 : S.2.1 15 t0 = some pg) (hO16_t0 : S.2.1 16 t0 = some sc) (hG_S : RG (vw t0 tk pg sc S)) (hB_S : BG 12 (vw t0 tk pg sc S)) (hT_S : TY t (vw t0 tk pg sc S)) (ht : -2 ≤ t) (ha : 0 ≤ a0.toInt ∧ a0.toInt ≤ 10) (hn : 11 - a0.toInt ≤ n) : wT_X3_expression r_X3_part t0 a0 S (fun S1 => Rx (-1) (vw t0 tk pg sc S) (vw t0 tk pg sc S1) ∧ TY ((exo t)) (vw t0 tk pg sc S1)) := by
  have nS : FX [] S S := FX_rf
  have PS : Rx 0 (vw t0 tk pg sc S) (vw t0 tk pg sc S) := Rx_rf
  have yS := hT_S
  unfold wT_X3_expression
  refine kmT_X3_sum hf_X3_part _ _ _ _ _ (fun S1 hF1 pS1 => ?_) (sk_X3_sum hf_X3_part hr_X3_part (tk := tk) (pg := pg) (sc := sc) (t := t) _ _ (INJ_x nS (by decide) hI) (ob_h nS (by decide) hO14_t0) (ob_h nS (by decide) hO15_t0) (ob_h nS (by decide) hO16_t0) (Rx_g PS hG_S) (BG_r PS hB_S (by decide)) yS ht (by grind [NZ, k_ii, k_ir, k_ri, k_rr, k_ai, k_ar, k_li, k_lr, k_qi, k_qr, ar_ci, ar_cl, ar_cq, la_ci, la_ca, la_cq, qa_ci, qa_ca, qa_cl, tk_link]) (by grind [NZ, k_ii, k_ir, k_ri, k_rr, k_ai, k_ar, k_li, k_lr, k_qi, k_qr, ar_ci, ar_cl, ar_cq, la_ci, la_ca, la_cq, qa_ci, qa_ca, qa_cl, tk_link]))
  have nS1 : FX [] S S1 := FX_k hF1 (by decide) nS
  have PS1 := Rx_tr hG_S PS pS1.1
  have yS1 : TY (exo t) (vw t0 tk pg sc S1) := TY_e pS1.2 rfl
  clear hF1
  refine kmT_X3_kind _ _ _ _ (fun S2 r2 hF2 pS2 => ?_) (sr_X3_kind (tk := tk) (pg := pg) (sc := sc) _ (INJ_x nS1 (by decide) hI) (ob_h nS1 (by decide) hO14_t0) (ob_h nS1 (by decide) hO15_t0) (ob_h nS1 (by decide) hO16_t0) (Rx_g PS1 hG_S))
  obtain ⟨rfl, pS2⟩ := pS2
  clear hF2
  refine ⟨fun c3 => ?_, fun c3 => ?_⟩
  · unfold wT_X3_expression_22
    refine kmT_X3_step _ _ _ _ (fun S5 hF4 pS5 => ?_) (sr_X3_step (tk := tk) (pg := pg) (sc := sc) _ (INJ_x nS1 (by decide) hI) (ob_h nS1 (by decide) hO14_t0) (ob_h nS1 (by decide) hO15_t0) (ob_h nS1 (by decide) hO16_t0) (Rx_g PS1 hG_S) (by grind [NZ, k_ii, k_ir, k_ri, k_rr, k_ai, k_ar, k_li, k_lr, k_qi, k_qr, ar_ci, ar_cl, ar_cq, la_ci, la_ca, la_cq, qa_ci, qa_ca, qa_cl, tk_link]))
    have nS5 : FX [] S S5 := FX_k hF4 (by decide) nS1
    have PS5 := Rx_tr hG_S PS1 pS5
    have yS5 := TY_r pS5 yS1 ((vw_k hF4 (INJ_x nS1 (by decide) hI) (by decide) (by decide)).1 17 (by decide)) ((vw_k hF4 (INJ_x nS1 (by decide) hI) (by decide) (by decide)).2 28 (by decide) (by decide))
    clear hF4
    refine kmT_X3_sum hf_X3_part _ _ _ _ _ (fun S6 hF5 pS6 => ?_) (sk_X3_sum hf_X3_part hr_X3_part (tk := tk) (pg := pg) (sc := sc) (t := exo t) _ _ (INJ_x nS5 (by decide) hI) (ob_h nS5 (by decide) hO14_t0) (ob_h nS5 (by decide) hO15_t0) (ob_h nS5 (by decide) hO16_t0) (Rx_g PS5 hG_S) (BG_r PS5 hB_S (by decide)) yS5 (exo_2 ht) (by grind [NZ, k_ii, k_ir, k_ri, k_rr, k_ai, k_ar, k_li, k_lr, k_qi, k_qr, ar_ci, ar_cl, ar_cq, la_ci, la_ca, la_cq, qa_ci, qa_ca, qa_cl, tk_link]) (by grind [NZ, k_ii, k_ir, k_ri, k_rr, k_ai, k_ar, k_li, k_lr, k_qi, k_qr, ar_ci, ar_cl, ar_cq, la_ci, la_ca, la_cq, qa_ci, qa_ca, qa_cl, tk_link]))
    have nS6 : FX [] S S6 := FX_k hF5 (by decide) nS5
    have PS6 := Rx_tr hG_S PS5 pS6.1
    have yS6 : TY (exo t) (vw t0 tk pg sc S6) := TY_e pS6.2 exo_x
    clear hF5
    refine ⟨fun c6 => ?_, fun c6 => ?_⟩
    · unfold wT_X3_expression_45
      refine kmT_X3_emit _ _ _ _ _ _ (fun S8 r8 hF7 pS8 => ?_) (sr_X3_emit (tk := tk) (pg := pg) (sc := sc) _ _ _ (INJ_x nS6 (by decide) hI) (ob_h nS6 (by decide) hO14_t0) (ob_h nS6 (by decide) hO15_t0) (ob_h nS6 (by decide) hO16_t0) (Rx_g PS6 hG_S))
      have nS8 : FX [] S S8 := FX_k hF7 (by decide) nS6
      have iS8 : 0 ≤ r8.toInt ∧ r8.toInt ≤ 8063 := ⟨pS8.1, pS8.2.1⟩
      have PS8 := Rx_tr hG_S PS6 (EMr_R (Rx_g PS6 hG_S) (BG_r (c1 := 60) PS6 hB_S (by decide)) (by decide) pS8 (fun q => ACTn_s (by decide)))
      have uS8 : (vw t0 tk pg sc S8).1 6 = (vw t0 tk pg sc S6).1 6 ∧ ∀ i, (vw t0 tk pg sc S8).2 64 i = (vw t0 tk pg sc S6).2 64 i := ⟨(vw_k hF7 (INJ_x nS6 (by decide) hI) (by decide) (by decide)).1 6 (by decide), fun i => congrFun ((vw_k hF7 (INJ_x nS6 (by decide) hI) (by decide) (by decide)).2 64 (by decide) (by decide)) i⟩
      have yS8 : TY (exo t) (vw t0 tk pg sc S8) := EMr_T (Rx_g PS6 hG_S) (BG_r (c1 := 60) PS6 hB_S (by decide)) (by decide) pS8 yS6 (stp_op (by decide) (by decide) (exo_2 ht))
      clear hF7
      exact ⟨Rx_m PS8 (by decide), yS8⟩
    · unfold wT_X3_expression_45
      refine kmT_X3_emit _ _ _ _ _ _ (fun S8 r8 hF8 pS8 => ?_) (sr_X3_emit (tk := tk) (pg := pg) (sc := sc) _ _ _ (INJ_x nS6 (by decide) hI) (ob_h nS6 (by decide) hO14_t0) (ob_h nS6 (by decide) hO15_t0) (ob_h nS6 (by decide) hO16_t0) (Rx_g PS6 hG_S))
      have nS8 : FX [] S S8 := FX_k hF8 (by decide) nS6
      have iS8 : 0 ≤ r8.toInt ∧ r8.toInt ≤ 8063 := ⟨pS8.1, pS8.2.1⟩
      have PS8 := Rx_tr hG_S PS6 (EMr_R (Rx_g PS6 hG_S) (BG_r (c1 := 60) PS6 hB_S (by decide)) (by decide) pS8 (fun q => ACTn_s (by decide)))
      have uS8 : (vw t0 tk pg sc S8).1 6 = (vw t0 tk pg sc S6).1 6 ∧ ∀ i, (vw t0 tk pg sc S8).2 64 i = (vw t0 tk pg sc S6).2 64 i := ⟨(vw_k hF8 (INJ_x nS6 (by decide) hI) (by decide) (by decide)).1 6 (by decide), fun i => congrFun ((vw_k hF8 (INJ_x nS6 (by decide) hI) (by decide) (by decide)).2 64 (by decide) (by decide)) i⟩
      have yS8 : TY (exo t) (vw t0 tk pg sc S8) := EMr_T (Rx_g PS6 hG_S) (BG_r (c1 := 60) PS6 hB_S (by decide)) (by decide) pS8 yS6 (stp_op (by decide) (by decide) (exo_2 ht))
      clear hF8
      exact ⟨Rx_m PS8 (by decide), yS8⟩
  · refine ⟨fun c9 => ?_, fun c9 => ?_⟩
    · exact ⟨Rx_m PS1 (by decide), yS1⟩
    · unfold wT_X3_expression_22
      refine kmT_X3_step _ _ _ _ (fun S5 hF10 pS5 => ?_) (sr_X3_step (tk := tk) (pg := pg) (sc := sc) _ (INJ_x nS1 (by decide) hI) (ob_h nS1 (by decide) hO14_t0) (ob_h nS1 (by decide) hO15_t0) (ob_h nS1 (by decide) hO16_t0) (Rx_g PS1 hG_S) (by grind [NZ, k_ii, k_ir, k_ri, k_rr, k_ai, k_ar, k_li, k_lr, k_qi, k_qr, ar_ci, ar_cl, ar_cq, la_ci, la_ca, la_cq, qa_ci, qa_ca, qa_cl, tk_link]))
      have nS5 : FX [] S S5 := FX_k hF10 (by decide) nS1
      have PS5 := Rx_tr hG_S PS1 pS5
      have yS5 := TY_r pS5 yS1 ((vw_k hF10 (INJ_x nS1 (by decide) hI) (by decide) (by decide)).1 17 (by decide)) ((vw_k hF10 (INJ_x nS1 (by decide) hI) (by decide) (by decide)).2 28 (by decide) (by decide))
      clear hF10
      refine kmT_X3_sum hf_X3_part _ _ _ _ _ (fun S6 hF11 pS6 => ?_) (sk_X3_sum hf_X3_part hr_X3_part (tk := tk) (pg := pg) (sc := sc) (t := exo t) _ _ (INJ_x nS5 (by decide) hI) (ob_h nS5 (by decide) hO14_t0) (ob_h nS5 (by decide) hO15_t0) (ob_h nS5 (by decide) hO16_t0) (Rx_g PS5 hG_S) (BG_r PS5 hB_S (by decide)) yS5 (exo_2 ht) (by grind [NZ, k_ii, k_ir, k_ri, k_rr, k_ai, k_ar, k_li, k_lr, k_qi, k_qr, ar_ci, ar_cl, ar_cq, la_ci, la_ca, la_cq, qa_ci, qa_ca, qa_cl, tk_link]) (by grind [NZ, k_ii, k_ir, k_ri, k_rr, k_ai, k_ar, k_li, k_lr, k_qi, k_qr, ar_ci, ar_cl, ar_cq, la_ci, la_ca, la_cq, qa_ci, qa_ca, qa_cl, tk_link]))
      have nS6 : FX [] S S6 := FX_k hF11 (by decide) nS5
      have PS6 := Rx_tr hG_S PS5 pS6.1
      have yS6 : TY (exo t) (vw t0 tk pg sc S6) := TY_e pS6.2 exo_x
      clear hF11
      refine ⟨fun c12 => ?_, fun c12 => ?_⟩
      · unfold wT_X3_expression_45
        refine kmT_X3_emit _ _ _ _ _ _ (fun S8 r8 hF13 pS8 => ?_) (sr_X3_emit (tk := tk) (pg := pg) (sc := sc) _ _ _ (INJ_x nS6 (by decide) hI) (ob_h nS6 (by decide) hO14_t0) (ob_h nS6 (by decide) hO15_t0) (ob_h nS6 (by decide) hO16_t0) (Rx_g PS6 hG_S))
        have nS8 : FX [] S S8 := FX_k hF13 (by decide) nS6
        have iS8 : 0 ≤ r8.toInt ∧ r8.toInt ≤ 8063 := ⟨pS8.1, pS8.2.1⟩
        have PS8 := Rx_tr hG_S PS6 (EMr_R (Rx_g PS6 hG_S) (BG_r (c1 := 60) PS6 hB_S (by decide)) (by decide) pS8 (fun q => ACTn_s (by decide)))
        have uS8 : (vw t0 tk pg sc S8).1 6 = (vw t0 tk pg sc S6).1 6 ∧ ∀ i, (vw t0 tk pg sc S8).2 64 i = (vw t0 tk pg sc S6).2 64 i := ⟨(vw_k hF13 (INJ_x nS6 (by decide) hI) (by decide) (by decide)).1 6 (by decide), fun i => congrFun ((vw_k hF13 (INJ_x nS6 (by decide) hI) (by decide) (by decide)).2 64 (by decide) (by decide)) i⟩
        have yS8 : TY (exo t) (vw t0 tk pg sc S8) := EMr_T (Rx_g PS6 hG_S) (BG_r (c1 := 60) PS6 hB_S (by decide)) (by decide) pS8 yS6 (stp_op (by decide) (by decide) (exo_2 ht))
        clear hF13
        exact ⟨Rx_m PS8 (by decide), yS8⟩
      · unfold wT_X3_expression_45
        refine kmT_X3_emit _ _ _ _ _ _ (fun S8 r8 hF14 pS8 => ?_) (sr_X3_emit (tk := tk) (pg := pg) (sc := sc) _ _ _ (INJ_x nS6 (by decide) hI) (ob_h nS6 (by decide) hO14_t0) (ob_h nS6 (by decide) hO15_t0) (ob_h nS6 (by decide) hO16_t0) (Rx_g PS6 hG_S))
        have nS8 : FX [] S S8 := FX_k hF14 (by decide) nS6
        have iS8 : 0 ≤ r8.toInt ∧ r8.toInt ≤ 8063 := ⟨pS8.1, pS8.2.1⟩
        have PS8 := Rx_tr hG_S PS6 (EMr_R (Rx_g PS6 hG_S) (BG_r (c1 := 60) PS6 hB_S (by decide)) (by decide) pS8 (fun q => ACTn_s (by decide)))
        have uS8 : (vw t0 tk pg sc S8).1 6 = (vw t0 tk pg sc S6).1 6 ∧ ∀ i, (vw t0 tk pg sc S8).2 64 i = (vw t0 tk pg sc S6).2 64 i := ⟨(vw_k hF14 (INJ_x nS6 (by decide) hI) (by decide) (by decide)).1 6 (by decide), fun i => congrFun ((vw_k hF14 (INJ_x nS6 (by decide) hI) (by decide) (by decide)).2 64 (by decide) (by decide)) i⟩
        have yS8 : TY (exo t) (vw t0 tk pg sc S8) := EMr_T (Rx_g PS6 hG_S) (BG_r (c1 := 60) PS6 hB_S (by decide)) (by decide) pS8 yS6 (stp_op (by decide) (by decide) (exo_2 ht))
        clear hF14
        exact ⟨Rx_m PS8 (by decide), yS8⟩
