
set_option maxHeartbeats 400000 in
theorem sk_X3_returned {tk pg sc : Nat} (t0 : Nat) {S : kS} (hI : INJ S) (hO14_t0 : S.2.1 14 t0 = some tk) (hO15_t0 : S.2.1 15 t0 = some pg) (hO16_t0 : S.2.1 16 t0 = some sc) (hG_S : RG (vw t0 tk pg sc S)) (hB_S : BG 12 (vw t0 tk pg sc S)) (hT_S : TY (-2) (vw t0 tk pg sc S)) (hz : NZ (vw t0 tk pg sc S)) : wT_X3_returned t0 S (fun S1 => Rx (-2) (vw t0 tk pg sc S) (vw t0 tk pg sc S1) ∧ TY (-2) (vw t0 tk pg sc S1)) := by
  have nS : FX [] S S := FX_rf
  have PS : Rx 0 (vw t0 tk pg sc S) (vw t0 tk pg sc S) := Rx_rf
  have yS := hT_S
  unfold wT_X3_returned
  intro z1 ez1
  refine ⟨fun c1 => ?_, fun c1 => ?_⟩
  · unfold wT_X3_returned_12
    refine kmT_X3_step _ _ _ _ (fun S4 hF2 pS4 => ?_) (sr_X3_step (tk := tk) (pg := pg) (sc := sc) _ (INJ_x nS (by decide) hI) (ob_h nS (by decide) hO14_t0) (ob_h nS (by decide) hO15_t0) (ob_h nS (by decide) hO16_t0) (Rx_g PS hG_S) (by grind [NZ, k_ii, k_ir, k_ri, k_rr, k_ai, k_ar, k_li, k_lr, k_qi, k_qr, ar_ci, ar_cl, ar_cq, la_ci, la_ca, la_cq, qa_ci, qa_ca, qa_cl, tk_link]))
    have nS4 : FX [] S S4 := FX_k hF2 (by decide) nS
    have PS4 := Rx_tr hG_S PS pS4
    have yS4 := TY_r pS4 yS ((vw_k hF2 (INJ_x nS (by decide) hI) (by decide) (by decide)).1 17 (by decide)) ((vw_k hF2 (INJ_x nS (by decide) hI) (by decide) (by decide)).2 28 (by decide) (by decide))
    clear hF2
    refine kqT_X3_expression _ _ _ _ _ (fun S5 hF3 pS5 => ?_) (sq_X3_expression (tk := tk) (pg := pg) (sc := sc) (t := -2) _ _ (INJ_x nS4 (by decide) hI) (ob_h nS4 (by decide) hO14_t0) (ob_h nS4 (by decide) hO15_t0) (ob_h nS4 (by decide) hO16_t0) (Rx_g PS4 hG_S) (BG_r PS4 hB_S (by decide)) yS4 (by decide) ((by decide)))
    have nS5 : FX [] S S5 := FX_k hF3 (by decide) nS4
    have PS5 := Rx_tr hG_S PS4 pS5.1
    have yS5 : TY (-1) (vw t0 tk pg sc S5) := TY_e pS5.2 (by decide)
    clear hF3
    intro z6 ez6
    refine ⟨pg, ob_e nS5 (by decide) hO15_t0 ez6, ?_⟩
    intro z8 ez8
    intro z9 ez9
    refine kmT_X3_emit _ _ _ _ _ _ (fun S10 r10 hF4 pS10 => ?_) (sr_X3_emit (tk := tk) (pg := pg) (sc := sc) _ _ _ (INJ_x nS5 (by decide) hI) (ob_h nS5 (by decide) hO14_t0) (ob_h nS5 (by decide) hO15_t0) (ob_h nS5 (by decide) hO16_t0) (Rx_g PS5 hG_S))
    have nS10 : FX [] S S10 := FX_k hF4 (by decide) nS5
    have iS10 : 0 ≤ r10.toInt ∧ r10.toInt ≤ 8063 := ⟨pS10.1, pS10.2.1⟩
    have PS10 := Rx_tr hG_S PS5 (EMr_R (Rx_g PS5 hG_S) (BG_r (c1 := 60) PS5 hB_S (by decide)) (by decide) pS10 (fun q => ACTn_s (by decide)))
    have uS10 : (vw t0 tk pg sc S10).1 6 = (vw t0 tk pg sc S5).1 6 ∧ ∀ i, (vw t0 tk pg sc S10).2 64 i = (vw t0 tk pg sc S5).2 64 i := ⟨(vw_k hF4 (INJ_x nS5 (by decide) hI) (by decide) (by decide)).1 6 (by decide), fun i => congrFun ((vw_k hF4 (INJ_x nS5 (by decide) hI) (by decide) (by decide)).2 64 (by decide) (by decide)) i⟩
    have yS10 : TY (-2) (vw t0 tk pg sc S10) := EMr_T (Rx_g PS5 hG_S) (BG_r (c1 := 60) PS5 hB_S (by decide)) (by decide) pS10 yS5 (by decide)
    clear hF4
    exact ⟨Rx_m PS10 (by decide), yS10⟩
  · refine kmT_X3_wrong _ _ _ _ _ (fun S3 hF5 pS3 => ?_) (sr_X3_wrong (tk := tk) (pg := pg) (sc := sc) _ _ (INJ_x nS (by decide) hI) (ob_h nS (by decide) hO14_t0) (ob_h nS (by decide) hO15_t0) (ob_h nS (by decide) hO16_t0) (Rx_g PS hG_S) ((by decide)))
    have nS3 : FX [] S S3 := FX_k hF5 (by decide) nS
    have PS3 := Rx_tr hG_S PS pS3.1
    have fS3 : (vw t0 tk pg sc S3).1 7 ≠ 0 := pS3.2
    clear hF5
    unfold wT_X3_returned_12
    refine kmT_X3_step _ _ _ _ (fun S4 hF6 pS4 => ?_) (sr_X3_step (tk := tk) (pg := pg) (sc := sc) _ (INJ_x nS3 (by decide) hI) (ob_h nS3 (by decide) hO14_t0) (ob_h nS3 (by decide) hO15_t0) (ob_h nS3 (by decide) hO16_t0) (Rx_g PS3 hG_S) (NZ_w (Rx_g PS3 hG_S) fS3))
    have nS4 : FX [] S S4 := FX_k hF6 (by decide) nS3
    have PS4 := Rx_tr hG_S PS3 pS4
    have fS4 : (vw t0 tk pg sc S4).1 7 ≠ 0 := fun h9 => fS3 (pS4.2.2.1 h9)
    clear hF6
    refine kqT_X3_expression _ _ _ _ _ (fun S5 hF7 pS5 => ?_) (sq_X3_expression (tk := tk) (pg := pg) (sc := sc) (t := -2) _ _ (INJ_x nS4 (by decide) hI) (ob_h nS4 (by decide) hO14_t0) (ob_h nS4 (by decide) hO15_t0) (ob_h nS4 (by decide) hO16_t0) (Rx_g PS4 hG_S) (BG_r PS4 hB_S (by decide)) (fun q => absurd q fS4) (by decide) ((by decide)))
    have nS5 : FX [] S S5 := FX_k hF7 (by decide) nS4
    have PS5 := Rx_tr hG_S PS4 pS5.1
    have fS5 : (vw t0 tk pg sc S5).1 7 ≠ 0 := fun h9 => fS4 (pS5.1.2.2.1 h9)
    clear hF7
    intro z6 ez6
    refine ⟨pg, ob_e nS5 (by decide) hO15_t0 ez6, ?_⟩
    intro z8 ez8
    intro z9 ez9
    refine kmT_X3_emit _ _ _ _ _ _ (fun S10 r10 hF8 pS10 => ?_) (sr_X3_emit (tk := tk) (pg := pg) (sc := sc) _ _ _ (INJ_x nS5 (by decide) hI) (ob_h nS5 (by decide) hO14_t0) (ob_h nS5 (by decide) hO15_t0) (ob_h nS5 (by decide) hO16_t0) (Rx_g PS5 hG_S))
    have nS10 : FX [] S S10 := FX_k hF8 (by decide) nS5
    have iS10 : 0 ≤ r10.toInt ∧ r10.toInt ≤ 8063 := ⟨pS10.1, pS10.2.1⟩
    have PS10 := Rx_tr hG_S PS5 (EMr_R (Rx_g PS5 hG_S) (BG_r (c1 := 60) PS5 hB_S (by decide)) (by decide) pS10 (fun q => absurd q fS5))
    have uS10 : (vw t0 tk pg sc S10).1 6 = (vw t0 tk pg sc S5).1 6 ∧ ∀ i, (vw t0 tk pg sc S10).2 64 i = (vw t0 tk pg sc S5).2 64 i := ⟨(vw_k hF8 (INJ_x nS5 (by decide) hI) (by decide) (by decide)).1 6 (by decide), fun i => congrFun ((vw_k hF8 (INJ_x nS5 (by decide) hI) (by decide) (by decide)).2 64 (by decide) (by decide)) i⟩
    have fS10 : (vw t0 tk pg sc S10).1 7 ≠ 0 := fun h9 => fS5 ((EMr_R (Rx_g PS5 hG_S) (BG_r (c1 := 60) PS5 hB_S (by decide)) (by decide) pS10 (fun q => absurd q fS5)).2.2.1 h9)
    clear hF8
    exact ⟨Rx_m PS10 (by decide), (fun q => absurd q fS10)⟩
