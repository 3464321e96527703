
set_option maxHeartbeats 400000 in
theorem sk_X3_assigned {tk pg sc : Nat} (t0 : Nat) {S : kS} (hI : INJ S) (hO14_t0 : S.2.1 14 t0 = some tk) (hO15_t0 : S.2.1 15 t0 = some pg) (hO16_t0 : S.2.1 16 t0 = some sc) (hG_S : RG (vw t0 tk pg sc S)) (hB_S : BG 12 (vw t0 tk pg sc S)) (hT_S : TY (-2) (vw t0 tk pg sc S)) (hk : ((vw t0 tk pg sc S).2 64 ((vw t0 tk pg sc S).1 6).toNat = 3) ∨ ((vw t0 tk pg sc S).2 64 ((vw t0 tk pg sc S).1 6).toNat = 201)) : wT_X3_assigned t0 S (fun S1 => Rx (0) (vw t0 tk pg sc S) (vw t0 tk pg sc S1) ∧ TY (-2) (vw t0 tk pg sc S1)) := by
  have nS : FX [] S S := FX_rf
  have PS : Rx 0 (vw t0 tk pg sc S) (vw t0 tk pg sc S) := Rx_rf
  have yS := hT_S
  unfold wT_X3_assigned
  refine kmT_X3_kind _ _ _ _ (fun S1 r1 hF1 pS1 => ?_) (sr_X3_kind (tk := tk) (pg := pg) (sc := sc) _ (INJ_x nS (by decide) hI) (ob_h nS (by decide) hO14_t0) (ob_h nS (by decide) hO15_t0) (ob_h nS (by decide) hO16_t0) (Rx_g PS hG_S))
  obtain ⟨rfl, pS1⟩ := pS1
  clear hF1
  refine ⟨fun c2 => ?_, fun c2 => ?_⟩
  · unfold wT_X3_assigned_21
    refine kmT_X3_kind _ _ _ _ (fun S5 r5 hF3 pS5 => ?_) (sr_X3_kind (tk := tk) (pg := pg) (sc := sc) _ (INJ_x nS (by decide) hI) (ob_h nS (by decide) hO14_t0) (ob_h nS (by decide) hO15_t0) (ob_h nS (by decide) hO16_t0) (Rx_g PS hG_S))
    obtain ⟨rfl, pS5⟩ := pS5
    clear hF3
    refine ⟨fun c4 => ?_, fun c4 => ?_⟩
    · intro z7 ez7
      refine ⟨pg, ob_e nS (by decide) hO15_t0 ez7, ?_⟩
      refine kmT_X5_newWait _ _ _ _ (fun S9 r9 hF5 pS9 => ?_) (sr_X5_newWait (x0 := t0) (tk := tk) (sc := sc) _ (INJ_x nS (by decide) hI) (Rx_g PS hG_S))
      have nS9 : FX [] S S9 := FX_k hF5 (by decide) nS
      have VS9 := vw_k (t0 := t0) (tk := tk) (pg := pg) (sc := sc) hF5 (INJ_x nS (by decide) hI) (by decide) (by decide)
      clear hF5
      have hG_S9 : RG (vw t0 tk pg sc S9) := pS9.2.1 (Rx_g PS hG_S)
      have hB_S9 : BG 12 (vw t0 tk pg sc S9) := BG_w pS9.1 (by decide) (BG_r (c1 := 12) PS hB_S (by decide))
      have yS9 : TY (-2) (vw t0 tk pg sc S9) := TY_w pS9.1 (by decide) (by decide) yS
      have PS9 : Rx 0 (vw t0 tk pg sc S9) (vw t0 tk pg sc S9) := Rx_rf
      have uS9 : (vw t0 tk pg sc S9).1 6 = (vw t0 tk pg sc S).1 6 ∧ ∀ i, (vw t0 tk pg sc S9).2 64 i = (vw t0 tk pg sc S).2 64 i := ⟨pS9.1.1 6 (by decide), fun i => congrFun (pS9.1.2 64 (by decide) (by decide)) i⟩
      have d9 : -1 ≤ r9.toInt ∧ r9.toInt ≤ 15 := ⟨pS9.2.2.1, pS9.2.2.2.1⟩
      refine ⟨fun c6 => ?_, fun c6 => ?_⟩
      · refine kmT_X3_step _ _ _ _ (fun S11 hF7 pS11 => ?_) (sr_X3_step (tk := tk) (pg := pg) (sc := sc) _ (INJ_x nS9 (by decide) hI) (ob_h nS9 (by decide) hO14_t0) (ob_h nS9 (by decide) hO15_t0) (ob_h nS9 (by decide) hO16_t0) (Rx_g PS9 hG_S9) (by grind [NZ, k_ii, k_ir, k_ri, k_rr, k_ai, k_ar, k_li, k_lr, k_qi, k_qr, ar_ci, ar_cl, ar_cq, la_ci, la_ca, la_cq, qa_ci, qa_ca, qa_cl, tk_link]))
        have nS11 : FX [] S S11 := FX_k hF7 (by decide) nS9
        have PS11 := Rx_tr hG_S9 PS9 pS11
        have yS11 := TY_r pS11 yS9 ((vw_k hF7 (INJ_x nS9 (by decide) hI) (by decide) (by decide)).1 17 (by decide)) ((vw_k hF7 (INJ_x nS9 (by decide) hI) (by decide) (by decide)).2 28 (by decide) (by decide))
        clear hF7
        intro z12 ez12
        have hrz12 : -2147483648 ≤ 1 + r9.toInt ∧ 1 + r9.toInt < 2147483648 := by grind [NZ, k_ii, k_ir, k_ri, k_rr, k_ai, k_ar, k_li, k_lr, k_qi, k_qr, ar_ci, ar_cl, ar_cq, la_ci, la_ca, la_cq, qa_ci, qa_ca, qa_cl, tk_link]
        replace ez12 : z12.toInt = 1 + r9.toInt := w_add ez12 hrz12
        clear hrz12
        refine kmT_X3_emit _ _ _ _ _ _ (fun S13 r13 hF8 pS13 => ?_) (sr_X3_emit (tk := tk) (pg := pg) (sc := sc) _ _ _ (INJ_x nS11 (by decide) hI) (ob_h nS11 (by decide) hO14_t0) (ob_h nS11 (by decide) hO15_t0) (ob_h nS11 (by decide) hO16_t0) (Rx_g PS11 hG_S9))
        have nS13 : FX [] S S13 := FX_k hF8 (by decide) nS11
        have iS13 : 0 ≤ r13.toInt ∧ r13.toInt ≤ 8063 := ⟨pS13.1, pS13.2.1⟩
        have PS13 := Rx_tr hG_S9 PS11 (EMr_R (Rx_g PS11 hG_S9) (BG_r (c1 := 60) PS11 hB_S9 (by decide)) (by decide) pS13 (fun q => ACTn_s (by decide)))
        have uS13 : (vw t0 tk pg sc S13).1 6 = (vw t0 tk pg sc S11).1 6 ∧ ∀ i, (vw t0 tk pg sc S13).2 64 i = (vw t0 tk pg sc S11).2 64 i := ⟨(vw_k hF8 (INJ_x nS11 (by decide) hI) (by decide) (by decide)).1 6 (by decide), fun i => congrFun ((vw_k hF8 (INJ_x nS11 (by decide) hI) (by decide) (by decide)).2 64 (by decide) (by decide)) i⟩
        have yS13 : TY 0 (vw t0 tk pg sc S13) := EMr_T (Rx_g PS11 hG_S9) (BG_r (c1 := 60) PS11 hB_S9 (by decide)) (by decide) pS13 yS11 (by decide)
        clear hF8
        refine kqT_X3_waitFor _ _ _ _ _ (fun S14 hF9 pS14 => ?_) (sq_X3_waitFor (tk := tk) (pg := pg) (sc := sc) _ _ (INJ_x nS13 (by decide) hI) (ob_h nS13 (by decide) hO14_t0) (ob_h nS13 (by decide) hO15_t0) (ob_h nS13 (by decide) hO16_t0) (Rx_g PS13 hG_S9) (BG_r PS13 hB_S9 (by decide)) ((TY_e yS13 (by decide))) ((by decide)))
        have nS14 : FX [] S S14 := FX_k hF9 (by decide) nS13
        have PS14 := Rx_tr hG_S9 PS13 pS14.1
        have yS14 := pS14.2
        clear hF9
        replace yS14 : TY 22 (vw t0 tk pg sc S14) := TY_e yS14 (by unfold wo; grind [NZ, k_ii, k_ir, k_ri, k_rr, k_ai, k_ar, k_li, k_lr, k_qi, k_qr, ar_ci, ar_cl, ar_cq, la_ci, la_ca, la_cq, qa_ci, qa_ca, qa_cl, tk_link])
        intro z15 ez15
        intro z16 ez16
        have hrz16 : -2147483648 ≤ 1 + r9.toInt ∧ 1 + r9.toInt < 2147483648 := by grind [NZ, k_ii, k_ir, k_ri, k_rr, k_ai, k_ar, k_li, k_lr, k_qi, k_qr, ar_ci, ar_cl, ar_cq, la_ci, la_ca, la_cq, qa_ci, qa_ca, qa_cl, tk_link]
        replace ez16 : z16.toInt = 1 + r9.toInt := w_add ez16 hrz16
        clear hrz16
        refine kmT_X3_emit _ _ _ _ _ _ (fun S17 r17 hF10 pS17 => ?_) (sr_X3_emit (tk := tk) (pg := pg) (sc := sc) _ _ _ (INJ_x nS14 (by decide) hI) (ob_h nS14 (by decide) hO14_t0) (ob_h nS14 (by decide) hO15_t0) (ob_h nS14 (by decide) hO16_t0) (Rx_g PS14 hG_S9))
        have nS17 : FX [] S S17 := FX_k hF10 (by decide) nS14
        have iS17 : 0 ≤ r17.toInt ∧ r17.toInt ≤ 8063 := ⟨pS17.1, pS17.2.1⟩
        have PS17 := Rx_tr hG_S9 PS14 (EMr_R (Rx_g PS14 hG_S9) (BG_r (c1 := 60) PS14 hB_S9 (by decide)) (by decide) pS17 (fun q => ACTn_s (by decide)))
        have uS17 : (vw t0 tk pg sc S17).1 6 = (vw t0 tk pg sc S14).1 6 ∧ ∀ i, (vw t0 tk pg sc S17).2 64 i = (vw t0 tk pg sc S14).2 64 i := ⟨(vw_k hF10 (INJ_x nS14 (by decide) hI) (by decide) (by decide)).1 6 (by decide), fun i => congrFun ((vw_k hF10 (INJ_x nS14 (by decide) hI) (by decide) (by decide)).2 64 (by decide) (by decide)) i⟩
        have yS17 : TY (-2) (vw t0 tk pg sc S17) := EMr_T (Rx_g PS14 hG_S9) (BG_r (c1 := 60) PS14 hB_S9 (by decide)) (by decide) pS17 yS14 (by decide)
        clear hF10
        refine ⟨pg, ob_e nS14 (by decide) hO15_t0 ez15, ?_⟩
        refine kmT_X5_setStand _ _ _ _ _ _ (fun S19 hF11 pS19 => ?_) (sr_X5_setStand (x0 := t0) (tk := tk) (sc := sc) _ _ _ (INJ_x nS17 (by decide) hI) (Rx_g PS17 hG_S9) (⟨pS17.1, pS17.2.1⟩))
        have nS19 : FX [] S S19 := FX_k hF11 (by decide) nS17
        have VS19 := vw_k (t0 := t0) (tk := tk) (pg := pg) (sc := sc) hF11 (INJ_x nS17 (by decide) hI) (by decide) (by decide)
        clear hF11
        have hG_S19 : RG (vw t0 tk pg sc S19) := pS19.2.1 (Rx_g PS17 hG_S9)
        have hB_S19 : BG 12 (vw t0 tk pg sc S19) := BG_w pS19.1 (by decide) (BG_r (c1 := 12) PS17 hB_S9 (by decide))
        have yS19 : TY (-2) (vw t0 tk pg sc S19) := TY_w pS19.1 (by decide) (by decide) yS17
        have PS19 : Rx 0 (vw t0 tk pg sc S19) (vw t0 tk pg sc S19) := Rx_rf
        have uS19 : (vw t0 tk pg sc S19).1 6 = (vw t0 tk pg sc S17).1 6 ∧ ∀ i, (vw t0 tk pg sc S19).2 64 i = (vw t0 tk pg sc S17).2 64 i := ⟨pS19.1.1 6 (by decide), fun i => congrFun (pS19.1.2 64 (by decide) (by decide)) i⟩
        unfold wT_X3_assigned_94
        refine ⟨fun c12 => ?_, fun c12 => ?_⟩
        · exact ⟨Rx_m (Rx_as hG_S PS pS9 (by grind [NZ, k_ii, k_ir, k_ri, k_rr, k_ai, k_ar, k_li, k_lr, k_qi, k_qr, ar_ci, ar_cl, ar_cq, la_ci, la_ca, la_cq, qa_ci, qa_ca, qa_cl, tk_link]) PS17 pS17.1 (fun q => EMr_o (Rx_g PS14 hG_S9) (BG_r (c1 := 60) PS14 hB_S9 (by decide)) (by decide) pS17 q) pS19 PS19) (by decide), yS19⟩
        · refine kmT_X3_emit _ _ _ _ _ _ (fun S23 r23 hF13 pS23 => ?_) (sr_X3_emit (tk := tk) (pg := pg) (sc := sc) _ _ _ (INJ_x nS19 (by decide) hI) (ob_h nS19 (by decide) hO14_t0) (ob_h nS19 (by decide) hO15_t0) (ob_h nS19 (by decide) hO16_t0) (Rx_g PS19 hG_S19))
          have nS23 : FX [] S S23 := FX_k hF13 (by decide) nS19
          have iS23 : 0 ≤ r23.toInt ∧ r23.toInt ≤ 8063 := ⟨pS23.1, pS23.2.1⟩
          have PS23 := Rx_tr hG_S19 PS19 (EMr_R (Rx_g PS19 hG_S19) (BG_r (c1 := 60) PS19 hB_S19 (by decide)) (by decide) pS23 (fun q => ACTn_s (by decide)))
          have uS23 : (vw t0 tk pg sc S23).1 6 = (vw t0 tk pg sc S19).1 6 ∧ ∀ i, (vw t0 tk pg sc S23).2 64 i = (vw t0 tk pg sc S19).2 64 i := ⟨(vw_k hF13 (INJ_x nS19 (by decide) hI) (by decide) (by decide)).1 6 (by decide), fun i => congrFun ((vw_k hF13 (INJ_x nS19 (by decide) hI) (by decide) (by decide)).2 64 (by decide) (by decide)) i⟩
          have yS23 : TY (-2) (vw t0 tk pg sc S23) := EMr_T (Rx_g PS19 hG_S19) (BG_r (c1 := 60) PS19 hB_S19 (by decide)) (by decide) pS23 yS19 (by decide)
          clear hF13
          exact ⟨Rx_m (Rx_as hG_S PS pS9 (by grind [NZ, k_ii, k_ir, k_ri, k_rr, k_ai, k_ar, k_li, k_lr, k_qi, k_qr, ar_ci, ar_cl, ar_cq, la_ci, la_ca, la_cq, qa_ci, qa_ca, qa_cl, tk_link]) PS17 pS17.1 (fun q => EMr_o (Rx_g PS14 hG_S9) (BG_r (c1 := 60) PS14 hB_S9 (by decide)) (by decide) pS17 q) pS19 PS23) (by decide), yS23⟩
      · refine kmT_X3_wrong _ _ _ _ _ (fun S20 hF14 pS20 => ?_) (sr_X3_wrong (tk := tk) (pg := pg) (sc := sc) _ _ (INJ_x nS9 (by decide) hI) (ob_h nS9 (by decide) hO14_t0) (ob_h nS9 (by decide) hO15_t0) (ob_h nS9 (by decide) hO16_t0) (Rx_g PS9 hG_S9) ((by decide)))
        have nS20 : FX [] S S20 := FX_k hF14 (by decide) nS9
        have PS20 := Rx_tr hG_S9 PS9 pS20.1
        have fS20 : (vw t0 tk pg sc S20).1 7 ≠ 0 := pS20.2
        clear hF14
        exact ⟨Rx_nw hG_S PS pS9 PS20 fS20, fun q => absurd q fS20⟩
    · refine kqT_X3_expression _ _ _ _ _ (fun S21 hF15 pS21 => ?_) (sq_X3_expression (tk := tk) (pg := pg) (sc := sc) (t := -2) _ _ (INJ_x nS (by decide) hI) (ob_h nS (by decide) hO14_t0) (ob_h nS (by decide) hO15_t0) (ob_h nS (by decide) hO16_t0) (Rx_g PS hG_S) (BG_r PS hB_S (by decide)) yS (by decide) ((by decide)))
      have nS21 : FX [] S S21 := FX_k hF15 (by decide) nS
      have PS21 := Rx_tr hG_S PS pS21.1
      have yS21 : TY (-1) (vw t0 tk pg sc S21) := TY_e pS21.2 (by decide)
      clear hF15
      unfold wT_X3_assigned_94
      refine ⟨fun c16 => ?_, fun c16 => ?_⟩
      · exfalso; grind [NZ, k_ii, k_ir, k_ri, k_rr, k_ai, k_ar, k_li, k_lr, k_qi, k_qr, ar_ci, ar_cl, ar_cq, la_ci, la_ca, la_cq, qa_ci, qa_ca, qa_cl, tk_link]
      · refine kmT_X3_emit _ _ _ _ _ _ (fun S23 r23 hF17 pS23 => ?_) (sr_X3_emit (tk := tk) (pg := pg) (sc := sc) _ _ _ (INJ_x nS21 (by decide) hI) (ob_h nS21 (by decide) hO14_t0) (ob_h nS21 (by decide) hO15_t0) (ob_h nS21 (by decide) hO16_t0) (Rx_g PS21 hG_S))
        have nS23 : FX [] S S23 := FX_k hF17 (by decide) nS21
        have iS23 : 0 ≤ r23.toInt ∧ r23.toInt ≤ 8063 := ⟨pS23.1, pS23.2.1⟩
        have PS23 := Rx_tr hG_S PS21 (EMr_R (Rx_g PS21 hG_S) (BG_r (c1 := 60) PS21 hB_S (by decide)) (by decide) pS23 (fun q => ACTn_s (by decide)))
        have uS23 : (vw t0 tk pg sc S23).1 6 = (vw t0 tk pg sc S21).1 6 ∧ ∀ i, (vw t0 tk pg sc S23).2 64 i = (vw t0 tk pg sc S21).2 64 i := ⟨(vw_k hF17 (INJ_x nS21 (by decide) hI) (by decide) (by decide)).1 6 (by decide), fun i => congrFun ((vw_k hF17 (INJ_x nS21 (by decide) hI) (by decide) (by decide)).2 64 (by decide) (by decide)) i⟩
        have yS23 : TY (-2) (vw t0 tk pg sc S23) := EMr_T (Rx_g PS21 hG_S) (BG_r (c1 := 60) PS21 hB_S (by decide)) (by decide) pS23 yS21 (by decide)
        clear hF17
        exact ⟨Rx_m PS23 (by decide), yS23⟩
  · refine kmT_X3_cellHere _ _ _ _ (fun S3 r3 hF18 pS3 => ?_) (sk_X3_cellHere (tk := tk) (pg := pg) (sc := sc) _ (INJ_x nS (by decide) hI) (ob_h nS (by decide) hO14_t0) (ob_h nS (by decide) hO15_t0) (ob_h nS (by decide) hO16_t0) (Rx_g PS hG_S))
    have nS3 : FX [] S S3 := FX_k hF18 (by decide) nS
    have PS3 := Rx_tr hG_S PS pS3.1
    have yS3 := TY_r pS3.1 yS ((vw_k hF18 (INJ_x nS (by decide) hI) (by decide) (by decide)).1 17 (by decide)) ((vw_k hF18 (INJ_x nS (by decide) hI) (by decide) (by decide)).2 28 (by decide) (by decide))
    clear hF18
    refine kmT_X3_need _ _ _ _ _ (fun S4 hF19 pS4 => ?_) (sk_X3_need (tk := tk) (pg := pg) (sc := sc) _ _ (INJ_x nS3 (by decide) hI) (ob_h nS3 (by decide) hO14_t0) (ob_h nS3 (by decide) hO15_t0) (ob_h nS3 (by decide) hO16_t0) (Rx_g PS3 hG_S))
    have nS4 : FX [] S S4 := FX_k hF19 (by decide) nS3
    have PS4 := Rx_tr hG_S PS3 pS4
    have yS4 := TY_r pS4 yS3 ((vw_k hF19 (INJ_x nS3 (by decide) hI) (by decide) (by decide)).1 17 (by decide)) ((vw_k hF19 (INJ_x nS3 (by decide) hI) (by decide) (by decide)).2 28 (by decide) (by decide))
    clear hF19
    unfold wT_X3_assigned_21
    refine kmT_X3_kind _ _ _ _ (fun S5 r5 hF20 pS5 => ?_) (sr_X3_kind (tk := tk) (pg := pg) (sc := sc) _ (INJ_x nS4 (by decide) hI) (ob_h nS4 (by decide) hO14_t0) (ob_h nS4 (by decide) hO15_t0) (ob_h nS4 (by decide) hO16_t0) (Rx_g PS4 hG_S))
    obtain ⟨rfl, pS5⟩ := pS5
    clear hF20
    refine ⟨fun c21 => ?_, fun c21 => ?_⟩
    · intro z7 ez7
      refine ⟨pg, ob_e nS4 (by decide) hO15_t0 ez7, ?_⟩
      refine kmT_X5_newWait _ _ _ _ (fun S9 r9 hF22 pS9 => ?_) (sr_X5_newWait (x0 := t0) (tk := tk) (sc := sc) _ (INJ_x nS4 (by decide) hI) (Rx_g PS4 hG_S))
      have nS9 : FX [] S S9 := FX_k hF22 (by decide) nS4
      have VS9 := vw_k (t0 := t0) (tk := tk) (pg := pg) (sc := sc) hF22 (INJ_x nS4 (by decide) hI) (by decide) (by decide)
      clear hF22
      have hG_S9 : RG (vw t0 tk pg sc S9) := pS9.2.1 (Rx_g PS4 hG_S)
      have hB_S9 : BG 12 (vw t0 tk pg sc S9) := BG_w pS9.1 (by decide) (BG_r (c1 := 12) PS4 hB_S (by decide))
      have yS9 : TY (-2) (vw t0 tk pg sc S9) := TY_w pS9.1 (by decide) (by decide) yS4
      have PS9 : Rx 0 (vw t0 tk pg sc S9) (vw t0 tk pg sc S9) := Rx_rf
      have uS9 : (vw t0 tk pg sc S9).1 6 = (vw t0 tk pg sc S4).1 6 ∧ ∀ i, (vw t0 tk pg sc S9).2 64 i = (vw t0 tk pg sc S4).2 64 i := ⟨pS9.1.1 6 (by decide), fun i => congrFun (pS9.1.2 64 (by decide) (by decide)) i⟩
      have d9 : -1 ≤ r9.toInt ∧ r9.toInt ≤ 15 := ⟨pS9.2.2.1, pS9.2.2.2.1⟩
      refine ⟨fun c23 => ?_, fun c23 => ?_⟩
      · refine kmT_X3_step _ _ _ _ (fun S11 hF24 pS11 => ?_) (sr_X3_step (tk := tk) (pg := pg) (sc := sc) _ (INJ_x nS9 (by decide) hI) (ob_h nS9 (by decide) hO14_t0) (ob_h nS9 (by decide) hO15_t0) (ob_h nS9 (by decide) hO16_t0) (Rx_g PS9 hG_S9) (by grind [NZ, k_ii, k_ir, k_ri, k_rr, k_ai, k_ar, k_li, k_lr, k_qi, k_qr, ar_ci, ar_cl, ar_cq, la_ci, la_ca, la_cq, qa_ci, qa_ca, qa_cl, tk_link]))
        have nS11 : FX [] S S11 := FX_k hF24 (by decide) nS9
        have PS11 := Rx_tr hG_S9 PS9 pS11
        have yS11 := TY_r pS11 yS9 ((vw_k hF24 (INJ_x nS9 (by decide) hI) (by decide) (by decide)).1 17 (by decide)) ((vw_k hF24 (INJ_x nS9 (by decide) hI) (by decide) (by decide)).2 28 (by decide) (by decide))
        clear hF24
        intro z12 ez12
        have hrz12 : -2147483648 ≤ 1 + r9.toInt ∧ 1 + r9.toInt < 2147483648 := by grind [NZ, k_ii, k_ir, k_ri, k_rr, k_ai, k_ar, k_li, k_lr, k_qi, k_qr, ar_ci, ar_cl, ar_cq, la_ci, la_ca, la_cq, qa_ci, qa_ca, qa_cl, tk_link]
        replace ez12 : z12.toInt = 1 + r9.toInt := w_add ez12 hrz12
        clear hrz12
        refine kmT_X3_emit _ _ _ _ _ _ (fun S13 r13 hF25 pS13 => ?_) (sr_X3_emit (tk := tk) (pg := pg) (sc := sc) _ _ _ (INJ_x nS11 (by decide) hI) (ob_h nS11 (by decide) hO14_t0) (ob_h nS11 (by decide) hO15_t0) (ob_h nS11 (by decide) hO16_t0) (Rx_g PS11 hG_S9))
        have nS13 : FX [] S S13 := FX_k hF25 (by decide) nS11
        have iS13 : 0 ≤ r13.toInt ∧ r13.toInt ≤ 8063 := ⟨pS13.1, pS13.2.1⟩
        have PS13 := Rx_tr hG_S9 PS11 (EMr_R (Rx_g PS11 hG_S9) (BG_r (c1 := 60) PS11 hB_S9 (by decide)) (by decide) pS13 (fun q => ACTn_s (by decide)))
        have uS13 : (vw t0 tk pg sc S13).1 6 = (vw t0 tk pg sc S11).1 6 ∧ ∀ i, (vw t0 tk pg sc S13).2 64 i = (vw t0 tk pg sc S11).2 64 i := ⟨(vw_k hF25 (INJ_x nS11 (by decide) hI) (by decide) (by decide)).1 6 (by decide), fun i => congrFun ((vw_k hF25 (INJ_x nS11 (by decide) hI) (by decide) (by decide)).2 64 (by decide) (by decide)) i⟩
        have yS13 : TY 0 (vw t0 tk pg sc S13) := EMr_T (Rx_g PS11 hG_S9) (BG_r (c1 := 60) PS11 hB_S9 (by decide)) (by decide) pS13 yS11 (by decide)
        clear hF25
        refine kqT_X3_waitFor _ _ _ _ _ (fun S14 hF26 pS14 => ?_) (sq_X3_waitFor (tk := tk) (pg := pg) (sc := sc) _ _ (INJ_x nS13 (by decide) hI) (ob_h nS13 (by decide) hO14_t0) (ob_h nS13 (by decide) hO15_t0) (ob_h nS13 (by decide) hO16_t0) (Rx_g PS13 hG_S9) (BG_r PS13 hB_S9 (by decide)) ((TY_e yS13 (by decide))) ((by decide)))
        have nS14 : FX [] S S14 := FX_k hF26 (by decide) nS13
        have PS14 := Rx_tr hG_S9 PS13 pS14.1
        have yS14 := pS14.2
        clear hF26
        replace yS14 : TY 22 (vw t0 tk pg sc S14) := TY_e yS14 (by unfold wo; grind [NZ, k_ii, k_ir, k_ri, k_rr, k_ai, k_ar, k_li, k_lr, k_qi, k_qr, ar_ci, ar_cl, ar_cq, la_ci, la_ca, la_cq, qa_ci, qa_ca, qa_cl, tk_link])
        intro z15 ez15
        intro z16 ez16
        have hrz16 : -2147483648 ≤ 1 + r9.toInt ∧ 1 + r9.toInt < 2147483648 := by grind [NZ, k_ii, k_ir, k_ri, k_rr, k_ai, k_ar, k_li, k_lr, k_qi, k_qr, ar_ci, ar_cl, ar_cq, la_ci, la_ca, la_cq, qa_ci, qa_ca, qa_cl, tk_link]
        replace ez16 : z16.toInt = 1 + r9.toInt := w_add ez16 hrz16
        clear hrz16
        refine kmT_X3_emit _ _ _ _ _ _ (fun S17 r17 hF27 pS17 => ?_) (sr_X3_emit (tk := tk) (pg := pg) (sc := sc) _ _ _ (INJ_x nS14 (by decide) hI) (ob_h nS14 (by decide) hO14_t0) (ob_h nS14 (by decide) hO15_t0) (ob_h nS14 (by decide) hO16_t0) (Rx_g PS14 hG_S9))
        have nS17 : FX [] S S17 := FX_k hF27 (by decide) nS14
        have iS17 : 0 ≤ r17.toInt ∧ r17.toInt ≤ 8063 := ⟨pS17.1, pS17.2.1⟩
        have PS17 := Rx_tr hG_S9 PS14 (EMr_R (Rx_g PS14 hG_S9) (BG_r (c1 := 60) PS14 hB_S9 (by decide)) (by decide) pS17 (fun q => ACTn_s (by decide)))
        have uS17 : (vw t0 tk pg sc S17).1 6 = (vw t0 tk pg sc S14).1 6 ∧ ∀ i, (vw t0 tk pg sc S17).2 64 i = (vw t0 tk pg sc S14).2 64 i := ⟨(vw_k hF27 (INJ_x nS14 (by decide) hI) (by decide) (by decide)).1 6 (by decide), fun i => congrFun ((vw_k hF27 (INJ_x nS14 (by decide) hI) (by decide) (by decide)).2 64 (by decide) (by decide)) i⟩
        have yS17 : TY (-2) (vw t0 tk pg sc S17) := EMr_T (Rx_g PS14 hG_S9) (BG_r (c1 := 60) PS14 hB_S9 (by decide)) (by decide) pS17 yS14 (by decide)
        clear hF27
        refine ⟨pg, ob_e nS14 (by decide) hO15_t0 ez15, ?_⟩
        refine kmT_X5_setStand _ _ _ _ _ _ (fun S19 hF28 pS19 => ?_) (sr_X5_setStand (x0 := t0) (tk := tk) (sc := sc) _ _ _ (INJ_x nS17 (by decide) hI) (Rx_g PS17 hG_S9) (⟨pS17.1, pS17.2.1⟩))
        have nS19 : FX [] S S19 := FX_k hF28 (by decide) nS17
        have VS19 := vw_k (t0 := t0) (tk := tk) (pg := pg) (sc := sc) hF28 (INJ_x nS17 (by decide) hI) (by decide) (by decide)
        clear hF28
        have hG_S19 : RG (vw t0 tk pg sc S19) := pS19.2.1 (Rx_g PS17 hG_S9)
        have hB_S19 : BG 12 (vw t0 tk pg sc S19) := BG_w pS19.1 (by decide) (BG_r (c1 := 12) PS17 hB_S9 (by decide))
        have yS19 : TY (-2) (vw t0 tk pg sc S19) := TY_w pS19.1 (by decide) (by decide) yS17
        have PS19 : Rx 0 (vw t0 tk pg sc S19) (vw t0 tk pg sc S19) := Rx_rf
        have uS19 : (vw t0 tk pg sc S19).1 6 = (vw t0 tk pg sc S17).1 6 ∧ ∀ i, (vw t0 tk pg sc S19).2 64 i = (vw t0 tk pg sc S17).2 64 i := ⟨pS19.1.1 6 (by decide), fun i => congrFun (pS19.1.2 64 (by decide) (by decide)) i⟩
        unfold wT_X3_assigned_94
        refine ⟨fun c29 => ?_, fun c29 => ?_⟩
        · exact ⟨Rx_m (Rx_as hG_S PS4 pS9 (by grind [NZ, k_ii, k_ir, k_ri, k_rr, k_ai, k_ar, k_li, k_lr, k_qi, k_qr, ar_ci, ar_cl, ar_cq, la_ci, la_ca, la_cq, qa_ci, qa_ca, qa_cl, tk_link]) PS17 pS17.1 (fun q => EMr_o (Rx_g PS14 hG_S9) (BG_r (c1 := 60) PS14 hB_S9 (by decide)) (by decide) pS17 q) pS19 PS19) (by decide), yS19⟩
        · refine kmT_X3_emit _ _ _ _ _ _ (fun S23 r23 hF30 pS23 => ?_) (sr_X3_emit (tk := tk) (pg := pg) (sc := sc) _ _ _ (INJ_x nS19 (by decide) hI) (ob_h nS19 (by decide) hO14_t0) (ob_h nS19 (by decide) hO15_t0) (ob_h nS19 (by decide) hO16_t0) (Rx_g PS19 hG_S19))
          have nS23 : FX [] S S23 := FX_k hF30 (by decide) nS19
          have iS23 : 0 ≤ r23.toInt ∧ r23.toInt ≤ 8063 := ⟨pS23.1, pS23.2.1⟩
          have PS23 := Rx_tr hG_S19 PS19 (EMr_R (Rx_g PS19 hG_S19) (BG_r (c1 := 60) PS19 hB_S19 (by decide)) (by decide) pS23 (fun q => ACTn_s (by decide)))
          have uS23 : (vw t0 tk pg sc S23).1 6 = (vw t0 tk pg sc S19).1 6 ∧ ∀ i, (vw t0 tk pg sc S23).2 64 i = (vw t0 tk pg sc S19).2 64 i := ⟨(vw_k hF30 (INJ_x nS19 (by decide) hI) (by decide) (by decide)).1 6 (by decide), fun i => congrFun ((vw_k hF30 (INJ_x nS19 (by decide) hI) (by decide) (by decide)).2 64 (by decide) (by decide)) i⟩
          have yS23 : TY (-2) (vw t0 tk pg sc S23) := EMr_T (Rx_g PS19 hG_S19) (BG_r (c1 := 60) PS19 hB_S19 (by decide)) (by decide) pS23 yS19 (by decide)
          clear hF30
          exact ⟨Rx_m (Rx_as hG_S PS4 pS9 (by grind [NZ, k_ii, k_ir, k_ri, k_rr, k_ai, k_ar, k_li, k_lr, k_qi, k_qr, ar_ci, ar_cl, ar_cq, la_ci, la_ca, la_cq, qa_ci, qa_ca, qa_cl, tk_link]) PS17 pS17.1 (fun q => EMr_o (Rx_g PS14 hG_S9) (BG_r (c1 := 60) PS14 hB_S9 (by decide)) (by decide) pS17 q) pS19 PS23) (by decide), yS23⟩
      · refine kmT_X3_wrong _ _ _ _ _ (fun S20 hF31 pS20 => ?_) (sr_X3_wrong (tk := tk) (pg := pg) (sc := sc) _ _ (INJ_x nS9 (by decide) hI) (ob_h nS9 (by decide) hO14_t0) (ob_h nS9 (by decide) hO15_t0) (ob_h nS9 (by decide) hO16_t0) (Rx_g PS9 hG_S9) ((by decide)))
        have nS20 : FX [] S S20 := FX_k hF31 (by decide) nS9
        have PS20 := Rx_tr hG_S9 PS9 pS20.1
        have fS20 : (vw t0 tk pg sc S20).1 7 ≠ 0 := pS20.2
        clear hF31
        exact ⟨Rx_nw hG_S PS4 pS9 PS20 fS20, fun q => absurd q fS20⟩
    · refine kqT_X3_expression _ _ _ _ _ (fun S21 hF32 pS21 => ?_) (sq_X3_expression (tk := tk) (pg := pg) (sc := sc) (t := -2) _ _ (INJ_x nS4 (by decide) hI) (ob_h nS4 (by decide) hO14_t0) (ob_h nS4 (by decide) hO15_t0) (ob_h nS4 (by decide) hO16_t0) (Rx_g PS4 hG_S) (BG_r PS4 hB_S (by decide)) yS4 (by decide) ((by decide)))
      have nS21 : FX [] S S21 := FX_k hF32 (by decide) nS4
      have PS21 := Rx_tr hG_S PS4 pS21.1
      have yS21 : TY (-1) (vw t0 tk pg sc S21) := TY_e pS21.2 (by decide)
      clear hF32
      unfold wT_X3_assigned_94
      refine ⟨fun c33 => ?_, fun c33 => ?_⟩
      · exfalso; grind [NZ, k_ii, k_ir, k_ri, k_rr, k_ai, k_ar, k_li, k_lr, k_qi, k_qr, ar_ci, ar_cl, ar_cq, la_ci, la_ca, la_cq, qa_ci, qa_ca, qa_cl, tk_link]
      · refine kmT_X3_emit _ _ _ _ _ _ (fun S23 r23 hF34 pS23 => ?_) (sr_X3_emit (tk := tk) (pg := pg) (sc := sc) _ _ _ (INJ_x nS21 (by decide) hI) (ob_h nS21 (by decide) hO14_t0) (ob_h nS21 (by decide) hO15_t0) (ob_h nS21 (by decide) hO16_t0) (Rx_g PS21 hG_S))
        have nS23 : FX [] S S23 := FX_k hF34 (by decide) nS21
        have iS23 : 0 ≤ r23.toInt ∧ r23.toInt ≤ 8063 := ⟨pS23.1, pS23.2.1⟩
        have PS23 := Rx_tr hG_S PS21 (EMr_R (Rx_g PS21 hG_S) (BG_r (c1 := 60) PS21 hB_S (by decide)) (by decide) pS23 (fun q => ACTn_s (by decide)))
        have uS23 : (vw t0 tk pg sc S23).1 6 = (vw t0 tk pg sc S21).1 6 ∧ ∀ i, (vw t0 tk pg sc S23).2 64 i = (vw t0 tk pg sc S21).2 64 i := ⟨(vw_k hF34 (INJ_x nS21 (by decide) hI) (by decide) (by decide)).1 6 (by decide), fun i => congrFun ((vw_k hF34 (INJ_x nS21 (by decide) hI) (by decide) (by decide)).2 64 (by decide) (by decide)) i⟩
        have yS23 : TY (-2) (vw t0 tk pg sc S23) := EMr_T (Rx_g PS21 hG_S) (BG_r (c1 := 60) PS21 hB_S (by decide)) (by decide) pS23 yS21 (by decide)
        clear hF34
        exact ⟨Rx_m PS23 (by decide), yS23⟩
