
set_option maxHeartbeats 400000 in
theorem sk_X3_leftLoop {tk pg sc : Nat} (t0 : Nat) {S : kS} (hI : INJ S) (hO14_t0 : S.2.1 14 t0 = some tk) (hO15_t0 : S.2.1 15 t0 = some pg) (hO16_t0 : S.2.1 16 t0 = some sc) (hG_S : RG (vw t0 tk pg sc S)) (hB_S : BG 12 (vw t0 tk pg sc S)) (hT_S : TY (-2) (vw t0 tk pg sc S)) (hz : NZ (vw t0 tk pg sc S)) (hL_S : LK (vw t0 tk pg sc S)) : wT_X3_leftLoop t0 S (fun S1 => Rx (-1) (vw t0 tk pg sc S) (vw t0 tk pg sc S1) ∧ TY (-2) (vw t0 tk pg sc S1)) := by
  have nS : FX [] S S := FX_rf
  have PS : Rx 0 (vw t0 tk pg sc S) (vw t0 tk pg sc S) := Rx_rf
  have yS := hT_S
  unfold wT_X3_leftLoop
  refine kmT_X3_kind _ _ _ _ (fun S1 r1 hF1 pS1 => ?_) (sr_X3_kind (tk := tk) (pg := pg) (sc := sc) _ (INJ_x nS (by decide) hI) (ob_h nS (by decide) hO14_t0) (ob_h nS (by decide) hO15_t0) (ob_h nS (by decide) hO16_t0) (Rx_g PS hG_S))
  obtain ⟨rfl, pS1⟩ := pS1
  clear hF1
  refine ⟨fun c2 => ?_, fun c2 => ?_⟩
  · unfold wT_X3_leftLoop_15
    intro z3 ez3
    refine ⟨fun c3 => ?_, fun c3 => ?_⟩
    · refine kmT_X3_step _ _ _ _ (fun S5 hF4 pS5 => ?_) (sr_X3_step (tk := tk) (pg := pg) (sc := sc) _ (INJ_x nS (by decide) hI) (ob_h nS (by decide) hO14_t0) (ob_h nS (by decide) hO15_t0) (ob_h nS (by decide) hO16_t0) (Rx_g PS hG_S) (by grind [NZ, k_ii, k_ir, k_ri, k_rr, k_ai, k_ar, k_li, k_lr, k_qi, k_qr, ar_ci, ar_cl, ar_cq, la_ci, la_ca, la_cq, qa_ci, qa_ca, qa_cl, tk_link, kn460]))
      have nS5 : FX [] S S5 := FX_k hF4 (by decide) nS
      have PS5 := Rx_tr hG_S PS pS5
      have yS5 := TY_r pS5 yS ((vw_k hF4 (INJ_x nS (by decide) hI) (by decide) (by decide)).1 17 (by decide)) ((vw_k hF4 (INJ_x nS (by decide) hI) (by decide) (by decide)).2 28 (by decide) (by decide))
      clear hF4
      refine ⟨fun c5 => ?_, fun c5 => ?_⟩
      · unfold wT_X3_leftLoop_45
        intro z8 ez8
        refine kmT_X3_emit _ _ _ _ _ _ (fun S9 r9 hF6 pS9 => ?_) (sr_X3_emit (tk := tk) (pg := pg) (sc := sc) _ _ _ (INJ_x nS5 (by decide) hI) (ob_h nS5 (by decide) hO14_t0) (ob_h nS5 (by decide) hO15_t0) (ob_h nS5 (by decide) hO16_t0) (Rx_g PS5 hG_S))
        have nS9 : FX [] S S9 := FX_k hF6 (by decide) nS5
        have iS9 : 0 ≤ r9.toInt ∧ r9.toInt ≤ 8063 := ⟨pS9.1, pS9.2.1⟩
        have PS9 := Rx_tr hG_S PS5 (EMr_R (Rx_g PS5 hG_S) (BG_r (c1 := 60) PS5 hB_S (by decide)) (by decide) pS9 ((fun q => ACTn_b (by decide) (LKa (LK_r hG_S PS5 hL_S) (Rx_g PS5 hG_S) q (by rw [ez8]; rfl) (by rw [show z8.toInt = z3.toInt by rw [ez8, ez3]; exact PS5.2.2.2.1.2.1]; grind [NZ, k_ii, k_ir, k_ri, k_rr, k_ai, k_ar, k_li, k_lr, k_qi, k_qr, ar_ci, ar_cl, ar_cq, la_ci, la_ca, la_cq, qa_ci, qa_ca, qa_cl, tk_link, kn460])))))
        have uS9 : (vw t0 tk pg sc S9).1 6 = (vw t0 tk pg sc S5).1 6 ∧ ∀ i, (vw t0 tk pg sc S9).2 64 i = (vw t0 tk pg sc S5).2 64 i := ⟨(vw_k hF6 (INJ_x nS5 (by decide) hI) (by decide) (by decide)).1 6 (by decide), fun i => congrFun ((vw_k hF6 (INJ_x nS5 (by decide) hI) (by decide) (by decide)).2 64 (by decide) (by decide)) i⟩
        have yS9 : TY (-2) (vw t0 tk pg sc S9) := EMr_T (Rx_g PS5 hG_S) (BG_r (c1 := 60) PS5 hB_S (by decide)) (by decide) pS9 yS5 (by decide)
        clear hF6
        intro z10 ez10
        intro z11 ez11
        have d11 : -1 ≤ z11.toInt ∧ z11.toInt ≤ 1379 := by have b3 := (Rx_g PS9 hG_S).2.2.2.1; have b6 := (Rx_g PS9 hG_S).2.2.2.2.2.2.1; rw [ez11]; exact ⟨b6.1, by have := b6.2; have := b3.2; show (vw t0 tk pg sc S9).1 8 ≤ 1379; omega⟩
        intro z12 ez12
        refine ⟨sc, ob_e nS9 (by decide) hO16_t0 ez12, ?_⟩
        intro z14 ez14
        intro z15 ez15
        have d15 : 0 ≤ z15.toInt ∧ z15.toInt < 460 := by have b4 := (Rx_g PS9 hG_S).2.2.2.2.1; have b7 := (Rx_g PS9 hG_S).2.2.2.2.2.2.2.1; have e9 : z15.toInt = z3.toInt := (by rw [ez15, ez3]; exact PS9.2.2.2.1.2.1); have e8 : z15.toInt = (vw t0 tk pg sc S9).1 9 := (by rw [ez15]; rfl); exact ⟨by rw [e9]; grind [NZ, k_ii, k_ir, k_ri, k_rr, k_ai, k_ar, k_li, k_lr, k_qi, k_qr, ar_ci, ar_cl, ar_cq, la_ci, la_ca, la_cq, qa_ci, qa_ca, qa_cl, tk_link, kn460], by omega⟩
        intro q16 eq16
        have wq16 := rd_w nS9 (by decide) ez14 eq16
        refine ⟨by grind [NZ, k_ii, k_ir, k_ri, k_rr, k_ai, k_ar, k_li, k_lr, k_qi, k_qr, ar_ci, ar_cl, ar_cq, la_ci, la_ca, la_cq, qa_ci, qa_ca, qa_cl, tk_link, kn460], ?_⟩
        intro z17 ez17
        replace ez17 := ez17.trans (ar_rd nS9 (by decide) (by decide) wq16)
        refine ⟨fun c7 => ?_, fun c7 => ?_⟩
        · unfold wT_X3_leftLoop_83
          refine ⟨sc, ob_e nS9 (by decide) hO16_t0 ez10, ?_⟩
          refine kmT_X7_markOutward _ _ _ _ _ _ _ (fun S20 hF8 pS20 => ?_) (sr_X7_markOutward (x0 := t0) (tk := tk) (pg := pg) _ _ _ _ (INJ_x nS9 (by decide) hI) (Rx_g PS9 hG_S) (by grind [NZ, k_ii, k_ir, k_ri, k_rr, k_ai, k_ar, k_li, k_lr, k_qi, k_qr, ar_ci, ar_cl, ar_cq, la_ci, la_ca, la_cq, qa_ci, qa_ca, qa_cl, tk_link, kn460]) ((by decide)))
          have nS20 : FX [] S S20 := FX_k hF8 (by decide) nS9
          have PS20 := Rx_tr hG_S PS9 pS20
          have uS20 : (vw t0 tk pg sc S20).1 6 = (vw t0 tk pg sc S9).1 6 ∧ ∀ i, (vw t0 tk pg sc S20).2 64 i = (vw t0 tk pg sc S9).2 64 i := ⟨(vw_k hF8 (INJ_x nS9 (by decide) hI) (by decide) (by decide)).1 6 (by decide), fun i => congrFun ((vw_k hF8 (INJ_x nS9 (by decide) hI) (by decide) (by decide)).2 64 (by decide) (by decide)) i⟩
          have yS20 := TY_r pS20 yS9 ((vw_k hF8 (INJ_x nS9 (by decide) hI) (by decide) (by decide)).1 17 (by decide)) ((vw_k hF8 (INJ_x nS9 (by decide) hI) (by decide) (by decide)).2 28 (by decide) (by decide))
          clear hF8
          exact ⟨Rx_m PS20 (by decide), yS20⟩
        · unfold wT_X3_leftLoop_83
          refine ⟨sc, ob_e nS9 (by decide) hO16_t0 ez10, ?_⟩
          refine kmT_X7_markOutward _ _ _ _ _ _ _ (fun S20 hF9 pS20 => ?_) (sr_X7_markOutward (x0 := t0) (tk := tk) (pg := pg) _ _ _ _ (INJ_x nS9 (by decide) hI) (Rx_g PS9 hG_S) (by grind [NZ, k_ii, k_ir, k_ri, k_rr, k_ai, k_ar, k_li, k_lr, k_qi, k_qr, ar_ci, ar_cl, ar_cq, la_ci, la_ca, la_cq, qa_ci, qa_ca, qa_cl, tk_link, kn460]) ((by decide)))
          have nS20 : FX [] S S20 := FX_k hF9 (by decide) nS9
          have PS20 := Rx_tr hG_S PS9 pS20
          have uS20 : (vw t0 tk pg sc S20).1 6 = (vw t0 tk pg sc S9).1 6 ∧ ∀ i, (vw t0 tk pg sc S20).2 64 i = (vw t0 tk pg sc S9).2 64 i := ⟨(vw_k hF9 (INJ_x nS9 (by decide) hI) (by decide) (by decide)).1 6 (by decide), fun i => congrFun ((vw_k hF9 (INJ_x nS9 (by decide) hI) (by decide) (by decide)).2 64 (by decide) (by decide)) i⟩
          have yS20 := TY_r pS20 yS9 ((vw_k hF9 (INJ_x nS9 (by decide) hI) (by decide) (by decide)).1 17 (by decide)) ((vw_k hF9 (INJ_x nS9 (by decide) hI) (by decide) (by decide)).2 28 (by decide) (by decide))
          clear hF9
          exact ⟨Rx_m PS20 (by decide), yS20⟩
      · unfold wT_X3_leftLoop_45
        intro z8 ez8
        refine kmT_X3_emit _ _ _ _ _ _ (fun S9 r9 hF10 pS9 => ?_) (sr_X3_emit (tk := tk) (pg := pg) (sc := sc) _ _ _ (INJ_x nS5 (by decide) hI) (ob_h nS5 (by decide) hO14_t0) (ob_h nS5 (by decide) hO15_t0) (ob_h nS5 (by decide) hO16_t0) (Rx_g PS5 hG_S))
        have nS9 : FX [] S S9 := FX_k hF10 (by decide) nS5
        have iS9 : 0 ≤ r9.toInt ∧ r9.toInt ≤ 8063 := ⟨pS9.1, pS9.2.1⟩
        have PS9 := Rx_tr hG_S PS5 (EMr_R (Rx_g PS5 hG_S) (BG_r (c1 := 60) PS5 hB_S (by decide)) (by decide) pS9 ((fun q => ACTn_b (by decide) (LKa (LK_r hG_S PS5 hL_S) (Rx_g PS5 hG_S) q (by rw [ez8]; rfl) (by rw [show z8.toInt = z3.toInt by rw [ez8, ez3]; exact PS5.2.2.2.1.2.1]; grind [NZ, k_ii, k_ir, k_ri, k_rr, k_ai, k_ar, k_li, k_lr, k_qi, k_qr, ar_ci, ar_cl, ar_cq, la_ci, la_ca, la_cq, qa_ci, qa_ca, qa_cl, tk_link, kn460])))))
        have uS9 : (vw t0 tk pg sc S9).1 6 = (vw t0 tk pg sc S5).1 6 ∧ ∀ i, (vw t0 tk pg sc S9).2 64 i = (vw t0 tk pg sc S5).2 64 i := ⟨(vw_k hF10 (INJ_x nS5 (by decide) hI) (by decide) (by decide)).1 6 (by decide), fun i => congrFun ((vw_k hF10 (INJ_x nS5 (by decide) hI) (by decide) (by decide)).2 64 (by decide) (by decide)) i⟩
        have yS9 : TY (-2) (vw t0 tk pg sc S9) := EMr_T (Rx_g PS5 hG_S) (BG_r (c1 := 60) PS5 hB_S (by decide)) (by decide) pS9 yS5 (by decide)
        clear hF10
        intro z10 ez10
        intro z11 ez11
        have d11 : -1 ≤ z11.toInt ∧ z11.toInt ≤ 1379 := by have b3 := (Rx_g PS9 hG_S).2.2.2.1; have b6 := (Rx_g PS9 hG_S).2.2.2.2.2.2.1; rw [ez11]; exact ⟨b6.1, by have := b6.2; have := b3.2; show (vw t0 tk pg sc S9).1 8 ≤ 1379; omega⟩
        intro z12 ez12
        refine ⟨sc, ob_e nS9 (by decide) hO16_t0 ez12, ?_⟩
        intro z14 ez14
        intro z15 ez15
        have d15 : 0 ≤ z15.toInt ∧ z15.toInt < 460 := by have b4 := (Rx_g PS9 hG_S).2.2.2.2.1; have b7 := (Rx_g PS9 hG_S).2.2.2.2.2.2.2.1; have e9 : z15.toInt = z3.toInt := (by rw [ez15, ez3]; exact PS9.2.2.2.1.2.1); have e8 : z15.toInt = (vw t0 tk pg sc S9).1 9 := (by rw [ez15]; rfl); exact ⟨by rw [e9]; grind [NZ, k_ii, k_ir, k_ri, k_rr, k_ai, k_ar, k_li, k_lr, k_qi, k_qr, ar_ci, ar_cl, ar_cq, la_ci, la_ca, la_cq, qa_ci, qa_ca, qa_cl, tk_link, kn460], by omega⟩
        intro q16 eq16
        have wq16 := rd_w nS9 (by decide) ez14 eq16
        refine ⟨by grind [NZ, k_ii, k_ir, k_ri, k_rr, k_ai, k_ar, k_li, k_lr, k_qi, k_qr, ar_ci, ar_cl, ar_cq, la_ci, la_ca, la_cq, qa_ci, qa_ca, qa_cl, tk_link, kn460], ?_⟩
        intro z17 ez17
        replace ez17 := ez17.trans (ar_rd nS9 (by decide) (by decide) wq16)
        refine ⟨fun c11 => ?_, fun c11 => ?_⟩
        · unfold wT_X3_leftLoop_83
          refine ⟨sc, ob_e nS9 (by decide) hO16_t0 ez10, ?_⟩
          refine kmT_X7_markOutward _ _ _ _ _ _ _ (fun S20 hF12 pS20 => ?_) (sr_X7_markOutward (x0 := t0) (tk := tk) (pg := pg) _ _ _ _ (INJ_x nS9 (by decide) hI) (Rx_g PS9 hG_S) (by grind [NZ, k_ii, k_ir, k_ri, k_rr, k_ai, k_ar, k_li, k_lr, k_qi, k_qr, ar_ci, ar_cl, ar_cq, la_ci, la_ca, la_cq, qa_ci, qa_ca, qa_cl, tk_link, kn460]) ((by decide)))
          have nS20 : FX [] S S20 := FX_k hF12 (by decide) nS9
          have PS20 := Rx_tr hG_S PS9 pS20
          have uS20 : (vw t0 tk pg sc S20).1 6 = (vw t0 tk pg sc S9).1 6 ∧ ∀ i, (vw t0 tk pg sc S20).2 64 i = (vw t0 tk pg sc S9).2 64 i := ⟨(vw_k hF12 (INJ_x nS9 (by decide) hI) (by decide) (by decide)).1 6 (by decide), fun i => congrFun ((vw_k hF12 (INJ_x nS9 (by decide) hI) (by decide) (by decide)).2 64 (by decide) (by decide)) i⟩
          have yS20 := TY_r pS20 yS9 ((vw_k hF12 (INJ_x nS9 (by decide) hI) (by decide) (by decide)).1 17 (by decide)) ((vw_k hF12 (INJ_x nS9 (by decide) hI) (by decide) (by decide)).2 28 (by decide) (by decide))
          clear hF12
          exact ⟨Rx_m PS20 (by decide), yS20⟩
        · unfold wT_X3_leftLoop_83
          refine ⟨sc, ob_e nS9 (by decide) hO16_t0 ez10, ?_⟩
          refine kmT_X7_markOutward _ _ _ _ _ _ _ (fun S20 hF13 pS20 => ?_) (sr_X7_markOutward (x0 := t0) (tk := tk) (pg := pg) _ _ _ _ (INJ_x nS9 (by decide) hI) (Rx_g PS9 hG_S) (by grind [NZ, k_ii, k_ir, k_ri, k_rr, k_ai, k_ar, k_li, k_lr, k_qi, k_qr, ar_ci, ar_cl, ar_cq, la_ci, la_ca, la_cq, qa_ci, qa_ca, qa_cl, tk_link, kn460]) ((by decide)))
          have nS20 : FX [] S S20 := FX_k hF13 (by decide) nS9
          have PS20 := Rx_tr hG_S PS9 pS20
          have uS20 : (vw t0 tk pg sc S20).1 6 = (vw t0 tk pg sc S9).1 6 ∧ ∀ i, (vw t0 tk pg sc S20).2 64 i = (vw t0 tk pg sc S9).2 64 i := ⟨(vw_k hF13 (INJ_x nS9 (by decide) hI) (by decide) (by decide)).1 6 (by decide), fun i => congrFun ((vw_k hF13 (INJ_x nS9 (by decide) hI) (by decide) (by decide)).2 64 (by decide) (by decide)) i⟩
          have yS20 := TY_r pS20 yS9 ((vw_k hF13 (INJ_x nS9 (by decide) hI) (by decide) (by decide)).1 17 (by decide)) ((vw_k hF13 (INJ_x nS9 (by decide) hI) (by decide) (by decide)).2 28 (by decide) (by decide))
          clear hF13
          exact ⟨Rx_m PS20 (by decide), yS20⟩
    · refine kmT_X3_wrong _ _ _ _ _ (fun S7 hF14 pS7 => ?_) (sr_X3_wrong (tk := tk) (pg := pg) (sc := sc) _ _ (INJ_x nS (by decide) hI) (ob_h nS (by decide) hO14_t0) (ob_h nS (by decide) hO15_t0) (ob_h nS (by decide) hO16_t0) (Rx_g PS hG_S) ((by decide)))
      have nS7 : FX [] S S7 := FX_k hF14 (by decide) nS
      have PS7 := Rx_tr hG_S PS pS7.1
      have fS7 : (vw t0 tk pg sc S7).1 7 ≠ 0 := pS7.2
      clear hF14
      exact ⟨Rx_m PS7 (by decide), (fun q => absurd q fS7)⟩
  · unfold wT_X3_leftLoop_15
    intro z3 ez3
    refine ⟨fun c15 => ?_, fun c15 => ?_⟩
    · refine kmT_X3_step _ _ _ _ (fun S5 hF16 pS5 => ?_) (sr_X3_step (tk := tk) (pg := pg) (sc := sc) _ (INJ_x nS (by decide) hI) (ob_h nS (by decide) hO14_t0) (ob_h nS (by decide) hO15_t0) (ob_h nS (by decide) hO16_t0) (Rx_g PS hG_S) (by grind [NZ, k_ii, k_ir, k_ri, k_rr, k_ai, k_ar, k_li, k_lr, k_qi, k_qr, ar_ci, ar_cl, ar_cq, la_ci, la_ca, la_cq, qa_ci, qa_ca, qa_cl, tk_link, kn460]))
      have nS5 : FX [] S S5 := FX_k hF16 (by decide) nS
      have PS5 := Rx_tr hG_S PS pS5
      have yS5 := TY_r pS5 yS ((vw_k hF16 (INJ_x nS (by decide) hI) (by decide) (by decide)).1 17 (by decide)) ((vw_k hF16 (INJ_x nS (by decide) hI) (by decide) (by decide)).2 28 (by decide) (by decide))
      clear hF16
      refine ⟨fun c17 => ?_, fun c17 => ?_⟩
      · unfold wT_X3_leftLoop_45
        intro z8 ez8
        refine kmT_X3_emit _ _ _ _ _ _ (fun S9 r9 hF18 pS9 => ?_) (sr_X3_emit (tk := tk) (pg := pg) (sc := sc) _ _ _ (INJ_x nS5 (by decide) hI) (ob_h nS5 (by decide) hO14_t0) (ob_h nS5 (by decide) hO15_t0) (ob_h nS5 (by decide) hO16_t0) (Rx_g PS5 hG_S))
        have nS9 : FX [] S S9 := FX_k hF18 (by decide) nS5
        have iS9 : 0 ≤ r9.toInt ∧ r9.toInt ≤ 8063 := ⟨pS9.1, pS9.2.1⟩
        have PS9 := Rx_tr hG_S PS5 (EMr_R (Rx_g PS5 hG_S) (BG_r (c1 := 60) PS5 hB_S (by decide)) (by decide) pS9 ((fun q => ACTn_b (by decide) (LKa (LK_r hG_S PS5 hL_S) (Rx_g PS5 hG_S) q (by rw [ez8]; rfl) (by rw [show z8.toInt = z3.toInt by rw [ez8, ez3]; exact PS5.2.2.2.1.2.1]; grind [NZ, k_ii, k_ir, k_ri, k_rr, k_ai, k_ar, k_li, k_lr, k_qi, k_qr, ar_ci, ar_cl, ar_cq, la_ci, la_ca, la_cq, qa_ci, qa_ca, qa_cl, tk_link, kn460])))))
        have uS9 : (vw t0 tk pg sc S9).1 6 = (vw t0 tk pg sc S5).1 6 ∧ ∀ i, (vw t0 tk pg sc S9).2 64 i = (vw t0 tk pg sc S5).2 64 i := ⟨(vw_k hF18 (INJ_x nS5 (by decide) hI) (by decide) (by decide)).1 6 (by decide), fun i => congrFun ((vw_k hF18 (INJ_x nS5 (by decide) hI) (by decide) (by decide)).2 64 (by decide) (by decide)) i⟩
        have yS9 : TY (-2) (vw t0 tk pg sc S9) := EMr_T (Rx_g PS5 hG_S) (BG_r (c1 := 60) PS5 hB_S (by decide)) (by decide) pS9 yS5 (by decide)
        clear hF18
        intro z10 ez10
        intro z11 ez11
        have d11 : -1 ≤ z11.toInt ∧ z11.toInt ≤ 1379 := by have b3 := (Rx_g PS9 hG_S).2.2.2.1; have b6 := (Rx_g PS9 hG_S).2.2.2.2.2.2.1; rw [ez11]; exact ⟨b6.1, by have := b6.2; have := b3.2; show (vw t0 tk pg sc S9).1 8 ≤ 1379; omega⟩
        intro z12 ez12
        refine ⟨sc, ob_e nS9 (by decide) hO16_t0 ez12, ?_⟩
        intro z14 ez14
        intro z15 ez15
        have d15 : 0 ≤ z15.toInt ∧ z15.toInt < 460 := by have b4 := (Rx_g PS9 hG_S).2.2.2.2.1; have b7 := (Rx_g PS9 hG_S).2.2.2.2.2.2.2.1; have e9 : z15.toInt = z3.toInt := (by rw [ez15, ez3]; exact PS9.2.2.2.1.2.1); have e8 : z15.toInt = (vw t0 tk pg sc S9).1 9 := (by rw [ez15]; rfl); exact ⟨by rw [e9]; grind [NZ, k_ii, k_ir, k_ri, k_rr, k_ai, k_ar, k_li, k_lr, k_qi, k_qr, ar_ci, ar_cl, ar_cq, la_ci, la_ca, la_cq, qa_ci, qa_ca, qa_cl, tk_link, kn460], by omega⟩
        intro q16 eq16
        have wq16 := rd_w nS9 (by decide) ez14 eq16
        refine ⟨by grind [NZ, k_ii, k_ir, k_ri, k_rr, k_ai, k_ar, k_li, k_lr, k_qi, k_qr, ar_ci, ar_cl, ar_cq, la_ci, la_ca, la_cq, qa_ci, qa_ca, qa_cl, tk_link, kn460], ?_⟩
        intro z17 ez17
        replace ez17 := ez17.trans (ar_rd nS9 (by decide) (by decide) wq16)
        refine ⟨fun c19 => ?_, fun c19 => ?_⟩
        · unfold wT_X3_leftLoop_83
          refine ⟨sc, ob_e nS9 (by decide) hO16_t0 ez10, ?_⟩
          refine kmT_X7_markOutward _ _ _ _ _ _ _ (fun S20 hF20 pS20 => ?_) (sr_X7_markOutward (x0 := t0) (tk := tk) (pg := pg) _ _ _ _ (INJ_x nS9 (by decide) hI) (Rx_g PS9 hG_S) (by grind [NZ, k_ii, k_ir, k_ri, k_rr, k_ai, k_ar, k_li, k_lr, k_qi, k_qr, ar_ci, ar_cl, ar_cq, la_ci, la_ca, la_cq, qa_ci, qa_ca, qa_cl, tk_link, kn460]) ((by decide)))
          have nS20 : FX [] S S20 := FX_k hF20 (by decide) nS9
          have PS20 := Rx_tr hG_S PS9 pS20
          have uS20 : (vw t0 tk pg sc S20).1 6 = (vw t0 tk pg sc S9).1 6 ∧ ∀ i, (vw t0 tk pg sc S20).2 64 i = (vw t0 tk pg sc S9).2 64 i := ⟨(vw_k hF20 (INJ_x nS9 (by decide) hI) (by decide) (by decide)).1 6 (by decide), fun i => congrFun ((vw_k hF20 (INJ_x nS9 (by decide) hI) (by decide) (by decide)).2 64 (by decide) (by decide)) i⟩
          have yS20 := TY_r pS20 yS9 ((vw_k hF20 (INJ_x nS9 (by decide) hI) (by decide) (by decide)).1 17 (by decide)) ((vw_k hF20 (INJ_x nS9 (by decide) hI) (by decide) (by decide)).2 28 (by decide) (by decide))
          clear hF20
          exact ⟨Rx_m PS20 (by decide), yS20⟩
        · unfold wT_X3_leftLoop_83
          refine ⟨sc, ob_e nS9 (by decide) hO16_t0 ez10, ?_⟩
          refine kmT_X7_markOutward _ _ _ _ _ _ _ (fun S20 hF21 pS20 => ?_) (sr_X7_markOutward (x0 := t0) (tk := tk) (pg := pg) _ _ _ _ (INJ_x nS9 (by decide) hI) (Rx_g PS9 hG_S) (by grind [NZ, k_ii, k_ir, k_ri, k_rr, k_ai, k_ar, k_li, k_lr, k_qi, k_qr, ar_ci, ar_cl, ar_cq, la_ci, la_ca, la_cq, qa_ci, qa_ca, qa_cl, tk_link, kn460]) ((by decide)))
          have nS20 : FX [] S S20 := FX_k hF21 (by decide) nS9
          have PS20 := Rx_tr hG_S PS9 pS20
          have uS20 : (vw t0 tk pg sc S20).1 6 = (vw t0 tk pg sc S9).1 6 ∧ ∀ i, (vw t0 tk pg sc S20).2 64 i = (vw t0 tk pg sc S9).2 64 i := ⟨(vw_k hF21 (INJ_x nS9 (by decide) hI) (by decide) (by decide)).1 6 (by decide), fun i => congrFun ((vw_k hF21 (INJ_x nS9 (by decide) hI) (by decide) (by decide)).2 64 (by decide) (by decide)) i⟩
          have yS20 := TY_r pS20 yS9 ((vw_k hF21 (INJ_x nS9 (by decide) hI) (by decide) (by decide)).1 17 (by decide)) ((vw_k hF21 (INJ_x nS9 (by decide) hI) (by decide) (by decide)).2 28 (by decide) (by decide))
          clear hF21
          exact ⟨Rx_m PS20 (by decide), yS20⟩
      · unfold wT_X3_leftLoop_45
        intro z8 ez8
        refine kmT_X3_emit _ _ _ _ _ _ (fun S9 r9 hF22 pS9 => ?_) (sr_X3_emit (tk := tk) (pg := pg) (sc := sc) _ _ _ (INJ_x nS5 (by decide) hI) (ob_h nS5 (by decide) hO14_t0) (ob_h nS5 (by decide) hO15_t0) (ob_h nS5 (by decide) hO16_t0) (Rx_g PS5 hG_S))
        have nS9 : FX [] S S9 := FX_k hF22 (by decide) nS5
        have iS9 : 0 ≤ r9.toInt ∧ r9.toInt ≤ 8063 := ⟨pS9.1, pS9.2.1⟩
        have PS9 := Rx_tr hG_S PS5 (EMr_R (Rx_g PS5 hG_S) (BG_r (c1 := 60) PS5 hB_S (by decide)) (by decide) pS9 ((fun q => ACTn_b (by decide) (LKa (LK_r hG_S PS5 hL_S) (Rx_g PS5 hG_S) q (by rw [ez8]; rfl) (by rw [show z8.toInt = z3.toInt by rw [ez8, ez3]; exact PS5.2.2.2.1.2.1]; grind [NZ, k_ii, k_ir, k_ri, k_rr, k_ai, k_ar, k_li, k_lr, k_qi, k_qr, ar_ci, ar_cl, ar_cq, la_ci, la_ca, la_cq, qa_ci, qa_ca, qa_cl, tk_link, kn460])))))
        have uS9 : (vw t0 tk pg sc S9).1 6 = (vw t0 tk pg sc S5).1 6 ∧ ∀ i, (vw t0 tk pg sc S9).2 64 i = (vw t0 tk pg sc S5).2 64 i := ⟨(vw_k hF22 (INJ_x nS5 (by decide) hI) (by decide) (by decide)).1 6 (by decide), fun i => congrFun ((vw_k hF22 (INJ_x nS5 (by decide) hI) (by decide) (by decide)).2 64 (by decide) (by decide)) i⟩
        have yS9 : TY (-2) (vw t0 tk pg sc S9) := EMr_T (Rx_g PS5 hG_S) (BG_r (c1 := 60) PS5 hB_S (by decide)) (by decide) pS9 yS5 (by decide)
        clear hF22
        intro z10 ez10
        intro z11 ez11
        have d11 : -1 ≤ z11.toInt ∧ z11.toInt ≤ 1379 := by have b3 := (Rx_g PS9 hG_S).2.2.2.1; have b6 := (Rx_g PS9 hG_S).2.2.2.2.2.2.1; rw [ez11]; exact ⟨b6.1, by have := b6.2; have := b3.2; show (vw t0 tk pg sc S9).1 8 ≤ 1379; omega⟩
        intro z12 ez12
        refine ⟨sc, ob_e nS9 (by decide) hO16_t0 ez12, ?_⟩
        intro z14 ez14
        intro z15 ez15
        have d15 : 0 ≤ z15.toInt ∧ z15.toInt < 460 := by have b4 := (Rx_g PS9 hG_S).2.2.2.2.1; have b7 := (Rx_g PS9 hG_S).2.2.2.2.2.2.2.1; have e9 : z15.toInt = z3.toInt := (by rw [ez15, ez3]; exact PS9.2.2.2.1.2.1); have e8 : z15.toInt = (vw t0 tk pg sc S9).1 9 := (by rw [ez15]; rfl); exact ⟨by rw [e9]; grind [NZ, k_ii, k_ir, k_ri, k_rr, k_ai, k_ar, k_li, k_lr, k_qi, k_qr, ar_ci, ar_cl, ar_cq, la_ci, la_ca, la_cq, qa_ci, qa_ca, qa_cl, tk_link, kn460], by omega⟩
        intro q16 eq16
        have wq16 := rd_w nS9 (by decide) ez14 eq16
        refine ⟨by grind [NZ, k_ii, k_ir, k_ri, k_rr, k_ai, k_ar, k_li, k_lr, k_qi, k_qr, ar_ci, ar_cl, ar_cq, la_ci, la_ca, la_cq, qa_ci, qa_ca, qa_cl, tk_link, kn460], ?_⟩
        intro z17 ez17
        replace ez17 := ez17.trans (ar_rd nS9 (by decide) (by decide) wq16)
        refine ⟨fun c23 => ?_, fun c23 => ?_⟩
        · unfold wT_X3_leftLoop_83
          refine ⟨sc, ob_e nS9 (by decide) hO16_t0 ez10, ?_⟩
          refine kmT_X7_markOutward _ _ _ _ _ _ _ (fun S20 hF24 pS20 => ?_) (sr_X7_markOutward (x0 := t0) (tk := tk) (pg := pg) _ _ _ _ (INJ_x nS9 (by decide) hI) (Rx_g PS9 hG_S) (by grind [NZ, k_ii, k_ir, k_ri, k_rr, k_ai, k_ar, k_li, k_lr, k_qi, k_qr, ar_ci, ar_cl, ar_cq, la_ci, la_ca, la_cq, qa_ci, qa_ca, qa_cl, tk_link, kn460]) ((by decide)))
          have nS20 : FX [] S S20 := FX_k hF24 (by decide) nS9
          have PS20 := Rx_tr hG_S PS9 pS20
          have uS20 : (vw t0 tk pg sc S20).1 6 = (vw t0 tk pg sc S9).1 6 ∧ ∀ i, (vw t0 tk pg sc S20).2 64 i = (vw t0 tk pg sc S9).2 64 i := ⟨(vw_k hF24 (INJ_x nS9 (by decide) hI) (by decide) (by decide)).1 6 (by decide), fun i => congrFun ((vw_k hF24 (INJ_x nS9 (by decide) hI) (by decide) (by decide)).2 64 (by decide) (by decide)) i⟩
          have yS20 := TY_r pS20 yS9 ((vw_k hF24 (INJ_x nS9 (by decide) hI) (by decide) (by decide)).1 17 (by decide)) ((vw_k hF24 (INJ_x nS9 (by decide) hI) (by decide) (by decide)).2 28 (by decide) (by decide))
          clear hF24
          exact ⟨Rx_m PS20 (by decide), yS20⟩
        · unfold wT_X3_leftLoop_83
          refine ⟨sc, ob_e nS9 (by decide) hO16_t0 ez10, ?_⟩
          refine kmT_X7_markOutward _ _ _ _ _ _ _ (fun S20 hF25 pS20 => ?_) (sr_X7_markOutward (x0 := t0) (tk := tk) (pg := pg) _ _ _ _ (INJ_x nS9 (by decide) hI) (Rx_g PS9 hG_S) (by grind [NZ, k_ii, k_ir, k_ri, k_rr, k_ai, k_ar, k_li, k_lr, k_qi, k_qr, ar_ci, ar_cl, ar_cq, la_ci, la_ca, la_cq, qa_ci, qa_ca, qa_cl, tk_link, kn460]) ((by decide)))
          have nS20 : FX [] S S20 := FX_k hF25 (by decide) nS9
          have PS20 := Rx_tr hG_S PS9 pS20
          have uS20 : (vw t0 tk pg sc S20).1 6 = (vw t0 tk pg sc S9).1 6 ∧ ∀ i, (vw t0 tk pg sc S20).2 64 i = (vw t0 tk pg sc S9).2 64 i := ⟨(vw_k hF25 (INJ_x nS9 (by decide) hI) (by decide) (by decide)).1 6 (by decide), fun i => congrFun ((vw_k hF25 (INJ_x nS9 (by decide) hI) (by decide) (by decide)).2 64 (by decide) (by decide)) i⟩
          have yS20 := TY_r pS20 yS9 ((vw_k hF25 (INJ_x nS9 (by decide) hI) (by decide) (by decide)).1 17 (by decide)) ((vw_k hF25 (INJ_x nS9 (by decide) hI) (by decide) (by decide)).2 28 (by decide) (by decide))
          clear hF25
          exact ⟨Rx_m PS20 (by decide), yS20⟩
    · refine kmT_X3_wrong _ _ _ _ _ (fun S7 hF26 pS7 => ?_) (sr_X3_wrong (tk := tk) (pg := pg) (sc := sc) _ _ (INJ_x nS (by decide) hI) (ob_h nS (by decide) hO14_t0) (ob_h nS (by decide) hO15_t0) (ob_h nS (by decide) hO16_t0) (Rx_g PS hG_S) ((by decide)))
      have nS7 : FX [] S S7 := FX_k hF26 (by decide) nS
      have PS7 := Rx_tr hG_S PS pS7.1
      have fS7 : (vw t0 tk pg sc S7).1 7 ≠ 0 := pS7.2
      clear hF26
      exact ⟨Rx_m PS7 (by decide), (fun q => absurd q fS7)⟩
