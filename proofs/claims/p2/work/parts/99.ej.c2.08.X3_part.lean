
set_option maxHeartbeats 400000 in
theorem sk_X3_part {n : Int} {r_X3_part : Nat → Int32 → kS → (kS → Prop) → Prop} (hf_X3_part : ∀ t0 : Nat, ∀ a0 : Int32, KmV [6, 7, 17] [] [28, 29, 30, 35] [39] [] (r_X3_part t0 a0)) (hr_X3_part : ∀ (tk pg sc : Nat) (t : Int) (t0 : Nat) (a0 : Int32) (S : kS), INJ S → S.2.1 14 t0 = some tk → S.2.1 15 t0 = some pg → S.2.1 16 t0 = some sc → RG (vw t0 tk pg sc S) → BG 12 (vw t0 tk pg sc S) → TY t (vw t0 tk pg sc S) → (-2 ≤ t) → (0 ≤ a0.toInt ∧ a0.toInt ≤ 10) → (11 - a0.toInt ≤ n) → r_X3_part t0 a0 S (fun S1 => Rx (-1) (vw t0 tk pg sc S) (vw t0 tk pg sc S1) ∧ TY ((exo t)) (vw t0 tk pg sc S1))) {tk pg sc : Nat} {t : Int} (t0 : Nat) (a0 : Int32) {S : kS} (hI : INJ S) (hO14_t0 : S.2.1 14 t0 = some tk) (hO15_t0 : S.2.1 15 t0 = some pg) (hO16_t0 : S.2.1 16 t0 = some sc) (hG_S : RG (vw t0 tk pg sc S)) (hB_S : BG 12 (vw t0 tk pg sc S)) (hT_S : TY t (vw t0 tk pg sc S)) (ht : -2 ≤ t) (ha : 0 ≤ a0.toInt ∧ a0.toInt ≤ 10) (hn : 11 - a0.toInt ≤ n + 1) : wT_X3_part r_X3_part t0 a0 S (fun S1 => Rx (-1) (vw t0 tk pg sc S) (vw t0 tk pg sc S1) ∧ TY ((exo t)) (vw t0 tk pg sc S1)) := by
  have nS : FX [] S S := FX_rf
  have PS : Rx 0 (vw t0 tk pg sc S) (vw t0 tk pg sc S) := Rx_rf
  have yS := hT_S
  unfold wT_X3_part
  have j39 : ∀ (x0 : Nat) (x1 : Int32) (x2 : Int32) (y0 : Int32) (Sx : kS), ((FX [] S Sx) ∧ (S = Sx ∧ t0 = x0 ∧ a0 = x1 ∧ (y0 = 0 ∨ y0 = 1) ∧ (y0 ≠ 0 → NZ (vw t0 tk pg sc S)) ∧ x2.toInt = (vw t0 tk pg sc S).2 64 ((vw t0 tk pg sc S).1 6).toNat)) → wT_X3_part_39 r_X3_part (fun S1 => Rx (-1) (vw t0 tk pg sc S) (vw t0 tk pg sc S1) ∧ TY ((exo t)) (vw t0 tk pg sc S1)) x0 x1 x2 y0 Sx := by
    intro x0 x1 x2 y0 Sx hJ39
    obtain ⟨nSx, hJ39⟩ := hJ39
    unfold wT_X3_part_39
    obtain ⟨rfl, hJ39⟩ := hJ39
    obtain ⟨rfl, hJ39⟩ := hJ39
    obtain ⟨rfl, hJ39⟩ := hJ39
    refine ⟨fun c1 => ?_, fun c1 => ?_⟩
    · unfold wT_X3_part_50
      refine ⟨fun c2 => ?_, fun c2 => ?_⟩
      · unfold wT_X3_part_60
        refine kmT_X3_wrong _ _ _ _ _ (fun S34 hF3 pS34 => ?_) (sr_X3_wrong (tk := tk) (pg := pg) (sc := sc) _ _ (INJ_x nS (by decide) hI) (ob_h nS (by decide) hO14_t0) (ob_h nS (by decide) hO15_t0) (ob_h nS (by decide) hO16_t0) (Rx_g PS hG_S) ((by decide)))
        have nS34 : FX [] S S34 := FX_k hF3 (by decide) nS
        have PS34 := Rx_tr hG_S PS pS34.1
        have fS34 : (vw t0 tk pg sc S34).1 7 ≠ 0 := pS34.2
        clear hF3
        exact ⟨Rx_m PS34 (by decide), (fun q => absurd q fS34)⟩
      · unfold wT_X3_part_60
        refine kmT_X3_wrong _ _ _ _ _ (fun S34 hF4 pS34 => ?_) (sr_X3_wrong (tk := tk) (pg := pg) (sc := sc) _ _ (INJ_x nS (by decide) hI) (ob_h nS (by decide) hO14_t0) (ob_h nS (by decide) hO15_t0) (ob_h nS (by decide) hO16_t0) (Rx_g PS hG_S) ((by decide)))
        have nS34 : FX [] S S34 := FX_k hF4 (by decide) nS
        have PS34 := Rx_tr hG_S PS pS34.1
        have fS34 : (vw t0 tk pg sc S34).1 7 ≠ 0 := pS34.2
        clear hF4
        exact ⟨Rx_m PS34 (by decide), (fun q => absurd q fS34)⟩
    · refine ⟨fun c5 => ?_, fun c5 => ?_⟩
      · refine ⟨fun c6 => ?_, fun c6 => ?_⟩
        · intro z10 ez10
          intro q11 eq11
          obtain rfl := ob_q nS (by decide) hO14_t0 ez10 eq11
          intro z12 ez12
          intro z13 ez13
          have dz13 : 0 ≤ z13.toInt ∧ z13.toInt ≤ 4001 := by rw [ez13]; exact ⟨(Rx_g PS hG_S).1.1, (Rx_g PS hG_S).1.2.1⟩
          intro q14 eq14
          have wq14 := rd_w nS (by decide) ez12 eq14
          refine ⟨by (try clear j39); grind [NZ, k_ii, k_ir, k_ri, k_rr, k_ai, k_ar, k_li, k_lr, k_qi, k_qr, ar_ci, ar_cl, ar_cq, la_ci, la_ca, la_cq, qa_ci, qa_ca, qa_cl, tk_link, kn4002], ?_⟩
          intro z15 ez15
          replace ez15 := ez15.trans (la_rd nS (by decide) (by decide) wq14)
          intro z16 ez16
          refine kmT_X3_step _ _ _ _ (fun S17 hF7 pS17 => ?_) (sr_X3_step (tk := tk) (pg := pg) (sc := sc) _ (INJ_x nS (by decide) hI) (ob_h nS (by decide) hO14_t0) (ob_h nS (by decide) hO15_t0) (ob_h nS (by decide) hO16_t0) (Rx_g PS hG_S) (by (try clear j39); grind [NZ, k_ii, k_ir, k_ri, k_rr, k_ai, k_ar, k_li, k_lr, k_qi, k_qr, ar_ci, ar_cl, ar_cq, la_ci, la_ca, la_cq, qa_ci, qa_ca, qa_cl, tk_link, kn4002]))
          have nS17 : FX [] S S17 := FX_k hF7 (by decide) nS
          have PS17 := Rx_tr hG_S PS pS17
          have yS17 := TY_r pS17 yS ((vw_k hF7 (INJ_x nS (by decide) hI) (by decide) (by decide)).1 17 (by decide)) ((vw_k hF7 (INJ_x nS (by decide) hI) (by decide) (by decide)).2 28 (by decide) (by decide))
          clear hF7
          refine ⟨fun c8 => ?_, fun c8 => ?_⟩
          · refine ⟨fun c9 => ?_, fun c9 => ?_⟩
            · refine ⟨fun c10 => ?_, fun c10 => ?_⟩
              · refine kmT_X3_emit _ _ _ _ _ _ (fun S21 r21 hF11 pS21 => ?_) (sr_X3_emit (tk := tk) (pg := pg) (sc := sc) _ _ _ (INJ_x nS17 (by decide) hI) (ob_h nS17 (by decide) hO14_t0) (ob_h nS17 (by decide) hO15_t0) (ob_h nS17 (by decide) hO16_t0) (Rx_g PS17 hG_S))
                have nS21 : FX [] S S21 := FX_k hF11 (by decide) nS17
                have iS21 : 0 ≤ r21.toInt ∧ r21.toInt ≤ 8063 := ⟨pS21.1, pS21.2.1⟩
                have PS21 := Rx_tr hG_S PS17 (EMr_R (Rx_g PS17 hG_S) (BG_r (c1 := 60) PS17 hB_S (by decide)) (by decide) pS21 (fun q => ACTn_s (by decide)))
                have uS21 : (vw t0 tk pg sc S21).1 6 = (vw t0 tk pg sc S17).1 6 ∧ ∀ i, (vw t0 tk pg sc S21).2 64 i = (vw t0 tk pg sc S17).2 64 i := ⟨(vw_k hF11 (INJ_x nS17 (by decide) hI) (by decide) (by decide)).1 6 (by decide), fun i => congrFun ((vw_k hF11 (INJ_x nS17 (by decide) hI) (by decide) (by decide)).2 64 (by decide) (by decide)) i⟩
                have yS21 : TY (exo t) (vw t0 tk pg sc S21) := EMr_T (Rx_g PS17 hG_S) (BG_r (c1 := 60) PS17 hB_S (by decide)) (by decide) pS21 yS17 (stp_st (by decide) (by decide) ht)
                clear hF11
                intro z22 ez22
                have hrz22 : -2147483648 ≤ a0.toInt + 1 ∧ a0.toInt + 1 < 2147483648 := by (try clear j39); grind [NZ, k_ii, k_ir, k_ri, k_rr, k_ai, k_ar, k_li, k_lr, k_qi, k_qr, ar_ci, ar_cl, ar_cq, la_ci, la_ca, la_cq, qa_ci, qa_ca, qa_cl, tk_link, kn4002]
                replace ez22 : z22.toInt = a0.toInt + 1 := w_add ez22 hrz22
                clear hrz22
                refine hf_X3_part _ _ _ _ _ (fun S23 hF12 pS23 => ?_) (hr_X3_part tk pg sc (exo t) _ _ _ (INJ_x nS21 (by decide) hI) (ob_h nS21 (by decide) hO14_t0) (ob_h nS21 (by decide) hO15_t0) (ob_h nS21 (by decide) hO16_t0) (Rx_g PS21 hG_S) (BG_r PS21 hB_S (by decide)) yS21 (exo_2 ht) (by (try clear j39); grind [NZ, k_ii, k_ir, k_ri, k_rr, k_ai, k_ar, k_li, k_lr, k_qi, k_qr, ar_ci, ar_cl, ar_cq, la_ci, la_ca, la_cq, qa_ci, qa_ca, qa_cl, tk_link, kn4002]) (by (try clear j39); grind [NZ, k_ii, k_ir, k_ri, k_rr, k_ai, k_ar, k_li, k_lr, k_qi, k_qr, ar_ci, ar_cl, ar_cq, la_ci, la_ca, la_cq, qa_ci, qa_ca, qa_cl, tk_link, kn4002]))
                have nS23 : FX [] S S23 := FX_k hF12 (by decide) nS21
                have PS23 := Rx_tr hG_S PS21 pS23.1
                have yS23 : TY (exo t) (vw t0 tk pg sc S23) := TY_e pS23.2 exo_x
                clear hF12
                refine kmT_X3_emit _ _ _ _ _ _ (fun S24 r24 hF13 pS24 => ?_) (sr_X3_emit (tk := tk) (pg := pg) (sc := sc) _ _ _ (INJ_x nS23 (by decide) hI) (ob_h nS23 (by decide) hO14_t0) (ob_h nS23 (by decide) hO15_t0) (ob_h nS23 (by decide) hO16_t0) (Rx_g PS23 hG_S))
                have nS24 : FX [] S S24 := FX_k hF13 (by decide) nS23
                have iS24 : 0 ≤ r24.toInt ∧ r24.toInt ≤ 8063 := ⟨pS24.1, pS24.2.1⟩
                have PS24 := Rx_tr hG_S PS23 (EMr_R (Rx_g PS23 hG_S) (BG_r (c1 := 60) PS23 hB_S (by decide)) (by decide) pS24 (fun q => ACTn_s (by decide)))
                have uS24 : (vw t0 tk pg sc S24).1 6 = (vw t0 tk pg sc S23).1 6 ∧ ∀ i, (vw t0 tk pg sc S24).2 64 i = (vw t0 tk pg sc S23).2 64 i := ⟨(vw_k hF13 (INJ_x nS23 (by decide) hI) (by decide) (by decide)).1 6 (by decide), fun i => congrFun ((vw_k hF13 (INJ_x nS23 (by decide) hI) (by decide) (by decide)).2 64 (by decide) (by decide)) i⟩
                have yS24 : TY (exo t) (vw t0 tk pg sc S24) := EMr_T (Rx_g PS23 hG_S) (BG_r (c1 := 60) PS23 hB_S (by decide)) (by decide) pS24 yS23 (stp_op (by decide) (by decide) (exo_2 ht))
                clear hF13
                exact ⟨Rx_m PS24 (by decide), yS24⟩
              · refine kmT_X3_emit _ _ _ _ _ _ (fun S25 r25 hF14 pS25 => ?_) (sr_X3_emit (tk := tk) (pg := pg) (sc := sc) _ _ _ (INJ_x nS17 (by decide) hI) (ob_h nS17 (by decide) hO14_t0) (ob_h nS17 (by decide) hO15_t0) (ob_h nS17 (by decide) hO16_t0) (Rx_g PS17 hG_S))
                have nS25 : FX [] S S25 := FX_k hF14 (by decide) nS17
                have iS25 : 0 ≤ r25.toInt ∧ r25.toInt ≤ 8063 := ⟨pS25.1, pS25.2.1⟩
                have PS25 := Rx_tr hG_S PS17 (EMr_R (Rx_g PS17 hG_S) (BG_r (c1 := 60) PS17 hB_S (by decide)) (by decide) pS25 (fun q => ACTn_s (by decide)))
                have uS25 : (vw t0 tk pg sc S25).1 6 = (vw t0 tk pg sc S17).1 6 ∧ ∀ i, (vw t0 tk pg sc S25).2 64 i = (vw t0 tk pg sc S17).2 64 i := ⟨(vw_k hF14 (INJ_x nS17 (by decide) hI) (by decide) (by decide)).1 6 (by decide), fun i => congrFun ((vw_k hF14 (INJ_x nS17 (by decide) hI) (by decide) (by decide)).2 64 (by decide) (by decide)) i⟩
                have yS25 : TY (exo t) (vw t0 tk pg sc S25) := EMr_T (Rx_g PS17 hG_S) (BG_r (c1 := 60) PS17 hB_S (by decide)) (by decide) pS25 yS17 (stp_st (by decide) (by decide) ht)
                clear hF14
                intro z26 ez26
                have hrz26 : -2147483648 ≤ a0.toInt + 1 ∧ a0.toInt + 1 < 2147483648 := by (try clear j39); grind [NZ, k_ii, k_ir, k_ri, k_rr, k_ai, k_ar, k_li, k_lr, k_qi, k_qr, ar_ci, ar_cl, ar_cq, la_ci, la_ca, la_cq, qa_ci, qa_ca, qa_cl, tk_link, kn4002]
                replace ez26 : z26.toInt = a0.toInt + 1 := w_add ez26 hrz26
                clear hrz26
                refine kmT_X3_expression hf_X3_part _ _ _ _ _ (fun S27 hF15 pS27 => ?_) (sk_X3_expression hf_X3_part hr_X3_part (tk := tk) (pg := pg) (sc := sc) (t := exo t) _ _ (INJ_x nS25 (by decide) hI) (ob_h nS25 (by decide) hO14_t0) (ob_h nS25 (by decide) hO15_t0) (ob_h nS25 (by decide) hO16_t0) (Rx_g PS25 hG_S) (BG_r PS25 hB_S (by decide)) yS25 (exo_2 ht) (by (try clear j39); grind [NZ, k_ii, k_ir, k_ri, k_rr, k_ai, k_ar, k_li, k_lr, k_qi, k_qr, ar_ci, ar_cl, ar_cq, la_ci, la_ca, la_cq, qa_ci, qa_ca, qa_cl, tk_link, kn4002]) (by (try clear j39); grind [NZ, k_ii, k_ir, k_ri, k_rr, k_ai, k_ar, k_li, k_lr, k_qi, k_qr, ar_ci, ar_cl, ar_cq, la_ci, la_ca, la_cq, qa_ci, qa_ca, qa_cl, tk_link, kn4002]))
                have nS27 : FX [] S S27 := FX_k hF15 (by decide) nS25
                have PS27 := Rx_tr hG_S PS25 pS27.1
                have yS27 : TY (exo t) (vw t0 tk pg sc S27) := TY_e pS27.2 exo_x
                clear hF15
                refine kmT_X3_need _ _ _ _ _ (fun S28 hF16 pS28 => ?_) (sk_X3_need (tk := tk) (pg := pg) (sc := sc) _ _ (INJ_x nS27 (by decide) hI) (ob_h nS27 (by decide) hO14_t0) (ob_h nS27 (by decide) hO15_t0) (ob_h nS27 (by decide) hO16_t0) (Rx_g PS27 hG_S))
                have nS28 : FX [] S S28 := FX_k hF16 (by decide) nS27
                have PS28 := Rx_tr hG_S PS27 pS28
                have yS28 := TY_r pS28 yS27 ((vw_k hF16 (INJ_x nS27 (by decide) hI) (by decide) (by decide)).1 17 (by decide)) ((vw_k hF16 (INJ_x nS27 (by decide) hI) (by decide) (by decide)).2 28 (by decide) (by decide))
                clear hF16
                exact ⟨Rx_m PS28 (by decide), yS28⟩
            · refine kmT_X3_emit _ _ _ _ _ _ (fun S29 r29 hF17 pS29 => ?_) (sr_X3_emit (tk := tk) (pg := pg) (sc := sc) _ _ _ (INJ_x nS17 (by decide) hI) (ob_h nS17 (by decide) hO14_t0) (ob_h nS17 (by decide) hO15_t0) (ob_h nS17 (by decide) hO16_t0) (Rx_g PS17 hG_S))
              have nS29 : FX [] S S29 := FX_k hF17 (by decide) nS17
              have iS29 : 0 ≤ r29.toInt ∧ r29.toInt ≤ 8063 := ⟨pS29.1, pS29.2.1⟩
              have PS29 := Rx_tr hG_S PS17 (EMr_R (Rx_g PS17 hG_S) (BG_r (c1 := 60) PS17 hB_S (by decide)) (by decide) pS29 (fun q => ACTn_s (by decide)))
              have uS29 : (vw t0 tk pg sc S29).1 6 = (vw t0 tk pg sc S17).1 6 ∧ ∀ i, (vw t0 tk pg sc S29).2 64 i = (vw t0 tk pg sc S17).2 64 i := ⟨(vw_k hF17 (INJ_x nS17 (by decide) hI) (by decide) (by decide)).1 6 (by decide), fun i => congrFun ((vw_k hF17 (INJ_x nS17 (by decide) hI) (by decide) (by decide)).2 64 (by decide) (by decide)) i⟩
              have yS29 : TY (exo t) (vw t0 tk pg sc S29) := EMr_T (Rx_g PS17 hG_S) (BG_r (c1 := 60) PS17 hB_S (by decide)) (by decide) pS29 yS17 (stp_st (by decide) (by decide) ht)
              clear hF17
              exact ⟨Rx_m PS29 (by decide), yS29⟩
          · refine kmT_X3_emit _ _ _ _ _ _ (fun S30 r30 hF18 pS30 => ?_) (sr_X3_emit (tk := tk) (pg := pg) (sc := sc) _ _ _ (INJ_x nS17 (by decide) hI) (ob_h nS17 (by decide) hO14_t0) (ob_h nS17 (by decide) hO15_t0) (ob_h nS17 (by decide) hO16_t0) (Rx_g PS17 hG_S))
            have nS30 : FX [] S S30 := FX_k hF18 (by decide) nS17
            have iS30 : 0 ≤ r30.toInt ∧ r30.toInt ≤ 8063 := ⟨pS30.1, pS30.2.1⟩
            have PS30 := Rx_tr hG_S PS17 (EMr_R (Rx_g PS17 hG_S) (BG_r (c1 := 60) PS17 hB_S (by decide)) (by decide) pS30 (fun q => ACTn_s (by decide)))
            have uS30 : (vw t0 tk pg sc S30).1 6 = (vw t0 tk pg sc S17).1 6 ∧ ∀ i, (vw t0 tk pg sc S30).2 64 i = (vw t0 tk pg sc S17).2 64 i := ⟨(vw_k hF18 (INJ_x nS17 (by decide) hI) (by decide) (by decide)).1 6 (by decide), fun i => congrFun ((vw_k hF18 (INJ_x nS17 (by decide) hI) (by decide) (by decide)).2 64 (by decide) (by decide)) i⟩
            have yS30 : TY (exo t) (vw t0 tk pg sc S30) := EMr_T (Rx_g PS17 hG_S) (BG_r (c1 := 60) PS17 hB_S (by decide)) (by decide) pS30 yS17 (stp_st (by decide) (by decide) ht)
            clear hF18
            exact ⟨Rx_m PS30 (by decide), yS30⟩
        · refine kmT_X3_cellHere _ _ _ _ (fun S31 r31 hF19 pS31 => ?_) (sk_X3_cellHere (tk := tk) (pg := pg) (sc := sc) _ (INJ_x nS (by decide) hI) (ob_h nS (by decide) hO14_t0) (ob_h nS (by decide) hO15_t0) (ob_h nS (by decide) hO16_t0) (Rx_g PS hG_S))
          have nS31 : FX [] S S31 := FX_k hF19 (by decide) nS
          have PS31 := Rx_tr hG_S PS pS31.1
          have yS31 := TY_r pS31.1 yS ((vw_k hF19 (INJ_x nS (by decide) hI) (by decide) (by decide)).1 17 (by decide)) ((vw_k hF19 (INJ_x nS (by decide) hI) (by decide) (by decide)).2 28 (by decide) (by decide))
          clear hF19
          refine kmT_X3_emit _ _ _ _ _ _ (fun S32 r32 hF20 pS32 => ?_) (sr_X3_emit (tk := tk) (pg := pg) (sc := sc) _ _ _ (INJ_x nS31 (by decide) hI) (ob_h nS31 (by decide) hO14_t0) (ob_h nS31 (by decide) hO15_t0) (ob_h nS31 (by decide) hO16_t0) (Rx_g PS31 hG_S))
          have nS32 : FX [] S S32 := FX_k hF20 (by decide) nS31
          have iS32 : 0 ≤ r32.toInt ∧ r32.toInt ≤ 8063 := ⟨pS32.1, pS32.2.1⟩
          have PS32 := Rx_tr hG_S PS31 (EMr_R (Rx_g PS31 hG_S) (BG_r (c1 := 60) PS31 hB_S (by decide)) (by decide) pS32 (fun q => ACTn_s (by decide)))
          have uS32 : (vw t0 tk pg sc S32).1 6 = (vw t0 tk pg sc S31).1 6 ∧ ∀ i, (vw t0 tk pg sc S32).2 64 i = (vw t0 tk pg sc S31).2 64 i := ⟨(vw_k hF20 (INJ_x nS31 (by decide) hI) (by decide) (by decide)).1 6 (by decide), fun i => congrFun ((vw_k hF20 (INJ_x nS31 (by decide) hI) (by decide) (by decide)).2 64 (by decide) (by decide)) i⟩
          have yS32 : TY (exo t) (vw t0 tk pg sc S32) := EMr_T (Rx_g PS31 hG_S) (BG_r (c1 := 60) PS31 hB_S (by decide)) (by decide) pS32 yS31 (stp_st (by decide) (by decide) ht)
          clear hF20
          exact ⟨Rx_m PS32 (by decide), yS32⟩
      · unfold wT_X3_part_50
        refine ⟨fun c21 => ?_, fun c21 => ?_⟩
        · unfold wT_X3_part_60
          refine kmT_X3_wrong _ _ _ _ _ (fun S34 hF22 pS34 => ?_) (sr_X3_wrong (tk := tk) (pg := pg) (sc := sc) _ _ (INJ_x nS (by decide) hI) (ob_h nS (by decide) hO14_t0) (ob_h nS (by decide) hO15_t0) (ob_h nS (by decide) hO16_t0) (Rx_g PS hG_S) ((by decide)))
          have nS34 : FX [] S S34 := FX_k hF22 (by decide) nS
          have PS34 := Rx_tr hG_S PS pS34.1
          have fS34 : (vw t0 tk pg sc S34).1 7 ≠ 0 := pS34.2
          clear hF22
          exact ⟨Rx_m PS34 (by decide), (fun q => absurd q fS34)⟩
        · unfold wT_X3_part_60
          refine kmT_X3_wrong _ _ _ _ _ (fun S34 hF23 pS34 => ?_) (sr_X3_wrong (tk := tk) (pg := pg) (sc := sc) _ _ (INJ_x nS (by decide) hI) (ob_h nS (by decide) hO14_t0) (ob_h nS (by decide) hO15_t0) (ob_h nS (by decide) hO16_t0) (Rx_g PS hG_S) ((by decide)))
          have nS34 : FX [] S S34 := FX_k hF23 (by decide) nS
          have PS34 := Rx_tr hG_S PS pS34.1
          have fS34 : (vw t0 tk pg sc S34).1 7 ≠ 0 := pS34.2
          clear hF23
          exact ⟨Rx_m PS34 (by decide), (fun q => absurd q fS34)⟩
  refine kmT_X3_kind _ _ _ _ (fun S1 r1 hF24 pS1 => ?_) (sr_X3_kind (tk := tk) (pg := pg) (sc := sc) _ (INJ_x nS (by decide) hI) (ob_h nS (by decide) hO14_t0) (ob_h nS (by decide) hO15_t0) (ob_h nS (by decide) hO16_t0) (Rx_g PS hG_S))
  obtain ⟨rfl, pS1⟩ := pS1
  clear hF24
  refine ⟨fun c25 => ?_, fun c25 => ?_⟩
  · unfold wT_X3_part_34
    exact j39 _ _ _ _ _ (by (try clear j39); grind [NZ, k_ii, k_ir, k_ri, k_rr, k_ai, k_ar, k_li, k_lr, k_qi, k_qr, ar_ci, ar_cl, ar_cq, la_ci, la_ca, la_cq, qa_ci, qa_ca, qa_cl, tk_link, kn4002])
  · refine ⟨fun c26 => ?_, fun c26 => ?_⟩
    · unfold wT_X3_part_34
      exact j39 _ _ _ _ _ (by (try clear j39); grind [NZ, k_ii, k_ir, k_ri, k_rr, k_ai, k_ar, k_li, k_lr, k_qi, k_qr, ar_ci, ar_cl, ar_cq, la_ci, la_ca, la_cq, qa_ci, qa_ca, qa_cl, tk_link, kn4002])
    · refine ⟨fun c27 => ?_, fun c27 => ?_⟩
      · unfold wT_X3_part_34
        exact j39 _ _ _ _ _ (by (try clear j39); grind [NZ, k_ii, k_ir, k_ri, k_rr, k_ai, k_ar, k_li, k_lr, k_qi, k_qr, ar_ci, ar_cl, ar_cq, la_ci, la_ca, la_cq, qa_ci, qa_ca, qa_cl, tk_link, kn4002])
      · refine ⟨fun c28 => ?_, fun c28 => ?_⟩
        · unfold wT_X3_part_34
          exact j39 _ _ _ _ _ (by (try clear j39); grind [NZ, k_ii, k_ir, k_ri, k_rr, k_ai, k_ar, k_li, k_lr, k_qi, k_qr, ar_ci, ar_cl, ar_cq, la_ci, la_ca, la_cq, qa_ci, qa_ca, qa_cl, tk_link, kn4002])
        · refine ⟨fun c29 => ?_, fun c29 => ?_⟩
          · exact j39 _ _ _ _ _ (by (try clear j39); grind [NZ, k_ii, k_ir, k_ri, k_rr, k_ai, k_ar, k_li, k_lr, k_qi, k_qr, ar_ci, ar_cl, ar_cq, la_ci, la_ca, la_cq, qa_ci, qa_ca, qa_cl, tk_link, kn4002])
          · unfold wT_X3_part_34
            exact j39 _ _ _ _ _ (by (try clear j39); grind [NZ, k_ii, k_ir, k_ri, k_rr, k_ai, k_ar, k_li, k_lr, k_qi, k_qr, ar_ci, ar_cl, ar_cq, la_ci, la_ca, la_cq, qa_ci, qa_ca, qa_cl, tk_link, kn4002])
