
set_option maxHeartbeats 400000 in
theorem sk_X3_waitFor {n : Int} {r_X3_waitFor : Nat → Int32 → kS → (kS → Prop) → Prop} (hf_X3_waitFor : ∀ t0 : Nat, ∀ a0 : Int32, KmV [6, 7, 11, 17] [] [17, 18, 19, 28, 29, 30, 35] [20, 39] [] (r_X3_waitFor t0 a0)) (hr_X3_waitFor : ∀ (tk pg sc : Nat) (t0 : Nat) (a0 : Int32) (S : kS), INJ S → S.2.1 14 t0 = some tk → S.2.1 15 t0 = some pg → S.2.1 16 t0 = some sc → RG (vw t0 tk pg sc S) → BG 12 (vw t0 tk pg sc S) → TY ((2 * a0.toInt)) (vw t0 tk pg sc S) → (0 ≤ a0.toInt ∧ a0.toInt ≤ 10) → (11 - a0.toInt ≤ n) → r_X3_waitFor t0 a0 S (fun S1 => Rx (-1) (vw t0 tk pg sc S) (vw t0 tk pg sc S1) ∧ TY ((wo a0.toInt)) (vw t0 tk pg sc S1))) {tk pg sc : Nat} (t0 : Nat) (a0 : Int32) {S : kS} (hI : INJ S) (hO14_t0 : S.2.1 14 t0 = some tk) (hO15_t0 : S.2.1 15 t0 = some pg) (hO16_t0 : S.2.1 16 t0 = some sc) (hG_S : RG (vw t0 tk pg sc S)) (hB_S : BG 12 (vw t0 tk pg sc S)) (hT_S : TY ((2 * a0.toInt)) (vw t0 tk pg sc S)) (ha : 0 ≤ a0.toInt ∧ a0.toInt ≤ 10) (hn : 11 - a0.toInt ≤ n + 1) : wT_X3_waitFor r_X3_waitFor t0 a0 S (fun S1 => Rx (-1) (vw t0 tk pg sc S) (vw t0 tk pg sc S1) ∧ TY ((wo a0.toInt)) (vw t0 tk pg sc S1)) := by
  have nS : FX [] S S := FX_rf
  have PS : Rx 0 (vw t0 tk pg sc S) (vw t0 tk pg sc S) := Rx_rf
  have yS := hT_S
  unfold wT_X3_waitFor
  refine kmT_X3_kind _ _ _ _ (fun S1 r1 hF1 pS1 => ?_) (sr_X3_kind (tk := tk) (pg := pg) (sc := sc) _ (INJ_x nS (by decide) hI) (ob_h nS (by decide) hO14_t0) (ob_h nS (by decide) hO15_t0) (ob_h nS (by decide) hO16_t0) (Rx_g PS hG_S))
  obtain ⟨rfl, pS1⟩ := pS1
  clear hF1
  refine kmT_X3_startsWait _ _ _ _ (fun S2 r2 hF2 pS2 => ?_) (sk_X3_startsWait _ (INJ_x nS (by decide) hI) )
  obtain ⟨rfl, pS2⟩ := pS2
  clear hF2
  refine ⟨fun c3 => ?_, fun c3 => ?_⟩
  · refine ⟨fun c4 => ?_, fun c4 => ?_⟩
    · refine kmT_X3_step _ _ _ _ (fun S5 hF5 pS5 => ?_) (sr_X3_step (tk := tk) (pg := pg) (sc := sc) _ (INJ_x nS (by decide) hI) (ob_h nS (by decide) hO14_t0) (ob_h nS (by decide) hO15_t0) (ob_h nS (by decide) hO16_t0) (Rx_g PS hG_S) (by grind [NZ, k_ii, k_ir, k_ri, k_rr, k_ai, k_ar, k_li, k_lr, k_qi, k_qr, ar_ci, ar_cl, ar_cq, la_ci, la_ca, la_cq, qa_ci, qa_ca, qa_cl, tk_link, kn8064]))
      have nS5 : FX [] S S5 := FX_k hF5 (by decide) nS
      have PS5 := Rx_tr hG_S PS pS5
      have yS5 := TY_r pS5 yS ((vw_k hF5 (INJ_x nS (by decide) hI) (by decide) (by decide)).1 17 (by decide)) ((vw_k hF5 (INJ_x nS (by decide) hI) (by decide) (by decide)).2 28 (by decide) (by decide))
      clear hF5
      refine ⟨fun c6 => ?_, fun c6 => ?_⟩
      · refine kmT_X3_numberOf _ _ _ _ _ _ (fun S7 r7 hF7 pS7 => ?_) (sk_X3_numberOf (tk := tk) (pg := pg) (sc := sc) _ _ _ (INJ_x nS5 (by decide) hI) (ob_h nS5 (by decide) hO14_t0) (ob_h nS5 (by decide) hO15_t0) (ob_h nS5 (by decide) hO16_t0) (Rx_g PS5 hG_S) ((by decide)))
        have nS7 : FX [] S S7 := FX_k hF7 (by decide) nS5
        have PS7 := Rx_tr hG_S PS5 pS7.1
        have yS7 := TY_r pS7.1 yS5 ((vw_k hF7 (INJ_x nS5 (by decide) hI) (by decide) (by decide)).1 17 (by decide)) ((vw_k hF7 (INJ_x nS5 (by decide) hI) (by decide) (by decide)).2 28 (by decide) (by decide))
        clear hF7
        refine kmT_X3_emit _ _ _ _ _ _ (fun S8 r8 hF8 pS8 => ?_) (sr_X3_emit (tk := tk) (pg := pg) (sc := sc) _ _ _ (INJ_x nS7 (by decide) hI) (ob_h nS7 (by decide) hO14_t0) (ob_h nS7 (by decide) hO15_t0) (ob_h nS7 (by decide) hO16_t0) (Rx_g PS7 hG_S))
        have nS8 : FX [] S S8 := FX_k hF8 (by decide) nS7
        have iS8 : 0 ≤ r8.toInt ∧ r8.toInt ≤ 8063 := ⟨pS8.1, pS8.2.1⟩
        have PS8 := Rx_tr hG_S PS7 (EMr_R (Rx_g PS7 hG_S) (BG_r (c1 := 60) PS7 hB_S (by decide)) (by decide) pS8 ((fun q => ACTn_27 (by have := pS7.2; have e7 : (7 : Int32).toInt = 7 := rfl; have e0 : (0 : Int32).toInt = 0 := rfl; omega))))
        have uS8 : (vw t0 tk pg sc S8).1 6 = (vw t0 tk pg sc S7).1 6 ∧ ∀ i, (vw t0 tk pg sc S8).2 64 i = (vw t0 tk pg sc S7).2 64 i := ⟨(vw_k hF8 (INJ_x nS7 (by decide) hI) (by decide) (by decide)).1 6 (by decide), fun i => congrFun ((vw_k hF8 (INJ_x nS7 (by decide) hI) (by decide) (by decide)).2 64 (by decide) (by decide)) i⟩
        have yS8 : TY (wo a0.toInt) (vw t0 tk pg sc S8) := EMr_T (Rx_g PS7 hG_S) (BG_r (c1 := 60) PS7 hB_S (by decide)) (by decide) pS8 yS7 (s27 (by decide) (by grind [NZ, k_ii, k_ir, k_ri, k_rr, k_ai, k_ar, k_li, k_lr, k_qi, k_qr, ar_ci, ar_cl, ar_cq, la_ci, la_ca, la_cq, qa_ci, qa_ca, qa_cl, tk_link, kn8064]) (by grind [NZ, k_ii, k_ir, k_ri, k_rr, k_ai, k_ar, k_li, k_lr, k_qi, k_qr, ar_ci, ar_cl, ar_cq, la_ci, la_ca, la_cq, qa_ci, qa_ca, qa_cl, tk_link, kn8064]))
        clear hF8
        exact ⟨Rx_m PS8 (by decide), yS8⟩
      · refine ⟨fun c9 => ?_, fun c9 => ?_⟩
        · refine kmT_X3_emit _ _ _ _ _ _ (fun S10 r10 hF10 pS10 => ?_) (sr_X3_emit (tk := tk) (pg := pg) (sc := sc) _ _ _ (INJ_x nS5 (by decide) hI) (ob_h nS5 (by decide) hO14_t0) (ob_h nS5 (by decide) hO15_t0) (ob_h nS5 (by decide) hO16_t0) (Rx_g PS5 hG_S))
          have nS10 : FX [] S S10 := FX_k hF10 (by decide) nS5
          have iS10 : 0 ≤ r10.toInt ∧ r10.toInt ≤ 8063 := ⟨pS10.1, pS10.2.1⟩
          have PS10 := Rx_tr hG_S PS5 (EMr_R (Rx_g PS5 hG_S) (BG_r (c1 := 60) PS5 hB_S (by decide)) (by decide) pS10 (fun q => ACTn_s (by decide)))
          have uS10 : (vw t0 tk pg sc S10).1 6 = (vw t0 tk pg sc S5).1 6 ∧ ∀ i, (vw t0 tk pg sc S10).2 64 i = (vw t0 tk pg sc S5).2 64 i := ⟨(vw_k hF10 (INJ_x nS5 (by decide) hI) (by decide) (by decide)).1 6 (by decide), fun i => congrFun ((vw_k hF10 (INJ_x nS5 (by decide) hI) (by decide) (by decide)).2 64 (by decide) (by decide)) i⟩
          have yS10 : TY (2 * a0.toInt + 1) (vw t0 tk pg sc S10) := EMr_T (Rx_g PS5 hG_S) (BG_r (c1 := 60) PS5 hB_S (by decide)) (by decide) pS10 yS5 (s26 (by grind [NZ, k_ii, k_ir, k_ri, k_rr, k_ai, k_ar, k_li, k_lr, k_qi, k_qr, ar_ci, ar_cl, ar_cq, la_ci, la_ca, la_cq, qa_ci, qa_ca, qa_cl, tk_link, kn8064]) (by grind [NZ, k_ii, k_ir, k_ri, k_rr, k_ai, k_ar, k_li, k_lr, k_qi, k_qr, ar_ci, ar_cl, ar_cq, la_ci, la_ca, la_cq, qa_ci, qa_ca, qa_cl, tk_link, kn8064]))
          clear hF10
          refine kqT_X3_expression _ _ _ _ _ (fun S11 hF11 pS11 => ?_) (sq_X3_expression (tk := tk) (pg := pg) (sc := sc) (t := 2 * a0.toInt + 1) _ _ (INJ_x nS10 (by decide) hI) (ob_h nS10 (by decide) hO14_t0) (ob_h nS10 (by decide) hO15_t0) (ob_h nS10 (by decide) hO16_t0) (Rx_g PS10 hG_S) (BG_r PS10 hB_S (by decide)) yS10 (by grind [NZ, k_ii, k_ir, k_ri, k_rr, k_ai, k_ar, k_li, k_lr, k_qi, k_qr, ar_ci, ar_cl, ar_cq, la_ci, la_ca, la_cq, qa_ci, qa_ca, qa_cl, tk_link, kn8064]) ((by decide)))
          have nS11 : FX [] S S11 := FX_k hF11 (by decide) nS10
          have PS11 := Rx_tr hG_S PS10 pS11.1
          have yS11 : TY (2 * a0.toInt + 1) (vw t0 tk pg sc S11) := TY_e pS11.2 (exo_p (by grind [NZ, k_ii, k_ir, k_ri, k_rr, k_ai, k_ar, k_li, k_lr, k_qi, k_qr, ar_ci, ar_cl, ar_cq, la_ci, la_ca, la_cq, qa_ci, qa_ca, qa_cl, tk_link, kn8064]))
          clear hF11
          refine kmT_X3_emit _ _ _ _ _ _ (fun S12 r12 hF12 pS12 => ?_) (sr_X3_emit (tk := tk) (pg := pg) (sc := sc) _ _ _ (INJ_x nS11 (by decide) hI) (ob_h nS11 (by decide) hO14_t0) (ob_h nS11 (by decide) hO15_t0) (ob_h nS11 (by decide) hO16_t0) (Rx_g PS11 hG_S))
          have nS12 : FX [] S S12 := FX_k hF12 (by decide) nS11
          have iS12 : 0 ≤ r12.toInt ∧ r12.toInt ≤ 8063 := ⟨pS12.1, pS12.2.1⟩
          have PS12 := Rx_tr hG_S PS11 (EMr_R (Rx_g PS11 hG_S) (BG_r (c1 := 60) PS11 hB_S (by decide)) (by decide) pS12 (fun q => ACTn_s (by decide)))
          have uS12 : (vw t0 tk pg sc S12).1 6 = (vw t0 tk pg sc S11).1 6 ∧ ∀ i, (vw t0 tk pg sc S12).2 64 i = (vw t0 tk pg sc S11).2 64 i := ⟨(vw_k hF12 (INJ_x nS11 (by decide) hI) (by decide) (by decide)).1 6 (by decide), fun i => congrFun ((vw_k hF12 (INJ_x nS11 (by decide) hI) (by decide) (by decide)).2 64 (by decide) (by decide)) i⟩
          have yS12 : TY (wo a0.toInt) (vw t0 tk pg sc S12) := EMr_T (Rx_g PS11 hG_S) (BG_r (c1 := 60) PS11 hB_S (by decide)) (by decide) pS12 yS11 (s28 (by decide) (by grind [NZ, k_ii, k_ir, k_ri, k_rr, k_ai, k_ar, k_li, k_lr, k_qi, k_qr, ar_ci, ar_cl, ar_cq, la_ci, la_ca, la_cq, qa_ci, qa_ca, qa_cl, tk_link, kn8064]) (by grind [NZ, k_ii, k_ir, k_ri, k_rr, k_ai, k_ar, k_li, k_lr, k_qi, k_qr, ar_ci, ar_cl, ar_cq, la_ci, la_ca, la_cq, qa_ci, qa_ca, qa_cl, tk_link, kn8064]))
          clear hF12
          exact ⟨Rx_m PS12 (by decide), yS12⟩
        · refine ⟨fun c13 => ?_, fun c13 => ?_⟩
          · refine kmT_X3_emit _ _ _ _ _ _ (fun S14 r14 hF14 pS14 => ?_) (sr_X3_emit (tk := tk) (pg := pg) (sc := sc) _ _ _ (INJ_x nS5 (by decide) hI) (ob_h nS5 (by decide) hO14_t0) (ob_h nS5 (by decide) hO15_t0) (ob_h nS5 (by decide) hO16_t0) (Rx_g PS5 hG_S))
            have nS14 : FX [] S S14 := FX_k hF14 (by decide) nS5
            have iS14 : 0 ≤ r14.toInt ∧ r14.toInt ≤ 8063 := ⟨pS14.1, pS14.2.1⟩
            have PS14 := Rx_tr hG_S PS5 (EMr_R (Rx_g PS5 hG_S) (BG_r (c1 := 60) PS5 hB_S (by decide)) (by decide) pS14 (fun q => ACTn_s (by decide)))
            have uS14 : (vw t0 tk pg sc S14).1 6 = (vw t0 tk pg sc S5).1 6 ∧ ∀ i, (vw t0 tk pg sc S14).2 64 i = (vw t0 tk pg sc S5).2 64 i := ⟨(vw_k hF14 (INJ_x nS5 (by decide) hI) (by decide) (by decide)).1 6 (by decide), fun i => congrFun ((vw_k hF14 (INJ_x nS5 (by decide) hI) (by decide) (by decide)).2 64 (by decide) (by decide)) i⟩
            have yS14 : TY (wo a0.toInt) (vw t0 tk pg sc S14) := EMr_T (Rx_g PS5 hG_S) (BG_r (c1 := 60) PS5 hB_S (by decide)) (by decide) pS14 yS5 (s27 (by decide) (by grind [NZ, k_ii, k_ir, k_ri, k_rr, k_ai, k_ar, k_li, k_lr, k_qi, k_qr, ar_ci, ar_cl, ar_cq, la_ci, la_ca, la_cq, qa_ci, qa_ca, qa_cl, tk_link, kn8064]) (by grind [NZ, k_ii, k_ir, k_ri, k_rr, k_ai, k_ar, k_li, k_lr, k_qi, k_qr, ar_ci, ar_cl, ar_cq, la_ci, la_ca, la_cq, qa_ci, qa_ca, qa_cl, tk_link, kn8064]))
            clear hF14
            exact ⟨Rx_m PS14 (by decide), yS14⟩
          · refine ⟨fun c15 => ?_, fun c15 => ?_⟩
            · refine kmT_X3_emit _ _ _ _ _ _ (fun S16 r16 hF16 pS16 => ?_) (sr_X3_emit (tk := tk) (pg := pg) (sc := sc) _ _ _ (INJ_x nS5 (by decide) hI) (ob_h nS5 (by decide) hO14_t0) (ob_h nS5 (by decide) hO15_t0) (ob_h nS5 (by decide) hO16_t0) (Rx_g PS5 hG_S))
              have nS16 : FX [] S S16 := FX_k hF16 (by decide) nS5
              have iS16 : 0 ≤ r16.toInt ∧ r16.toInt ≤ 8063 := ⟨pS16.1, pS16.2.1⟩
              have PS16 := Rx_tr hG_S PS5 (EMr_R (Rx_g PS5 hG_S) (BG_r (c1 := 60) PS5 hB_S (by decide)) (by decide) pS16 (fun q => ACTn_s (by decide)))
              have uS16 : (vw t0 tk pg sc S16).1 6 = (vw t0 tk pg sc S5).1 6 ∧ ∀ i, (vw t0 tk pg sc S16).2 64 i = (vw t0 tk pg sc S5).2 64 i := ⟨(vw_k hF16 (INJ_x nS5 (by decide) hI) (by decide) (by decide)).1 6 (by decide), fun i => congrFun ((vw_k hF16 (INJ_x nS5 (by decide) hI) (by decide) (by decide)).2 64 (by decide) (by decide)) i⟩
              have yS16 : TY (2 * a0.toInt + 1) (vw t0 tk pg sc S16) := EMr_T (Rx_g PS5 hG_S) (BG_r (c1 := 60) PS5 hB_S (by decide)) (by decide) pS16 yS5 (s26 (by grind [NZ, k_ii, k_ir, k_ri, k_rr, k_ai, k_ar, k_li, k_lr, k_qi, k_qr, ar_ci, ar_cl, ar_cq, la_ci, la_ca, la_cq, qa_ci, qa_ca, qa_cl, tk_link, kn8064]) (by grind [NZ, k_ii, k_ir, k_ri, k_rr, k_ai, k_ar, k_li, k_lr, k_qi, k_qr, ar_ci, ar_cl, ar_cq, la_ci, la_ca, la_cq, qa_ci, qa_ca, qa_cl, tk_link, kn8064]))
              clear hF16
              intro z17 ez17
              have dz17 : 0 ≤ z17.toInt ∧ z17.toInt ≤ 4001 := by rw [ez17]; exact ⟨(Rx_g PS16 hG_S).1.1, (Rx_g PS16 hG_S).1.2.1⟩
              refine kmT_X3_need _ _ _ _ _ (fun S18 hF17 pS18 => ?_) (sk_X3_need (tk := tk) (pg := pg) (sc := sc) _ _ (INJ_x nS16 (by decide) hI) (ob_h nS16 (by decide) hO14_t0) (ob_h nS16 (by decide) hO15_t0) (ob_h nS16 (by decide) hO16_t0) (Rx_g PS16 hG_S))
              have nS18 : FX [] S S18 := FX_k hF17 (by decide) nS16
              have PS18 := Rx_tr hG_S PS16 pS18
              have yS18 := TY_r pS18 yS16 ((vw_k hF17 (INJ_x nS16 (by decide) hI) (by decide) (by decide)).1 17 (by decide)) ((vw_k hF17 (INJ_x nS16 (by decide) hI) (by decide) (by decide)).2 28 (by decide) (by decide))
              clear hF17
              refine kmT_X3_listed hf_X3_waitFor _ _ _ _ _ _ (fun S19 r19 hF18 pS19 => ?_) (sk_X3_listed hf_X3_waitFor hr_X3_waitFor (tk := tk) (pg := pg) (sc := sc) (t := 2 * a0.toInt + 1) _ _ _ (INJ_x nS18 (by decide) hI) (ob_h nS18 (by decide) hO14_t0) (ob_h nS18 (by decide) hO15_t0) (ob_h nS18 (by decide) hO16_t0) (Rx_g PS18 hG_S) (BG_r PS18 hB_S (by decide)) yS18 (by grind [NZ, k_ii, k_ir, k_ri, k_rr, k_ai, k_ar, k_li, k_lr, k_qi, k_qr, ar_ci, ar_cl, ar_cq, la_ci, la_ca, la_cq, qa_ci, qa_ca, qa_cl, tk_link, kn8064]) (by grind [NZ, k_ii, k_ir, k_ri, k_rr, k_ai, k_ar, k_li, k_lr, k_qi, k_qr, ar_ci, ar_cl, ar_cq, la_ci, la_ca, la_cq, qa_ci, qa_ca, qa_cl, tk_link, kn8064]) ((Or.inl rfl)) (by grind [NZ, k_ii, k_ir, k_ri, k_rr, k_ai, k_ar, k_li, k_lr, k_qi, k_qr, ar_ci, ar_cl, ar_cq, la_ci, la_ca, la_cq, qa_ci, qa_ca, qa_cl, tk_link, kn8064]))
              have nS19 : FX [] S S19 := FX_k hF18 (by decide) nS18
              have PS19 := Rx_tr hG_S PS18 pS19.1
              have yS19 := pS19.2
              clear hF18
              refine kmT_X3_emit _ _ _ _ _ _ (fun S20 r20 hF19 pS20 => ?_) (sr_X3_emit (tk := tk) (pg := pg) (sc := sc) _ _ _ (INJ_x nS19 (by decide) hI) (ob_h nS19 (by decide) hO14_t0) (ob_h nS19 (by decide) hO15_t0) (ob_h nS19 (by decide) hO16_t0) (Rx_g PS19 hG_S))
              have nS20 : FX [] S S20 := FX_k hF19 (by decide) nS19
              have iS20 : 0 ≤ r20.toInt ∧ r20.toInt ≤ 8063 := ⟨pS20.1, pS20.2.1⟩
              have PS20 := Rx_tr hG_S PS19 (EMr_R (Rx_g PS19 hG_S) (BG_r (c1 := 60) PS19 hB_S (by decide)) (by decide) pS20 ((fun q => ACTn_30 (by decide))))
              have uS20 : (vw t0 tk pg sc S20).1 6 = (vw t0 tk pg sc S19).1 6 ∧ ∀ i, (vw t0 tk pg sc S20).2 64 i = (vw t0 tk pg sc S19).2 64 i := ⟨(vw_k hF19 (INJ_x nS19 (by decide) hI) (by decide) (by decide)).1 6 (by decide), fun i => congrFun ((vw_k hF19 (INJ_x nS19 (by decide) hI) (by decide) (by decide)).2 64 (by decide) (by decide)) i⟩
              have yS20 : TY (wo a0.toInt) (vw t0 tk pg sc S20) := EMr_T (Rx_g PS19 hG_S) (BG_r (c1 := 60) PS19 hB_S (by decide)) (by decide) pS20 yS19 (s28 (by decide) (by grind [NZ, k_ii, k_ir, k_ri, k_rr, k_ai, k_ar, k_li, k_lr, k_qi, k_qr, ar_ci, ar_cl, ar_cq, la_ci, la_ca, la_cq, qa_ci, qa_ca, qa_cl, tk_link, kn8064]) (by grind [NZ, k_ii, k_ir, k_ri, k_rr, k_ai, k_ar, k_li, k_lr, k_qi, k_qr, ar_ci, ar_cl, ar_cq, la_ci, la_ca, la_cq, qa_ci, qa_ca, qa_cl, tk_link, kn8064]))
              clear hF19
              refine kmT_X3_keepChild _ _ _ _ _ _ _ (fun S21 hF20 pS21 => ?_) (sr_X3_keepChild (tk := tk) (pg := pg) (sc := sc) _ _ _ _ (INJ_x nS20 (by decide) hI) (ob_h nS20 (by decide) hO14_t0) (ob_h nS20 (by decide) hO15_t0) (ob_h nS20 (by decide) hO16_t0) (Rx_g PS20 hG_S) (by grind [NZ, k_ii, k_ir, k_ri, k_rr, k_ai, k_ar, k_li, k_lr, k_qi, k_qr, ar_ci, ar_cl, ar_cq, la_ci, la_ca, la_cq, qa_ci, qa_ca, qa_cl, tk_link, kn8064]) (⟨pS20.1, pS20.2.1⟩) ((fun q => EMr_o (Rx_g PS19 hG_S) (BG_r (c1 := 60) PS19 hB_S (by decide)) (by decide) pS20 q)))
              have nS21 : FX [] S S21 := FX_k hF20 (by decide) nS20
              have PS21 := Rx_tr hG_S PS20 pS21
              have uS21 : (vw t0 tk pg sc S21).1 6 = (vw t0 tk pg sc S20).1 6 ∧ ∀ i, (vw t0 tk pg sc S21).2 64 i = (vw t0 tk pg sc S20).2 64 i := ⟨(vw_k hF20 (INJ_x nS20 (by decide) hI) (by decide) (by decide)).1 6 (by decide), fun i => congrFun ((vw_k hF20 (INJ_x nS20 (by decide) hI) (by decide) (by decide)).2 64 (by decide) (by decide)) i⟩
              have yS21 := TY_r pS21 yS20 ((vw_k hF20 (INJ_x nS20 (by decide) hI) (by decide) (by decide)).1 17 (by decide)) ((vw_k hF20 (INJ_x nS20 (by decide) hI) (by decide) (by decide)).2 28 (by decide) (by decide))
              clear hF20
              exact ⟨Rx_m PS21 (by decide), yS21⟩
            · refine ⟨fun c21 => ?_, fun c21 => ?_⟩
              · refine ⟨fun c22 => ?_, fun c22 => ?_⟩
                · unfold wT_X3_waitFor_225
                  refine kmT_X3_emit _ _ _ _ _ _ (fun S36 r36 hF23 pS36 => ?_) (sr_X3_emit (tk := tk) (pg := pg) (sc := sc) _ _ _ (INJ_x nS5 (by decide) hI) (ob_h nS5 (by decide) hO14_t0) (ob_h nS5 (by decide) hO15_t0) (ob_h nS5 (by decide) hO16_t0) (Rx_g PS5 hG_S))
                  have nS36 : FX [] S S36 := FX_k hF23 (by decide) nS5
                  have iS36 : 0 ≤ r36.toInt ∧ r36.toInt ≤ 8063 := ⟨pS36.1, pS36.2.1⟩
                  clear hF23
                  have hG_S36 : RG (vw t0 tk pg sc S36) := EMr_g pS36 (Rx_g PS5 hG_S)
                  have hB_S36 : BG 12 (vw t0 tk pg sc S36) := EMr_B (Rx_g PS5 hG_S) (BG_r (c1 := 11) PS5 hB_S (by decide)) (by decide) pS36 (by decide)
                  have yS36 : TY (2 * (a0.toInt + 1)) (vw t0 tk pg sc S36) := EMr_T (Rx_g PS5 hG_S) (BG_r (c1 := 60) PS5 hB_S (by decide)) (by decide) pS36 yS5 (s31 (by decide) (by grind [NZ, k_ii, k_ir, k_ri, k_rr, k_ai, k_ar, k_li, k_lr, k_qi, k_qr, ar_ci, ar_cl, ar_cq, la_ci, la_ca, la_cq, qa_ci, qa_ca, qa_cl, tk_link, kn8064]) (by grind [NZ, k_ii, k_ir, k_ri, k_rr, k_ai, k_ar, k_li, k_lr, k_qi, k_qr, ar_ci, ar_cl, ar_cq, la_ci, la_ca, la_cq, qa_ci, qa_ca, qa_cl, tk_link, kn8064]))
                  have PS36 : Rx 0 (vw t0 tk pg sc S36) (vw t0 tk pg sc S36) := Rx_rf
                  intro z37 ez37
                  refine ⟨pg, ob_e nS36 (by decide) hO15_t0 ez37, ?_⟩
                  intro z39 ez39
                  refine kmT_X3_listed hf_X3_waitFor _ _ _ _ _ _ (fun S40 r40 hF24 pS40 => ?_) (sk_X3_listed hf_X3_waitFor hr_X3_waitFor (tk := tk) (pg := pg) (sc := sc) (t := (2 * (a0.toInt + 1))) _ _ _ (INJ_x nS36 (by decide) hI) (ob_h nS36 (by decide) hO14_t0) (ob_h nS36 (by decide) hO15_t0) (ob_h nS36 (by decide) hO16_t0) (Rx_g PS36 hG_S36) (BG_r PS36 hB_S36 (by decide)) yS36 (by grind [NZ, k_ii, k_ir, k_ri, k_rr, k_ai, k_ar, k_li, k_lr, k_qi, k_qr, ar_ci, ar_cl, ar_cq, la_ci, la_ca, la_cq, qa_ci, qa_ca, qa_cl, tk_link, kn8064]) (by grind [NZ, k_ii, k_ir, k_ri, k_rr, k_ai, k_ar, k_li, k_lr, k_qi, k_qr, ar_ci, ar_cl, ar_cq, la_ci, la_ca, la_cq, qa_ci, qa_ca, qa_cl, tk_link, kn8064]) ((Or.inr ⟨by decide, rfl⟩)) (by grind [NZ, k_ii, k_ir, k_ri, k_rr, k_ai, k_ar, k_li, k_lr, k_qi, k_qr, ar_ci, ar_cl, ar_cq, la_ci, la_ca, la_cq, qa_ci, qa_ca, qa_cl, tk_link, kn8064]))
                  have nS40 : FX [] S S40 := FX_k hF24 (by decide) nS36
                  have PS40 := Rx_tr hG_S36 PS36 pS40.1
                  have yS40 := pS40.2
                  clear hF24
                  intro q41 eq41
                  have wq41 := rd_w nS36 (by decide) ez39 eq41
                  refine ⟨by grind [NZ, k_ii, k_ir, k_ri, k_rr, k_ai, k_ar, k_li, k_lr, k_qi, k_qr, ar_ci, ar_cl, ar_cq, la_ci, la_ca, la_cq, qa_ci, qa_ca, qa_cl, tk_link, kn8064], ?_⟩
                  intro S42 eS42
                  have nS42 : FX [] S S42 := FX_a eS42 nS40
                  have arS42 := ar_wr hI nS40 (by decide) (by decide) wq41 eS42
                  have tS42 := PT_of (t0 := t0) (tk := tk) (pg := pg) (sc := sc) eS42 arS42 pS36.1
                  have PS42 := Rx_pt hG_S PS5 (BG_r (c1 := 60) PS5 hB_S (by decide)) (by decide) pS36 PS40 tS42 (fun _ q _ _ => ACT_s q (by decide))
                  have yS42 := TY_pt tS42 yS40
                  refine kmT_X3_emit _ _ _ _ _ _ (fun S43 r43 hF25 pS43 => ?_) (sr_X3_emit (tk := tk) (pg := pg) (sc := sc) _ _ _ (INJ_x nS42 (by decide) hI) (ob_h nS42 (by decide) hO14_t0) (ob_h nS42 (by decide) hO15_t0) (ob_h nS42 (by decide) hO16_t0) (Rx_g PS42 hG_S))
                  have nS43 : FX [] S S43 := FX_k hF25 (by decide) nS42
                  have iS43 : 0 ≤ r43.toInt ∧ r43.toInt ≤ 8063 := ⟨pS43.1, pS43.2.1⟩
                  have PS43 := Rx_tr hG_S PS42 (EMr_R (Rx_g PS42 hG_S) (BG_r (c1 := 60) PS42 hB_S (by decide)) (by decide) pS43 (fun q => ACTn_s (by decide)))
                  have uS43 : (vw t0 tk pg sc S43).1 6 = (vw t0 tk pg sc S42).1 6 ∧ ∀ i, (vw t0 tk pg sc S43).2 64 i = (vw t0 tk pg sc S42).2 64 i := ⟨(vw_k hF25 (INJ_x nS42 (by decide) hI) (by decide) (by decide)).1 6 (by decide), fun i => congrFun ((vw_k hF25 (INJ_x nS42 (by decide) hI) (by decide) (by decide)).2 64 (by decide) (by decide)) i⟩
                  have yS43 : TY (wo a0.toInt) (vw t0 tk pg sc S43) := EMr_T (Rx_g PS42 hG_S) (BG_r (c1 := 60) PS42 hB_S (by decide)) (by decide) pS43 yS42 (s34 (by grind [NZ, k_ii, k_ir, k_ri, k_rr, k_ai, k_ar, k_li, k_lr, k_qi, k_qr, ar_ci, ar_cl, ar_cq, la_ci, la_ca, la_cq, qa_ci, qa_ca, qa_cl, tk_link, kn8064]) (by grind [NZ, k_ii, k_ir, k_ri, k_rr, k_ai, k_ar, k_li, k_lr, k_qi, k_qr, ar_ci, ar_cl, ar_cq, la_ci, la_ca, la_cq, qa_ci, qa_ca, qa_cl, tk_link, kn8064]))
                  clear hF25
                  exact ⟨Rx_m PS43 (by decide), yS43⟩
                · unfold wT_X3_waitFor_225
                  refine kmT_X3_emit _ _ _ _ _ _ (fun S36 r36 hF26 pS36 => ?_) (sr_X3_emit (tk := tk) (pg := pg) (sc := sc) _ _ _ (INJ_x nS5 (by decide) hI) (ob_h nS5 (by decide) hO14_t0) (ob_h nS5 (by decide) hO15_t0) (ob_h nS5 (by decide) hO16_t0) (Rx_g PS5 hG_S))
                  have nS36 : FX [] S S36 := FX_k hF26 (by decide) nS5
                  have iS36 : 0 ≤ r36.toInt ∧ r36.toInt ≤ 8063 := ⟨pS36.1, pS36.2.1⟩
                  clear hF26
                  have hG_S36 : RG (vw t0 tk pg sc S36) := EMr_g pS36 (Rx_g PS5 hG_S)
                  have hB_S36 : BG 12 (vw t0 tk pg sc S36) := EMr_B (Rx_g PS5 hG_S) (BG_r (c1 := 11) PS5 hB_S (by decide)) (by decide) pS36 (by decide)
                  have yS36 : TY (2 * (a0.toInt + 1)) (vw t0 tk pg sc S36) := EMr_T (Rx_g PS5 hG_S) (BG_r (c1 := 60) PS5 hB_S (by decide)) (by decide) pS36 yS5 (s31 (by decide) (by grind [NZ, k_ii, k_ir, k_ri, k_rr, k_ai, k_ar, k_li, k_lr, k_qi, k_qr, ar_ci, ar_cl, ar_cq, la_ci, la_ca, la_cq, qa_ci, qa_ca, qa_cl, tk_link, kn8064]) (by grind [NZ, k_ii, k_ir, k_ri, k_rr, k_ai, k_ar, k_li, k_lr, k_qi, k_qr, ar_ci, ar_cl, ar_cq, la_ci, la_ca, la_cq, qa_ci, qa_ca, qa_cl, tk_link, kn8064]))
                  have PS36 : Rx 0 (vw t0 tk pg sc S36) (vw t0 tk pg sc S36) := Rx_rf
                  intro z37 ez37
                  refine ⟨pg, ob_e nS36 (by decide) hO15_t0 ez37, ?_⟩
                  intro z39 ez39
                  refine kmT_X3_listed hf_X3_waitFor _ _ _ _ _ _ (fun S40 r40 hF27 pS40 => ?_) (sk_X3_listed hf_X3_waitFor hr_X3_waitFor (tk := tk) (pg := pg) (sc := sc) (t := (2 * (a0.toInt + 1))) _ _ _ (INJ_x nS36 (by decide) hI) (ob_h nS36 (by decide) hO14_t0) (ob_h nS36 (by decide) hO15_t0) (ob_h nS36 (by decide) hO16_t0) (Rx_g PS36 hG_S36) (BG_r PS36 hB_S36 (by decide)) yS36 (by grind [NZ, k_ii, k_ir, k_ri, k_rr, k_ai, k_ar, k_li, k_lr, k_qi, k_qr, ar_ci, ar_cl, ar_cq, la_ci, la_ca, la_cq, qa_ci, qa_ca, qa_cl, tk_link, kn8064]) (by grind [NZ, k_ii, k_ir, k_ri, k_rr, k_ai, k_ar, k_li, k_lr, k_qi, k_qr, ar_ci, ar_cl, ar_cq, la_ci, la_ca, la_cq, qa_ci, qa_ca, qa_cl, tk_link, kn8064]) ((Or.inr ⟨by decide, rfl⟩)) (by grind [NZ, k_ii, k_ir, k_ri, k_rr, k_ai, k_ar, k_li, k_lr, k_qi, k_qr, ar_ci, ar_cl, ar_cq, la_ci, la_ca, la_cq, qa_ci, qa_ca, qa_cl, tk_link, kn8064]))
                  have nS40 : FX [] S S40 := FX_k hF27 (by decide) nS36
                  have PS40 := Rx_tr hG_S36 PS36 pS40.1
                  have yS40 := pS40.2
                  clear hF27
                  intro q41 eq41
                  have wq41 := rd_w nS36 (by decide) ez39 eq41
                  refine ⟨by grind [NZ, k_ii, k_ir, k_ri, k_rr, k_ai, k_ar, k_li, k_lr, k_qi, k_qr, ar_ci, ar_cl, ar_cq, la_ci, la_ca, la_cq, qa_ci, qa_ca, qa_cl, tk_link, kn8064], ?_⟩
                  intro S42 eS42
                  have nS42 : FX [] S S42 := FX_a eS42 nS40
                  have arS42 := ar_wr hI nS40 (by decide) (by decide) wq41 eS42
                  have tS42 := PT_of (t0 := t0) (tk := tk) (pg := pg) (sc := sc) eS42 arS42 pS36.1
                  have PS42 := Rx_pt hG_S PS5 (BG_r (c1 := 60) PS5 hB_S (by decide)) (by decide) pS36 PS40 tS42 (fun _ q _ _ => ACT_s q (by decide))
                  have yS42 := TY_pt tS42 yS40
                  refine kmT_X3_emit _ _ _ _ _ _ (fun S43 r43 hF28 pS43 => ?_) (sr_X3_emit (tk := tk) (pg := pg) (sc := sc) _ _ _ (INJ_x nS42 (by decide) hI) (ob_h nS42 (by decide) hO14_t0) (ob_h nS42 (by decide) hO15_t0) (ob_h nS42 (by decide) hO16_t0) (Rx_g PS42 hG_S))
                  have nS43 : FX [] S S43 := FX_k hF28 (by decide) nS42
                  have iS43 : 0 ≤ r43.toInt ∧ r43.toInt ≤ 8063 := ⟨pS43.1, pS43.2.1⟩
                  have PS43 := Rx_tr hG_S PS42 (EMr_R (Rx_g PS42 hG_S) (BG_r (c1 := 60) PS42 hB_S (by decide)) (by decide) pS43 (fun q => ACTn_s (by decide)))
                  have uS43 : (vw t0 tk pg sc S43).1 6 = (vw t0 tk pg sc S42).1 6 ∧ ∀ i, (vw t0 tk pg sc S43).2 64 i = (vw t0 tk pg sc S42).2 64 i := ⟨(vw_k hF28 (INJ_x nS42 (by decide) hI) (by decide) (by decide)).1 6 (by decide), fun i => congrFun ((vw_k hF28 (INJ_x nS42 (by decide) hI) (by decide) (by decide)).2 64 (by decide) (by decide)) i⟩
                  have yS43 : TY (wo a0.toInt) (vw t0 tk pg sc S43) := EMr_T (Rx_g PS42 hG_S) (BG_r (c1 := 60) PS42 hB_S (by decide)) (by decide) pS43 yS42 (s34 (by grind [NZ, k_ii, k_ir, k_ri, k_rr, k_ai, k_ar, k_li, k_lr, k_qi, k_qr, ar_ci, ar_cl, ar_cq, la_ci, la_ca, la_cq, qa_ci, qa_ca, qa_cl, tk_link, kn8064]) (by grind [NZ, k_ii, k_ir, k_ri, k_rr, k_ai, k_ar, k_li, k_lr, k_qi, k_qr, ar_ci, ar_cl, ar_cq, la_ci, la_ca, la_cq, qa_ci, qa_ca, qa_cl, tk_link, kn8064]))
                  clear hF28
                  exact ⟨Rx_m PS43 (by decide), yS43⟩
              · refine ⟨fun c29 => ?_, fun c29 => ?_⟩
                · refine ⟨fun c30 => ?_, fun c30 => ?_⟩
                  · unfold wT_X3_waitFor_225
                    refine kmT_X3_emit _ _ _ _ _ _ (fun S36 r36 hF31 pS36 => ?_) (sr_X3_emit (tk := tk) (pg := pg) (sc := sc) _ _ _ (INJ_x nS5 (by decide) hI) (ob_h nS5 (by decide) hO14_t0) (ob_h nS5 (by decide) hO15_t0) (ob_h nS5 (by decide) hO16_t0) (Rx_g PS5 hG_S))
                    have nS36 : FX [] S S36 := FX_k hF31 (by decide) nS5
                    have iS36 : 0 ≤ r36.toInt ∧ r36.toInt ≤ 8063 := ⟨pS36.1, pS36.2.1⟩
                    clear hF31
                    have hG_S36 : RG (vw t0 tk pg sc S36) := EMr_g pS36 (Rx_g PS5 hG_S)
                    have hB_S36 : BG 12 (vw t0 tk pg sc S36) := EMr_B (Rx_g PS5 hG_S) (BG_r (c1 := 11) PS5 hB_S (by decide)) (by decide) pS36 (by decide)
                    have yS36 : TY (2 * (a0.toInt + 1)) (vw t0 tk pg sc S36) := EMr_T (Rx_g PS5 hG_S) (BG_r (c1 := 60) PS5 hB_S (by decide)) (by decide) pS36 yS5 (s31 (by decide) (by grind [NZ, k_ii, k_ir, k_ri, k_rr, k_ai, k_ar, k_li, k_lr, k_qi, k_qr, ar_ci, ar_cl, ar_cq, la_ci, la_ca, la_cq, qa_ci, qa_ca, qa_cl, tk_link, kn8064]) (by grind [NZ, k_ii, k_ir, k_ri, k_rr, k_ai, k_ar, k_li, k_lr, k_qi, k_qr, ar_ci, ar_cl, ar_cq, la_ci, la_ca, la_cq, qa_ci, qa_ca, qa_cl, tk_link, kn8064]))
                    have PS36 : Rx 0 (vw t0 tk pg sc S36) (vw t0 tk pg sc S36) := Rx_rf
                    intro z37 ez37
                    refine ⟨pg, ob_e nS36 (by decide) hO15_t0 ez37, ?_⟩
                    intro z39 ez39
                    refine kmT_X3_listed hf_X3_waitFor _ _ _ _ _ _ (fun S40 r40 hF32 pS40 => ?_) (sk_X3_listed hf_X3_waitFor hr_X3_waitFor (tk := tk) (pg := pg) (sc := sc) (t := (2 * (a0.toInt + 1))) _ _ _ (INJ_x nS36 (by decide) hI) (ob_h nS36 (by decide) hO14_t0) (ob_h nS36 (by decide) hO15_t0) (ob_h nS36 (by decide) hO16_t0) (Rx_g PS36 hG_S36) (BG_r PS36 hB_S36 (by decide)) yS36 (by grind [NZ, k_ii, k_ir, k_ri, k_rr, k_ai, k_ar, k_li, k_lr, k_qi, k_qr, ar_ci, ar_cl, ar_cq, la_ci, la_ca, la_cq, qa_ci, qa_ca, qa_cl, tk_link, kn8064]) (by grind [NZ, k_ii, k_ir, k_ri, k_rr, k_ai, k_ar, k_li, k_lr, k_qi, k_qr, ar_ci, ar_cl, ar_cq, la_ci, la_ca, la_cq, qa_ci, qa_ca, qa_cl, tk_link, kn8064]) ((Or.inr ⟨by decide, rfl⟩)) (by grind [NZ, k_ii, k_ir, k_ri, k_rr, k_ai, k_ar, k_li, k_lr, k_qi, k_qr, ar_ci, ar_cl, ar_cq, la_ci, la_ca, la_cq, qa_ci, qa_ca, qa_cl, tk_link, kn8064]))
                    have nS40 : FX [] S S40 := FX_k hF32 (by decide) nS36
                    have PS40 := Rx_tr hG_S36 PS36 pS40.1
                    have yS40 := pS40.2
                    clear hF32
                    intro q41 eq41
                    have wq41 := rd_w nS36 (by decide) ez39 eq41
                    refine ⟨by grind [NZ, k_ii, k_ir, k_ri, k_rr, k_ai, k_ar, k_li, k_lr, k_qi, k_qr, ar_ci, ar_cl, ar_cq, la_ci, la_ca, la_cq, qa_ci, qa_ca, qa_cl, tk_link, kn8064], ?_⟩
                    intro S42 eS42
                    have nS42 : FX [] S S42 := FX_a eS42 nS40
                    have arS42 := ar_wr hI nS40 (by decide) (by decide) wq41 eS42
                    have tS42 := PT_of (t0 := t0) (tk := tk) (pg := pg) (sc := sc) eS42 arS42 pS36.1
                    have PS42 := Rx_pt hG_S PS5 (BG_r (c1 := 60) PS5 hB_S (by decide)) (by decide) pS36 PS40 tS42 (fun _ q _ _ => ACT_s q (by decide))
                    have yS42 := TY_pt tS42 yS40
                    refine kmT_X3_emit _ _ _ _ _ _ (fun S43 r43 hF33 pS43 => ?_) (sr_X3_emit (tk := tk) (pg := pg) (sc := sc) _ _ _ (INJ_x nS42 (by decide) hI) (ob_h nS42 (by decide) hO14_t0) (ob_h nS42 (by decide) hO15_t0) (ob_h nS42 (by decide) hO16_t0) (Rx_g PS42 hG_S))
                    have nS43 : FX [] S S43 := FX_k hF33 (by decide) nS42
                    have iS43 : 0 ≤ r43.toInt ∧ r43.toInt ≤ 8063 := ⟨pS43.1, pS43.2.1⟩
                    have PS43 := Rx_tr hG_S PS42 (EMr_R (Rx_g PS42 hG_S) (BG_r (c1 := 60) PS42 hB_S (by decide)) (by decide) pS43 (fun q => ACTn_s (by decide)))
                    have uS43 : (vw t0 tk pg sc S43).1 6 = (vw t0 tk pg sc S42).1 6 ∧ ∀ i, (vw t0 tk pg sc S43).2 64 i = (vw t0 tk pg sc S42).2 64 i := ⟨(vw_k hF33 (INJ_x nS42 (by decide) hI) (by decide) (by decide)).1 6 (by decide), fun i => congrFun ((vw_k hF33 (INJ_x nS42 (by decide) hI) (by decide) (by decide)).2 64 (by decide) (by decide)) i⟩
                    have yS43 : TY (wo a0.toInt) (vw t0 tk pg sc S43) := EMr_T (Rx_g PS42 hG_S) (BG_r (c1 := 60) PS42 hB_S (by decide)) (by decide) pS43 yS42 (s34 (by grind [NZ, k_ii, k_ir, k_ri, k_rr, k_ai, k_ar, k_li, k_lr, k_qi, k_qr, ar_ci, ar_cl, ar_cq, la_ci, la_ca, la_cq, qa_ci, qa_ca, qa_cl, tk_link, kn8064]) (by grind [NZ, k_ii, k_ir, k_ri, k_rr, k_ai, k_ar, k_li, k_lr, k_qi, k_qr, ar_ci, ar_cl, ar_cq, la_ci, la_ca, la_cq, qa_ci, qa_ca, qa_cl, tk_link, kn8064]))
                    clear hF33
                    exact ⟨Rx_m PS43 (by decide), yS43⟩
                  · unfold wT_X3_waitFor_225
                    refine kmT_X3_emit _ _ _ _ _ _ (fun S36 r36 hF34 pS36 => ?_) (sr_X3_emit (tk := tk) (pg := pg) (sc := sc) _ _ _ (INJ_x nS5 (by decide) hI) (ob_h nS5 (by decide) hO14_t0) (ob_h nS5 (by decide) hO15_t0) (ob_h nS5 (by decide) hO16_t0) (Rx_g PS5 hG_S))
                    have nS36 : FX [] S S36 := FX_k hF34 (by decide) nS5
                    have iS36 : 0 ≤ r36.toInt ∧ r36.toInt ≤ 8063 := ⟨pS36.1, pS36.2.1⟩
                    clear hF34
                    have hG_S36 : RG (vw t0 tk pg sc S36) := EMr_g pS36 (Rx_g PS5 hG_S)
                    have hB_S36 : BG 12 (vw t0 tk pg sc S36) := EMr_B (Rx_g PS5 hG_S) (BG_r (c1 := 11) PS5 hB_S (by decide)) (by decide) pS36 (by decide)
                    have yS36 : TY (2 * (a0.toInt + 1)) (vw t0 tk pg sc S36) := EMr_T (Rx_g PS5 hG_S) (BG_r (c1 := 60) PS5 hB_S (by decide)) (by decide) pS36 yS5 (s31 (by decide) (by grind [NZ, k_ii, k_ir, k_ri, k_rr, k_ai, k_ar, k_li, k_lr, k_qi, k_qr, ar_ci, ar_cl, ar_cq, la_ci, la_ca, la_cq, qa_ci, qa_ca, qa_cl, tk_link, kn8064]) (by grind [NZ, k_ii, k_ir, k_ri, k_rr, k_ai, k_ar, k_li, k_lr, k_qi, k_qr, ar_ci, ar_cl, ar_cq, la_ci, la_ca, la_cq, qa_ci, qa_ca, qa_cl, tk_link, kn8064]))
                    have PS36 : Rx 0 (vw t0 tk pg sc S36) (vw t0 tk pg sc S36) := Rx_rf
                    intro z37 ez37
                    refine ⟨pg, ob_e nS36 (by decide) hO15_t0 ez37, ?_⟩
                    intro z39 ez39
                    refine kmT_X3_listed hf_X3_waitFor _ _ _ _ _ _ (fun S40 r40 hF35 pS40 => ?_) (sk_X3_listed hf_X3_waitFor hr_X3_waitFor (tk := tk) (pg := pg) (sc := sc) (t := (2 * (a0.toInt + 1))) _ _ _ (INJ_x nS36 (by decide) hI) (ob_h nS36 (by decide) hO14_t0) (ob_h nS36 (by decide) hO15_t0) (ob_h nS36 (by decide) hO16_t0) (Rx_g PS36 hG_S36) (BG_r PS36 hB_S36 (by decide)) yS36 (by grind [NZ, k_ii, k_ir, k_ri, k_rr, k_ai, k_ar, k_li, k_lr, k_qi, k_qr, ar_ci, ar_cl, ar_cq, la_ci, la_ca, la_cq, qa_ci, qa_ca, qa_cl, tk_link, kn8064]) (by grind [NZ, k_ii, k_ir, k_ri, k_rr, k_ai, k_ar, k_li, k_lr, k_qi, k_qr, ar_ci, ar_cl, ar_cq, la_ci, la_ca, la_cq, qa_ci, qa_ca, qa_cl, tk_link, kn8064]) ((Or.inr ⟨by decide, rfl⟩)) (by grind [NZ, k_ii, k_ir, k_ri, k_rr, k_ai, k_ar, k_li, k_lr, k_qi, k_qr, ar_ci, ar_cl, ar_cq, la_ci, la_ca, la_cq, qa_ci, qa_ca, qa_cl, tk_link, kn8064]))
                    have nS40 : FX [] S S40 := FX_k hF35 (by decide) nS36
                    have PS40 := Rx_tr hG_S36 PS36 pS40.1
                    have yS40 := pS40.2
                    clear hF35
                    intro q41 eq41
                    have wq41 := rd_w nS36 (by decide) ez39 eq41
                    refine ⟨by grind [NZ, k_ii, k_ir, k_ri, k_rr, k_ai, k_ar, k_li, k_lr, k_qi, k_qr, ar_ci, ar_cl, ar_cq, la_ci, la_ca, la_cq, qa_ci, qa_ca, qa_cl, tk_link, kn8064], ?_⟩
                    intro S42 eS42
                    have nS42 : FX [] S S42 := FX_a eS42 nS40
                    have arS42 := ar_wr hI nS40 (by decide) (by decide) wq41 eS42
                    have tS42 := PT_of (t0 := t0) (tk := tk) (pg := pg) (sc := sc) eS42 arS42 pS36.1
                    have PS42 := Rx_pt hG_S PS5 (BG_r (c1 := 60) PS5 hB_S (by decide)) (by decide) pS36 PS40 tS42 (fun _ q _ _ => ACT_s q (by decide))
                    have yS42 := TY_pt tS42 yS40
                    refine kmT_X3_emit _ _ _ _ _ _ (fun S43 r43 hF36 pS43 => ?_) (sr_X3_emit (tk := tk) (pg := pg) (sc := sc) _ _ _ (INJ_x nS42 (by decide) hI) (ob_h nS42 (by decide) hO14_t0) (ob_h nS42 (by decide) hO15_t0) (ob_h nS42 (by decide) hO16_t0) (Rx_g PS42 hG_S))
                    have nS43 : FX [] S S43 := FX_k hF36 (by decide) nS42
                    have iS43 : 0 ≤ r43.toInt ∧ r43.toInt ≤ 8063 := ⟨pS43.1, pS43.2.1⟩
                    have PS43 := Rx_tr hG_S PS42 (EMr_R (Rx_g PS42 hG_S) (BG_r (c1 := 60) PS42 hB_S (by decide)) (by decide) pS43 (fun q => ACTn_s (by decide)))
                    have uS43 : (vw t0 tk pg sc S43).1 6 = (vw t0 tk pg sc S42).1 6 ∧ ∀ i, (vw t0 tk pg sc S43).2 64 i = (vw t0 tk pg sc S42).2 64 i := ⟨(vw_k hF36 (INJ_x nS42 (by decide) hI) (by decide) (by decide)).1 6 (by decide), fun i => congrFun ((vw_k hF36 (INJ_x nS42 (by decide) hI) (by decide) (by decide)).2 64 (by decide) (by decide)) i⟩
                    have yS43 : TY (wo a0.toInt) (vw t0 tk pg sc S43) := EMr_T (Rx_g PS42 hG_S) (BG_r (c1 := 60) PS42 hB_S (by decide)) (by decide) pS43 yS42 (s34 (by grind [NZ, k_ii, k_ir, k_ri, k_rr, k_ai, k_ar, k_li, k_lr, k_qi, k_qr, ar_ci, ar_cl, ar_cq, la_ci, la_ca, la_cq, qa_ci, qa_ca, qa_cl, tk_link, kn8064]) (by grind [NZ, k_ii, k_ir, k_ri, k_rr, k_ai, k_ar, k_li, k_lr, k_qi, k_qr, ar_ci, ar_cl, ar_cq, la_ci, la_ca, la_cq, qa_ci, qa_ca, qa_cl, tk_link, kn8064]))
                    clear hF36
                    exact ⟨Rx_m PS43 (by decide), yS43⟩
                · refine ⟨fun c37 => ?_, fun c37 => ?_⟩
                  · refine kmT_X3_emit _ _ _ _ _ _ (fun S27 r27 hF38 pS27 => ?_) (sr_X3_emit (tk := tk) (pg := pg) (sc := sc) _ _ _ (INJ_x nS5 (by decide) hI) (ob_h nS5 (by decide) hO14_t0) (ob_h nS5 (by decide) hO15_t0) (ob_h nS5 (by decide) hO16_t0) (Rx_g PS5 hG_S))
                    have nS27 : FX [] S S27 := FX_k hF38 (by decide) nS5
                    have iS27 : 0 ≤ r27.toInt ∧ r27.toInt ≤ 8063 := ⟨pS27.1, pS27.2.1⟩
                    have PS27 := Rx_tr hG_S PS5 (EMr_R (Rx_g PS5 hG_S) (BG_r (c1 := 60) PS5 hB_S (by decide)) (by decide) pS27 (fun q => ACTn_s (by decide)))
                    have uS27 : (vw t0 tk pg sc S27).1 6 = (vw t0 tk pg sc S5).1 6 ∧ ∀ i, (vw t0 tk pg sc S27).2 64 i = (vw t0 tk pg sc S5).2 64 i := ⟨(vw_k hF38 (INJ_x nS5 (by decide) hI) (by decide) (by decide)).1 6 (by decide), fun i => congrFun ((vw_k hF38 (INJ_x nS5 (by decide) hI) (by decide) (by decide)).2 64 (by decide) (by decide)) i⟩
                    have yS27 : TY (2 * a0.toInt + 1) (vw t0 tk pg sc S27) := EMr_T (Rx_g PS5 hG_S) (BG_r (c1 := 60) PS5 hB_S (by decide)) (by decide) pS27 yS5 (s26 (by grind [NZ, k_ii, k_ir, k_ri, k_rr, k_ai, k_ar, k_li, k_lr, k_qi, k_qr, ar_ci, ar_cl, ar_cq, la_ci, la_ca, la_cq, qa_ci, qa_ca, qa_cl, tk_link, kn8064]) (by grind [NZ, k_ii, k_ir, k_ri, k_rr, k_ai, k_ar, k_li, k_lr, k_qi, k_qr, ar_ci, ar_cl, ar_cq, la_ci, la_ca, la_cq, qa_ci, qa_ca, qa_cl, tk_link, kn8064]))
                    clear hF38
                    refine kqT_X3_expression _ _ _ _ _ (fun S28 hF39 pS28 => ?_) (sq_X3_expression (tk := tk) (pg := pg) (sc := sc) (t := 2 * a0.toInt + 1) _ _ (INJ_x nS27 (by decide) hI) (ob_h nS27 (by decide) hO14_t0) (ob_h nS27 (by decide) hO15_t0) (ob_h nS27 (by decide) hO16_t0) (Rx_g PS27 hG_S) (BG_r PS27 hB_S (by decide)) yS27 (by grind [NZ, k_ii, k_ir, k_ri, k_rr, k_ai, k_ar, k_li, k_lr, k_qi, k_qr, ar_ci, ar_cl, ar_cq, la_ci, la_ca, la_cq, qa_ci, qa_ca, qa_cl, tk_link, kn8064]) ((by decide)))
                    have nS28 : FX [] S S28 := FX_k hF39 (by decide) nS27
                    have PS28 := Rx_tr hG_S PS27 pS28.1
                    have yS28 : TY (2 * a0.toInt + 1) (vw t0 tk pg sc S28) := TY_e pS28.2 (exo_p (by grind [NZ, k_ii, k_ir, k_ri, k_rr, k_ai, k_ar, k_li, k_lr, k_qi, k_qr, ar_ci, ar_cl, ar_cq, la_ci, la_ca, la_cq, qa_ci, qa_ca, qa_cl, tk_link, kn8064]))
                    clear hF39
                    refine kmT_X3_emit _ _ _ _ _ _ (fun S29 r29 hF40 pS29 => ?_) (sr_X3_emit (tk := tk) (pg := pg) (sc := sc) _ _ _ (INJ_x nS28 (by decide) hI) (ob_h nS28 (by decide) hO14_t0) (ob_h nS28 (by decide) hO15_t0) (ob_h nS28 (by decide) hO16_t0) (Rx_g PS28 hG_S))
                    have nS29 : FX [] S S29 := FX_k hF40 (by decide) nS28
                    have iS29 : 0 ≤ r29.toInt ∧ r29.toInt ≤ 8063 := ⟨pS29.1, pS29.2.1⟩
                    have PS29 := Rx_tr hG_S PS28 (EMr_R (Rx_g PS28 hG_S) (BG_r (c1 := 60) PS28 hB_S (by decide)) (by decide) pS29 (fun q => ACTn_s (by decide)))
                    have uS29 : (vw t0 tk pg sc S29).1 6 = (vw t0 tk pg sc S28).1 6 ∧ ∀ i, (vw t0 tk pg sc S29).2 64 i = (vw t0 tk pg sc S28).2 64 i := ⟨(vw_k hF40 (INJ_x nS28 (by decide) hI) (by decide) (by decide)).1 6 (by decide), fun i => congrFun ((vw_k hF40 (INJ_x nS28 (by decide) hI) (by decide) (by decide)).2 64 (by decide) (by decide)) i⟩
                    have yS29 : TY (2 * (a0.toInt + 1)) (vw t0 tk pg sc S29) := EMr_T (Rx_g PS28 hG_S) (BG_r (c1 := 60) PS28 hB_S (by decide)) (by decide) pS29 yS28 (s33 (by grind [NZ, k_ii, k_ir, k_ri, k_rr, k_ai, k_ar, k_li, k_lr, k_qi, k_qr, ar_ci, ar_cl, ar_cq, la_ci, la_ca, la_cq, qa_ci, qa_ca, qa_cl, tk_link, kn8064]) (by grind [NZ, k_ii, k_ir, k_ri, k_rr, k_ai, k_ar, k_li, k_lr, k_qi, k_qr, ar_ci, ar_cl, ar_cq, la_ci, la_ca, la_cq, qa_ci, qa_ca, qa_cl, tk_link, kn8064]))
                    clear hF40
                    intro z30 ez30
                    have hrz30 : -2147483648 ≤ a0.toInt + 1 ∧ a0.toInt + 1 < 2147483648 := by grind [NZ, k_ii, k_ir, k_ri, k_rr, k_ai, k_ar, k_li, k_lr, k_qi, k_qr, ar_ci, ar_cl, ar_cq, la_ci, la_ca, la_cq, qa_ci, qa_ca, qa_cl, tk_link, kn8064]
                    replace ez30 : z30.toInt = a0.toInt + 1 := w_add ez30 hrz30
                    clear hrz30
                    refine hf_X3_waitFor _ _ _ _ _ (fun S31 hF41 pS31 => ?_) (hr_X3_waitFor tk pg sc _ _ _ (INJ_x nS29 (by decide) hI) (ob_h nS29 (by decide) hO14_t0) (ob_h nS29 (by decide) hO15_t0) (ob_h nS29 (by decide) hO16_t0) (Rx_g PS29 hG_S) (BG_r PS29 hB_S (by decide)) ((TY_e yS29 (by grind [NZ, k_ii, k_ir, k_ri, k_rr, k_ai, k_ar, k_li, k_lr, k_qi, k_qr, ar_ci, ar_cl, ar_cq, la_ci, la_ca, la_cq, qa_ci, qa_ca, qa_cl, tk_link, kn8064]))) (by grind [NZ, k_ii, k_ir, k_ri, k_rr, k_ai, k_ar, k_li, k_lr, k_qi, k_qr, ar_ci, ar_cl, ar_cq, la_ci, la_ca, la_cq, qa_ci, qa_ca, qa_cl, tk_link, kn8064]) (by grind [NZ, k_ii, k_ir, k_ri, k_rr, k_ai, k_ar, k_li, k_lr, k_qi, k_qr, ar_ci, ar_cl, ar_cq, la_ci, la_ca, la_cq, qa_ci, qa_ca, qa_cl, tk_link, kn8064]))
                    have nS31 : FX [] S S31 := FX_k hF41 (by decide) nS29
                    have PS31 := Rx_tr hG_S PS29 pS31.1
                    have yS31 := pS31.2
                    clear hF41
                    replace yS31 : TY (2 * (a0.toInt + 1)) (vw t0 tk pg sc S31) := TY_e yS31 (by unfold wo; grind [NZ, k_ii, k_ir, k_ri, k_rr, k_ai, k_ar, k_li, k_lr, k_qi, k_qr, ar_ci, ar_cl, ar_cq, la_ci, la_ca, la_cq, qa_ci, qa_ca, qa_cl, tk_link, kn8064])
                    refine kmT_X3_emit _ _ _ _ _ _ (fun S32 r32 hF42 pS32 => ?_) (sr_X3_emit (tk := tk) (pg := pg) (sc := sc) _ _ _ (INJ_x nS31 (by decide) hI) (ob_h nS31 (by decide) hO14_t0) (ob_h nS31 (by decide) hO15_t0) (ob_h nS31 (by decide) hO16_t0) (Rx_g PS31 hG_S))
                    have nS32 : FX [] S S32 := FX_k hF42 (by decide) nS31
                    have iS32 : 0 ≤ r32.toInt ∧ r32.toInt ≤ 8063 := ⟨pS32.1, pS32.2.1⟩
                    have PS32 := Rx_tr hG_S PS31 (EMr_R (Rx_g PS31 hG_S) (BG_r (c1 := 60) PS31 hB_S (by decide)) (by decide) pS32 (fun q => ACTn_s (by decide)))
                    have uS32 : (vw t0 tk pg sc S32).1 6 = (vw t0 tk pg sc S31).1 6 ∧ ∀ i, (vw t0 tk pg sc S32).2 64 i = (vw t0 tk pg sc S31).2 64 i := ⟨(vw_k hF42 (INJ_x nS31 (by decide) hI) (by decide) (by decide)).1 6 (by decide), fun i => congrFun ((vw_k hF42 (INJ_x nS31 (by decide) hI) (by decide) (by decide)).2 64 (by decide) (by decide)) i⟩
                    have yS32 : TY (wo a0.toInt) (vw t0 tk pg sc S32) := EMr_T (Rx_g PS31 hG_S) (BG_r (c1 := 60) PS31 hB_S (by decide)) (by decide) pS32 yS31 (s34 (by grind [NZ, k_ii, k_ir, k_ri, k_rr, k_ai, k_ar, k_li, k_lr, k_qi, k_qr, ar_ci, ar_cl, ar_cq, la_ci, la_ca, la_cq, qa_ci, qa_ca, qa_cl, tk_link, kn8064]) (by grind [NZ, k_ii, k_ir, k_ri, k_rr, k_ai, k_ar, k_li, k_lr, k_qi, k_qr, ar_ci, ar_cl, ar_cq, la_ci, la_ca, la_cq, qa_ci, qa_ca, qa_cl, tk_link, kn8064]))
                    clear hF42
                    exact ⟨Rx_m PS32 (by decide), yS32⟩
                  · refine ⟨fun c43 => ?_, fun c43 => ?_⟩
                    · unfold wT_X3_waitFor_225
                      refine kmT_X3_emit _ _ _ _ _ _ (fun S36 r36 hF44 pS36 => ?_) (sr_X3_emit (tk := tk) (pg := pg) (sc := sc) _ _ _ (INJ_x nS5 (by decide) hI) (ob_h nS5 (by decide) hO14_t0) (ob_h nS5 (by decide) hO15_t0) (ob_h nS5 (by decide) hO16_t0) (Rx_g PS5 hG_S))
                      have nS36 : FX [] S S36 := FX_k hF44 (by decide) nS5
                      have iS36 : 0 ≤ r36.toInt ∧ r36.toInt ≤ 8063 := ⟨pS36.1, pS36.2.1⟩
                      clear hF44
                      have hG_S36 : RG (vw t0 tk pg sc S36) := EMr_g pS36 (Rx_g PS5 hG_S)
                      have hB_S36 : BG 12 (vw t0 tk pg sc S36) := EMr_B (Rx_g PS5 hG_S) (BG_r (c1 := 11) PS5 hB_S (by decide)) (by decide) pS36 (by decide)
                      have yS36 : TY (2 * (a0.toInt + 1)) (vw t0 tk pg sc S36) := EMr_T (Rx_g PS5 hG_S) (BG_r (c1 := 60) PS5 hB_S (by decide)) (by decide) pS36 yS5 (s31 (by decide) (by grind [NZ, k_ii, k_ir, k_ri, k_rr, k_ai, k_ar, k_li, k_lr, k_qi, k_qr, ar_ci, ar_cl, ar_cq, la_ci, la_ca, la_cq, qa_ci, qa_ca, qa_cl, tk_link, kn8064]) (by grind [NZ, k_ii, k_ir, k_ri, k_rr, k_ai, k_ar, k_li, k_lr, k_qi, k_qr, ar_ci, ar_cl, ar_cq, la_ci, la_ca, la_cq, qa_ci, qa_ca, qa_cl, tk_link, kn8064]))
                      have PS36 : Rx 0 (vw t0 tk pg sc S36) (vw t0 tk pg sc S36) := Rx_rf
                      intro z37 ez37
                      refine ⟨pg, ob_e nS36 (by decide) hO15_t0 ez37, ?_⟩
                      intro z39 ez39
                      refine kmT_X3_listed hf_X3_waitFor _ _ _ _ _ _ (fun S40 r40 hF45 pS40 => ?_) (sk_X3_listed hf_X3_waitFor hr_X3_waitFor (tk := tk) (pg := pg) (sc := sc) (t := (2 * (a0.toInt + 1))) _ _ _ (INJ_x nS36 (by decide) hI) (ob_h nS36 (by decide) hO14_t0) (ob_h nS36 (by decide) hO15_t0) (ob_h nS36 (by decide) hO16_t0) (Rx_g PS36 hG_S36) (BG_r PS36 hB_S36 (by decide)) yS36 (by grind [NZ, k_ii, k_ir, k_ri, k_rr, k_ai, k_ar, k_li, k_lr, k_qi, k_qr, ar_ci, ar_cl, ar_cq, la_ci, la_ca, la_cq, qa_ci, qa_ca, qa_cl, tk_link, kn8064]) (by grind [NZ, k_ii, k_ir, k_ri, k_rr, k_ai, k_ar, k_li, k_lr, k_qi, k_qr, ar_ci, ar_cl, ar_cq, la_ci, la_ca, la_cq, qa_ci, qa_ca, qa_cl, tk_link, kn8064]) ((Or.inr ⟨by decide, rfl⟩)) (by grind [NZ, k_ii, k_ir, k_ri, k_rr, k_ai, k_ar, k_li, k_lr, k_qi, k_qr, ar_ci, ar_cl, ar_cq, la_ci, la_ca, la_cq, qa_ci, qa_ca, qa_cl, tk_link, kn8064]))
                      have nS40 : FX [] S S40 := FX_k hF45 (by decide) nS36
                      have PS40 := Rx_tr hG_S36 PS36 pS40.1
                      have yS40 := pS40.2
                      clear hF45
                      intro q41 eq41
                      have wq41 := rd_w nS36 (by decide) ez39 eq41
                      refine ⟨by grind [NZ, k_ii, k_ir, k_ri, k_rr, k_ai, k_ar, k_li, k_lr, k_qi, k_qr, ar_ci, ar_cl, ar_cq, la_ci, la_ca, la_cq, qa_ci, qa_ca, qa_cl, tk_link, kn8064], ?_⟩
                      intro S42 eS42
                      have nS42 : FX [] S S42 := FX_a eS42 nS40
                      have arS42 := ar_wr hI nS40 (by decide) (by decide) wq41 eS42
                      have tS42 := PT_of (t0 := t0) (tk := tk) (pg := pg) (sc := sc) eS42 arS42 pS36.1
                      have PS42 := Rx_pt hG_S PS5 (BG_r (c1 := 60) PS5 hB_S (by decide)) (by decide) pS36 PS40 tS42 (fun _ q _ _ => ACT_s q (by decide))
                      have yS42 := TY_pt tS42 yS40
                      refine kmT_X3_emit _ _ _ _ _ _ (fun S43 r43 hF46 pS43 => ?_) (sr_X3_emit (tk := tk) (pg := pg) (sc := sc) _ _ _ (INJ_x nS42 (by decide) hI) (ob_h nS42 (by decide) hO14_t0) (ob_h nS42 (by decide) hO15_t0) (ob_h nS42 (by decide) hO16_t0) (Rx_g PS42 hG_S))
                      have nS43 : FX [] S S43 := FX_k hF46 (by decide) nS42
                      have iS43 : 0 ≤ r43.toInt ∧ r43.toInt ≤ 8063 := ⟨pS43.1, pS43.2.1⟩
                      have PS43 := Rx_tr hG_S PS42 (EMr_R (Rx_g PS42 hG_S) (BG_r (c1 := 60) PS42 hB_S (by decide)) (by decide) pS43 (fun q => ACTn_s (by decide)))
                      have uS43 : (vw t0 tk pg sc S43).1 6 = (vw t0 tk pg sc S42).1 6 ∧ ∀ i, (vw t0 tk pg sc S43).2 64 i = (vw t0 tk pg sc S42).2 64 i := ⟨(vw_k hF46 (INJ_x nS42 (by decide) hI) (by decide) (by decide)).1 6 (by decide), fun i => congrFun ((vw_k hF46 (INJ_x nS42 (by decide) hI) (by decide) (by decide)).2 64 (by decide) (by decide)) i⟩
                      have yS43 : TY (wo a0.toInt) (vw t0 tk pg sc S43) := EMr_T (Rx_g PS42 hG_S) (BG_r (c1 := 60) PS42 hB_S (by decide)) (by decide) pS43 yS42 (s34 (by grind [NZ, k_ii, k_ir, k_ri, k_rr, k_ai, k_ar, k_li, k_lr, k_qi, k_qr, ar_ci, ar_cl, ar_cq, la_ci, la_ca, la_cq, qa_ci, qa_ca, qa_cl, tk_link, kn8064]) (by grind [NZ, k_ii, k_ir, k_ri, k_rr, k_ai, k_ar, k_li, k_lr, k_qi, k_qr, ar_ci, ar_cl, ar_cq, la_ci, la_ca, la_cq, qa_ci, qa_ca, qa_cl, tk_link, kn8064]))
                      clear hF46
                      exact ⟨Rx_m PS43 (by decide), yS43⟩
                    · unfold wT_X3_waitFor_225
                      refine kmT_X3_emit _ _ _ _ _ _ (fun S36 r36 hF47 pS36 => ?_) (sr_X3_emit (tk := tk) (pg := pg) (sc := sc) _ _ _ (INJ_x nS5 (by decide) hI) (ob_h nS5 (by decide) hO14_t0) (ob_h nS5 (by decide) hO15_t0) (ob_h nS5 (by decide) hO16_t0) (Rx_g PS5 hG_S))
                      have nS36 : FX [] S S36 := FX_k hF47 (by decide) nS5
                      have iS36 : 0 ≤ r36.toInt ∧ r36.toInt ≤ 8063 := ⟨pS36.1, pS36.2.1⟩
                      clear hF47
                      have hG_S36 : RG (vw t0 tk pg sc S36) := EMr_g pS36 (Rx_g PS5 hG_S)
                      have hB_S36 : BG 12 (vw t0 tk pg sc S36) := EMr_B (Rx_g PS5 hG_S) (BG_r (c1 := 11) PS5 hB_S (by decide)) (by decide) pS36 (by decide)
                      have yS36 : TY (2 * (a0.toInt + 1)) (vw t0 tk pg sc S36) := EMr_T (Rx_g PS5 hG_S) (BG_r (c1 := 60) PS5 hB_S (by decide)) (by decide) pS36 yS5 (s31 (by decide) (by grind [NZ, k_ii, k_ir, k_ri, k_rr, k_ai, k_ar, k_li, k_lr, k_qi, k_qr, ar_ci, ar_cl, ar_cq, la_ci, la_ca, la_cq, qa_ci, qa_ca, qa_cl, tk_link, kn8064]) (by grind [NZ, k_ii, k_ir, k_ri, k_rr, k_ai, k_ar, k_li, k_lr, k_qi, k_qr, ar_ci, ar_cl, ar_cq, la_ci, la_ca, la_cq, qa_ci, qa_ca, qa_cl, tk_link, kn8064]))
                      have PS36 : Rx 0 (vw t0 tk pg sc S36) (vw t0 tk pg sc S36) := Rx_rf
                      intro z37 ez37
                      refine ⟨pg, ob_e nS36 (by decide) hO15_t0 ez37, ?_⟩
                      intro z39 ez39
                      refine kmT_X3_listed hf_X3_waitFor _ _ _ _ _ _ (fun S40 r40 hF48 pS40 => ?_) (sk_X3_listed hf_X3_waitFor hr_X3_waitFor (tk := tk) (pg := pg) (sc := sc) (t := (2 * (a0.toInt + 1))) _ _ _ (INJ_x nS36 (by decide) hI) (ob_h nS36 (by decide) hO14_t0) (ob_h nS36 (by decide) hO15_t0) (ob_h nS36 (by decide) hO16_t0) (Rx_g PS36 hG_S36) (BG_r PS36 hB_S36 (by decide)) yS36 (by grind [NZ, k_ii, k_ir, k_ri, k_rr, k_ai, k_ar, k_li, k_lr, k_qi, k_qr, ar_ci, ar_cl, ar_cq, la_ci, la_ca, la_cq, qa_ci, qa_ca, qa_cl, tk_link, kn8064]) (by grind [NZ, k_ii, k_ir, k_ri, k_rr, k_ai, k_ar, k_li, k_lr, k_qi, k_qr, ar_ci, ar_cl, ar_cq, la_ci, la_ca, la_cq, qa_ci, qa_ca, qa_cl, tk_link, kn8064]) ((Or.inr ⟨by decide, rfl⟩)) (by grind [NZ, k_ii, k_ir, k_ri, k_rr, k_ai, k_ar, k_li, k_lr, k_qi, k_qr, ar_ci, ar_cl, ar_cq, la_ci, la_ca, la_cq, qa_ci, qa_ca, qa_cl, tk_link, kn8064]))
                      have nS40 : FX [] S S40 := FX_k hF48 (by decide) nS36
                      have PS40 := Rx_tr hG_S36 PS36 pS40.1
                      have yS40 := pS40.2
                      clear hF48
                      intro q41 eq41
                      have wq41 := rd_w nS36 (by decide) ez39 eq41
                      refine ⟨by grind [NZ, k_ii, k_ir, k_ri, k_rr, k_ai, k_ar, k_li, k_lr, k_qi, k_qr, ar_ci, ar_cl, ar_cq, la_ci, la_ca, la_cq, qa_ci, qa_ca, qa_cl, tk_link, kn8064], ?_⟩
                      intro S42 eS42
                      have nS42 : FX [] S S42 := FX_a eS42 nS40
                      have arS42 := ar_wr hI nS40 (by decide) (by decide) wq41 eS42
                      have tS42 := PT_of (t0 := t0) (tk := tk) (pg := pg) (sc := sc) eS42 arS42 pS36.1
                      have PS42 := Rx_pt hG_S PS5 (BG_r (c1 := 60) PS5 hB_S (by decide)) (by decide) pS36 PS40 tS42 (fun _ q _ _ => ACT_s q (by decide))
                      have yS42 := TY_pt tS42 yS40
                      refine kmT_X3_emit _ _ _ _ _ _ (fun S43 r43 hF49 pS43 => ?_) (sr_X3_emit (tk := tk) (pg := pg) (sc := sc) _ _ _ (INJ_x nS42 (by decide) hI) (ob_h nS42 (by decide) hO14_t0) (ob_h nS42 (by decide) hO15_t0) (ob_h nS42 (by decide) hO16_t0) (Rx_g PS42 hG_S))
                      have nS43 : FX [] S S43 := FX_k hF49 (by decide) nS42
                      have iS43 : 0 ≤ r43.toInt ∧ r43.toInt ≤ 8063 := ⟨pS43.1, pS43.2.1⟩
                      have PS43 := Rx_tr hG_S PS42 (EMr_R (Rx_g PS42 hG_S) (BG_r (c1 := 60) PS42 hB_S (by decide)) (by decide) pS43 (fun q => ACTn_s (by decide)))
                      have uS43 : (vw t0 tk pg sc S43).1 6 = (vw t0 tk pg sc S42).1 6 ∧ ∀ i, (vw t0 tk pg sc S43).2 64 i = (vw t0 tk pg sc S42).2 64 i := ⟨(vw_k hF49 (INJ_x nS42 (by decide) hI) (by decide) (by decide)).1 6 (by decide), fun i => congrFun ((vw_k hF49 (INJ_x nS42 (by decide) hI) (by decide) (by decide)).2 64 (by decide) (by decide)) i⟩
                      have yS43 : TY (wo a0.toInt) (vw t0 tk pg sc S43) := EMr_T (Rx_g PS42 hG_S) (BG_r (c1 := 60) PS42 hB_S (by decide)) (by decide) pS43 yS42 (s34 (by grind [NZ, k_ii, k_ir, k_ri, k_rr, k_ai, k_ar, k_li, k_lr, k_qi, k_qr, ar_ci, ar_cl, ar_cq, la_ci, la_ca, la_cq, qa_ci, qa_ca, qa_cl, tk_link, kn8064]) (by grind [NZ, k_ii, k_ir, k_ri, k_rr, k_ai, k_ar, k_li, k_lr, k_qi, k_qr, ar_ci, ar_cl, ar_cq, la_ci, la_ca, la_cq, qa_ci, qa_ca, qa_cl, tk_link, kn8064]))
                      clear hF49
                      exact ⟨Rx_m PS43 (by decide), yS43⟩
    · refine kmT_X3_wrong _ _ _ _ _ (fun S34 hF50 pS34 => ?_) (sr_X3_wrong (tk := tk) (pg := pg) (sc := sc) _ _ (INJ_x nS (by decide) hI) (ob_h nS (by decide) hO14_t0) (ob_h nS (by decide) hO15_t0) (ob_h nS (by decide) hO16_t0) (Rx_g PS hG_S) ((by decide)))
      have nS34 : FX [] S S34 := FX_k hF50 (by decide) nS
      have PS34 := Rx_tr hG_S PS pS34.1
      have fS34 : (vw t0 tk pg sc S34).1 7 ≠ 0 := pS34.2
      clear hF50
      exact ⟨Rx_m PS34 (by decide), (fun q => absurd q fS34)⟩
  · refine kmT_X3_wrong _ _ _ _ _ (fun S35 hF51 pS35 => ?_) (sr_X3_wrong (tk := tk) (pg := pg) (sc := sc) _ _ (INJ_x nS (by decide) hI) (ob_h nS (by decide) hO14_t0) (ob_h nS (by decide) hO15_t0) (ob_h nS (by decide) hO16_t0) (Rx_g PS hG_S) ((by decide)))
    have nS35 : FX [] S S35 := FX_k hF51 (by decide) nS
    have PS35 := Rx_tr hG_S PS pS35.1
    have fS35 : (vw t0 tk pg sc S35).1 7 ≠ 0 := pS35.2
    clear hF51
    exact ⟨Rx_m PS35 (by decide), (fun q => absurd q fS35)⟩
