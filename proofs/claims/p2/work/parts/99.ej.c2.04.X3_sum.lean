
set_option maxHeartbeats 400000 in
theorem sk_X3_sum {n : Int} {r_X3_part : Nat → Int32 → kS → (kS → Prop) → Prop} (hf_X3_part : ∀ t0 : Nat, ∀ a0 : Int32, KmV [6, 7, 17] [] [28, 29, 30, 35] [39] [] (r_X3_part t0 a0)) (hr_X3_part : ∀ (tk pg sc : Nat) (t : Int) (t0 : Nat) (a0 : Int32) (S : kS), INJ S → S.2.1 14 t0 = some tk → S.2.1 15 t0 = some pg → S.2.1 16 t0 = some sc → RG (vw t0 tk pg sc S) → BG 12 (vw t0 tk pg sc S) → TY t (vw t0 tk pg sc S) → (-2 ≤ t) → (0 ≤ a0.toInt ∧ a0.toInt ≤ 10) → (11 - a0.toInt ≤ n) → r_X3_part t0 a0 S (fun S1 => Rx (-1) (vw t0 tk pg sc S) (vw t0 tk pg sc S1) ∧ TY ((exo t)) (vw t0 tk pg sc S1))) {tk pg sc : Nat} {t : Int} (t0 : Nat) (a0 : Int32) {S : kS} (hI : INJ S) (hO14_t0 : S.2.1 14 t0 = some tk) (hO15_t0 : S.2.1 15 t0 = some pg) (hO16_t0 : S.2.1 16 t0 = some sc) (hG_S : RG (vw t0 tk pg sc S)) (hB_S : BG 12 (vw t0 tk pg sc S)) (hT_S : TY t (vw t0 tk pg sc S)) (ht : -2 ≤ t) (ha : 0 ≤ a0.toInt ∧ a0.toInt ≤ 10) (hn : 11 - a0.toInt ≤ n) : wT_X3_sum r_X3_part t0 a0 S (fun S1 => Rx (-1) (vw t0 tk pg sc S) (vw t0 tk pg sc S1) ∧ TY ((exo t)) (vw t0 tk pg sc S1)) := by
  have nS : FX [] S S := FX_rf
  have PS : Rx 0 (vw t0 tk pg sc S) (vw t0 tk pg sc S) := Rx_rf
  have yS := hT_S
  unfold wT_X3_sum
  refine kmT_X3_product hf_X3_part _ _ _ _ _ (fun S1 hF1 pS1 => ?_) (sk_X3_product hf_X3_part hr_X3_part (tk := tk) (pg := pg) (sc := sc) (t := t) _ _ (INJ_x nS (by decide) hI) (ob_h nS (by decide) hO14_t0) (ob_h nS (by decide) hO15_t0) (ob_h nS (by decide) hO16_t0) (Rx_g PS hG_S) (BG_r PS hB_S (by decide)) yS ht (by (try clear hk12); grind [NZ, k_ii, k_ir, k_ri, k_rr, k_ai, k_ar, k_li, k_lr, k_qi, k_qr, ar_ci, ar_cl, ar_cq, la_ci, la_ca, la_cq, qa_ci, qa_ca, qa_cl, tk_link]) (by (try clear hk12); grind [NZ, k_ii, k_ir, k_ri, k_rr, k_ai, k_ar, k_li, k_lr, k_qi, k_qr, ar_ci, ar_cl, ar_cq, la_ci, la_ca, la_cq, qa_ci, qa_ca, qa_cl, tk_link]))
  have nS1 : FX [] S S1 := FX_k hF1 (by decide) nS
  have PS1 := Rx_tr hG_S PS pS1.1
  have yS1 : TY (exo t) (vw t0 tk pg sc S1) := TY_e pS1.2 rfl
  clear hF1
  refine kmT_X3_kind _ _ _ _ (fun S2 r2 hF2 pS2 => ?_) (sr_X3_kind (tk := tk) (pg := pg) (sc := sc) _ (INJ_x nS1 (by decide) hI) (ob_h nS1 (by decide) hO14_t0) (ob_h nS1 (by decide) hO15_t0) (ob_h nS1 (by decide) hO16_t0) (Rx_g PS1 hG_S))
  obtain ⟨rfl, pS2⟩ := pS2
  clear hF2
  refine it_rule (fun u : Nat × Int32 × Int32 × Int32 × kS => (FX [] S u.2.2.2.2) ∧ (t0 = u.1 ∧ a0 = u.2.1 ∧ Rx (-1) (vw t0 tk pg sc S) (vw t0 tk pg sc u.2.2.2.2) ∧ TY (exo t) (vw t0 tk pg sc u.2.2.2.2) ∧ (0 ≤ u.2.2.2.1.toInt ∧ u.2.2.2.1.toInt ≤ 4000 ∧ u.2.2.1.toInt = (vw t0 tk pg sc u.2.2.2.2).2 64 ((vw t0 tk pg sc u.2.2.2.2).1 6).toNat))) (fun u => (4000 - u.2.2.2.1.toInt).toNat) ?_ (by exact ⟨nS1, rfl, rfl, Rx_m PS1 (by decide), yS1, by (try clear hk12); grind [NZ, k_ii, k_ir, k_ri, k_rr, k_ai, k_ar, k_li, k_lr, k_qi, k_qr, ar_ci, ar_cl, ar_cq, la_ci, la_ca, la_cq, qa_ci, qa_ca, qa_cl, tk_link]⟩)
  rintro ⟨x0, x1, x2, x3, Sl12⟩ k12 hI12 hk12
  replace hI12 : (FX [] S Sl12) ∧ (t0 = x0 ∧ a0 = x1 ∧ Rx (-1) (vw t0 tk pg sc S) (vw t0 tk pg sc Sl12) ∧ TY (exo t) (vw t0 tk pg sc Sl12) ∧ (0 ≤ x3.toInt ∧ x3.toInt ≤ 4000 ∧ x2.toInt = (vw t0 tk pg sc Sl12).2 64 ((vw t0 tk pg sc Sl12).1 6).toNat)) := hI12
  obtain ⟨nSl12, hI12⟩ := hI12
  replace hk12 : ∀ v : Nat × Int32 × Int32 × Int32 × kS, (FX [] S v.2.2.2.2) ∧ (t0 = v.1 ∧ a0 = v.2.1 ∧ Rx (-1) (vw t0 tk pg sc S) (vw t0 tk pg sc v.2.2.2.2) ∧ TY (exo t) (vw t0 tk pg sc v.2.2.2.2) ∧ (0 ≤ v.2.2.2.1.toInt ∧ v.2.2.2.1.toInt ≤ 4000 ∧ v.2.2.1.toInt = (vw t0 tk pg sc v.2.2.2.2).2 64 ((vw t0 tk pg sc v.2.2.2.2).1 6).toNat)) → (4000 - v.2.2.2.1.toInt).toNat < (4000 - x3.toInt).toNat → k12 v := hk12
  show wT_X3_sum_12 _ _ k12 x0 x1 x2 x3 Sl12
  unfold wT_X3_sum_12
  obtain ⟨rfl, hI12⟩ := hI12
  obtain ⟨rfl, hI12⟩ := hI12
  obtain ⟨PSl12, ySl12, hI12⟩ := hI12
  refine ⟨fun c3 => ?_, fun c3 => ?_⟩
  · exact ⟨Rx_m PSl12 (by decide), ySl12⟩
  · refine ⟨fun c4 => ?_, fun c4 => ?_⟩
    · unfold wT_X3_sum_31
      refine kmT_X3_step _ _ _ _ (fun S6 hF5 pS6 => ?_) (sr_X3_step (tk := tk) (pg := pg) (sc := sc) _ (INJ_x nSl12 (by decide) hI) (ob_h nSl12 (by decide) hO14_t0) (ob_h nSl12 (by decide) hO15_t0) (ob_h nSl12 (by decide) hO16_t0) (Rx_g PSl12 hG_S) (by (try clear hk12); grind [NZ, k_ii, k_ir, k_ri, k_rr, k_ai, k_ar, k_li, k_lr, k_qi, k_qr, ar_ci, ar_cl, ar_cq, la_ci, la_ca, la_cq, qa_ci, qa_ca, qa_cl, tk_link]))
      have nS6 : FX [] S S6 := FX_k hF5 (by decide) nSl12
      have PS6 := Rx_tr hG_S PSl12 pS6
      have yS6 := TY_r pS6 ySl12 ((vw_k hF5 (INJ_x nSl12 (by decide) hI) (by decide) (by decide)).1 17 (by decide)) ((vw_k hF5 (INJ_x nSl12 (by decide) hI) (by decide) (by decide)).2 28 (by decide) (by decide))
      clear hF5
      refine kmT_X3_product hf_X3_part _ _ _ _ _ (fun S7 hF6 pS7 => ?_) (sk_X3_product hf_X3_part hr_X3_part (tk := tk) (pg := pg) (sc := sc) (t := exo t) _ _ (INJ_x nS6 (by decide) hI) (ob_h nS6 (by decide) hO14_t0) (ob_h nS6 (by decide) hO15_t0) (ob_h nS6 (by decide) hO16_t0) (Rx_g PS6 hG_S) (BG_r PS6 hB_S (by decide)) yS6 (exo_2 ht) (by (try clear hk12); grind [NZ, k_ii, k_ir, k_ri, k_rr, k_ai, k_ar, k_li, k_lr, k_qi, k_qr, ar_ci, ar_cl, ar_cq, la_ci, la_ca, la_cq, qa_ci, qa_ca, qa_cl, tk_link]) (by (try clear hk12); grind [NZ, k_ii, k_ir, k_ri, k_rr, k_ai, k_ar, k_li, k_lr, k_qi, k_qr, ar_ci, ar_cl, ar_cq, la_ci, la_ca, la_cq, qa_ci, qa_ca, qa_cl, tk_link]))
      have nS7 : FX [] S S7 := FX_k hF6 (by decide) nS6
      have PS7 := Rx_tr hG_S PS6 pS7.1
      have yS7 : TY (exo t) (vw t0 tk pg sc S7) := TY_e pS7.2 exo_x
      clear hF6
      refine ⟨fun c7 => ?_, fun c7 => ?_⟩
      · unfold wT_X3_sum_54
        refine kmT_X3_emit _ _ _ _ _ _ (fun S9 r9 hF8 pS9 => ?_) (sr_X3_emit (tk := tk) (pg := pg) (sc := sc) _ _ _ (INJ_x nS7 (by decide) hI) (ob_h nS7 (by decide) hO14_t0) (ob_h nS7 (by decide) hO15_t0) (ob_h nS7 (by decide) hO16_t0) (Rx_g PS7 hG_S))
        have nS9 : FX [] S S9 := FX_k hF8 (by decide) nS7
        have iS9 : 0 ≤ r9.toInt ∧ r9.toInt ≤ 8063 := ⟨pS9.1, pS9.2.1⟩
        have PS9 := Rx_tr hG_S PS7 (EMr_R (Rx_g PS7 hG_S) (BG_r (c1 := 60) PS7 hB_S (by decide)) (by decide) pS9 (fun q => ACTn_s (by decide)))
        have uS9 : (vw t0 tk pg sc S9).1 6 = (vw t0 tk pg sc S7).1 6 ∧ ∀ i, (vw t0 tk pg sc S9).2 64 i = (vw t0 tk pg sc S7).2 64 i := ⟨(vw_k hF8 (INJ_x nS7 (by decide) hI) (by decide) (by decide)).1 6 (by decide), fun i => congrFun ((vw_k hF8 (INJ_x nS7 (by decide) hI) (by decide) (by decide)).2 64 (by decide) (by decide)) i⟩
        have yS9 : TY (exo t) (vw t0 tk pg sc S9) := EMr_T (Rx_g PS7 hG_S) (BG_r (c1 := 60) PS7 hB_S (by decide)) (by decide) pS9 yS7 (stp_op (by decide) (by decide) (exo_2 ht))
        clear hF8
        refine kmT_X3_kind _ _ _ _ (fun S10 r10 hF9 pS10 => ?_) (sr_X3_kind (tk := tk) (pg := pg) (sc := sc) _ (INJ_x nS9 (by decide) hI) (ob_h nS9 (by decide) hO14_t0) (ob_h nS9 (by decide) hO15_t0) (ob_h nS9 (by decide) hO16_t0) (Rx_g PS9 hG_S))
        obtain ⟨rfl, pS10⟩ := pS10
        clear hF9
        intro z11 ez11
        have hrz11 : -2147483648 ≤ x3.toInt + 1 ∧ x3.toInt + 1 < 2147483648 := by (try clear hk12); grind [NZ, k_ii, k_ir, k_ri, k_rr, k_ai, k_ar, k_li, k_lr, k_qi, k_qr, ar_ci, ar_cl, ar_cq, la_ci, la_ca, la_cq, qa_ci, qa_ca, qa_cl, tk_link]
        replace ez11 : z11.toInt = x3.toInt + 1 := w_add ez11 hrz11
        clear hrz11
        exact hk12 _ (by exact ⟨nS9, rfl, rfl, Rx_m PS9 (by decide), yS9, by (try clear hk12); grind [NZ, k_ii, k_ir, k_ri, k_rr, k_ai, k_ar, k_li, k_lr, k_qi, k_qr, ar_ci, ar_cl, ar_cq, la_ci, la_ca, la_cq, qa_ci, qa_ca, qa_cl, tk_link]⟩) (by (try clear hk12); grind [NZ, k_ii, k_ir, k_ri, k_rr, k_ai, k_ar, k_li, k_lr, k_qi, k_qr, ar_ci, ar_cl, ar_cq, la_ci, la_ca, la_cq, qa_ci, qa_ca, qa_cl, tk_link])
      · unfold wT_X3_sum_54
        refine kmT_X3_emit _ _ _ _ _ _ (fun S9 r9 hF10 pS9 => ?_) (sr_X3_emit (tk := tk) (pg := pg) (sc := sc) _ _ _ (INJ_x nS7 (by decide) hI) (ob_h nS7 (by decide) hO14_t0) (ob_h nS7 (by decide) hO15_t0) (ob_h nS7 (by decide) hO16_t0) (Rx_g PS7 hG_S))
        have nS9 : FX [] S S9 := FX_k hF10 (by decide) nS7
        have iS9 : 0 ≤ r9.toInt ∧ r9.toInt ≤ 8063 := ⟨pS9.1, pS9.2.1⟩
        have PS9 := Rx_tr hG_S PS7 (EMr_R (Rx_g PS7 hG_S) (BG_r (c1 := 60) PS7 hB_S (by decide)) (by decide) pS9 (fun q => ACTn_s (by decide)))
        have uS9 : (vw t0 tk pg sc S9).1 6 = (vw t0 tk pg sc S7).1 6 ∧ ∀ i, (vw t0 tk pg sc S9).2 64 i = (vw t0 tk pg sc S7).2 64 i := ⟨(vw_k hF10 (INJ_x nS7 (by decide) hI) (by decide) (by decide)).1 6 (by decide), fun i => congrFun ((vw_k hF10 (INJ_x nS7 (by decide) hI) (by decide) (by decide)).2 64 (by decide) (by decide)) i⟩
        have yS9 : TY (exo t) (vw t0 tk pg sc S9) := EMr_T (Rx_g PS7 hG_S) (BG_r (c1 := 60) PS7 hB_S (by decide)) (by decide) pS9 yS7 (stp_op (by decide) (by decide) (exo_2 ht))
        clear hF10
        refine kmT_X3_kind _ _ _ _ (fun S10 r10 hF11 pS10 => ?_) (sr_X3_kind (tk := tk) (pg := pg) (sc := sc) _ (INJ_x nS9 (by decide) hI) (ob_h nS9 (by decide) hO14_t0) (ob_h nS9 (by decide) hO15_t0) (ob_h nS9 (by decide) hO16_t0) (Rx_g PS9 hG_S))
        obtain ⟨rfl, pS10⟩ := pS10
        clear hF11
        intro z11 ez11
        have hrz11 : -2147483648 ≤ x3.toInt + 1 ∧ x3.toInt + 1 < 2147483648 := by (try clear hk12); grind [NZ, k_ii, k_ir, k_ri, k_rr, k_ai, k_ar, k_li, k_lr, k_qi, k_qr, ar_ci, ar_cl, ar_cq, la_ci, la_ca, la_cq, qa_ci, qa_ca, qa_cl, tk_link]
        replace ez11 : z11.toInt = x3.toInt + 1 := w_add ez11 hrz11
        clear hrz11
        exact hk12 _ (by exact ⟨nS9, rfl, rfl, Rx_m PS9 (by decide), yS9, by (try clear hk12); grind [NZ, k_ii, k_ir, k_ri, k_rr, k_ai, k_ar, k_li, k_lr, k_qi, k_qr, ar_ci, ar_cl, ar_cq, la_ci, la_ca, la_cq, qa_ci, qa_ca, qa_cl, tk_link]⟩) (by (try clear hk12); grind [NZ, k_ii, k_ir, k_ri, k_rr, k_ai, k_ar, k_li, k_lr, k_qi, k_qr, ar_ci, ar_cl, ar_cq, la_ci, la_ca, la_cq, qa_ci, qa_ca, qa_cl, tk_link])
    · refine ⟨fun c12 => ?_, fun c12 => ?_⟩
      · exact ⟨Rx_m PSl12 (by decide), ySl12⟩
      · unfold wT_X3_sum_31
        refine kmT_X3_step _ _ _ _ (fun S6 hF13 pS6 => ?_) (sr_X3_step (tk := tk) (pg := pg) (sc := sc) _ (INJ_x nSl12 (by decide) hI) (ob_h nSl12 (by decide) hO14_t0) (ob_h nSl12 (by decide) hO15_t0) (ob_h nSl12 (by decide) hO16_t0) (Rx_g PSl12 hG_S) (by (try clear hk12); grind [NZ, k_ii, k_ir, k_ri, k_rr, k_ai, k_ar, k_li, k_lr, k_qi, k_qr, ar_ci, ar_cl, ar_cq, la_ci, la_ca, la_cq, qa_ci, qa_ca, qa_cl, tk_link]))
        have nS6 : FX [] S S6 := FX_k hF13 (by decide) nSl12
        have PS6 := Rx_tr hG_S PSl12 pS6
        have yS6 := TY_r pS6 ySl12 ((vw_k hF13 (INJ_x nSl12 (by decide) hI) (by decide) (by decide)).1 17 (by decide)) ((vw_k hF13 (INJ_x nSl12 (by decide) hI) (by decide) (by decide)).2 28 (by decide) (by decide))
        clear hF13
        refine kmT_X3_product hf_X3_part _ _ _ _ _ (fun S7 hF14 pS7 => ?_) (sk_X3_product hf_X3_part hr_X3_part (tk := tk) (pg := pg) (sc := sc) (t := exo t) _ _ (INJ_x nS6 (by decide) hI) (ob_h nS6 (by decide) hO14_t0) (ob_h nS6 (by decide) hO15_t0) (ob_h nS6 (by decide) hO16_t0) (Rx_g PS6 hG_S) (BG_r PS6 hB_S (by decide)) yS6 (exo_2 ht) (by (try clear hk12); grind [NZ, k_ii, k_ir, k_ri, k_rr, k_ai, k_ar, k_li, k_lr, k_qi, k_qr, ar_ci, ar_cl, ar_cq, la_ci, la_ca, la_cq, qa_ci, qa_ca, qa_cl, tk_link]) (by (try clear hk12); grind [NZ, k_ii, k_ir, k_ri, k_rr, k_ai, k_ar, k_li, k_lr, k_qi, k_qr, ar_ci, ar_cl, ar_cq, la_ci, la_ca, la_cq, qa_ci, qa_ca, qa_cl, tk_link]))
        have nS7 : FX [] S S7 := FX_k hF14 (by decide) nS6
        have PS7 := Rx_tr hG_S PS6 pS7.1
        have yS7 : TY (exo t) (vw t0 tk pg sc S7) := TY_e pS7.2 exo_x
        clear hF14
        refine ⟨fun c15 => ?_, fun c15 => ?_⟩
        · unfold wT_X3_sum_54
          refine kmT_X3_emit _ _ _ _ _ _ (fun S9 r9 hF16 pS9 => ?_) (sr_X3_emit (tk := tk) (pg := pg) (sc := sc) _ _ _ (INJ_x nS7 (by decide) hI) (ob_h nS7 (by decide) hO14_t0) (ob_h nS7 (by decide) hO15_t0) (ob_h nS7 (by decide) hO16_t0) (Rx_g PS7 hG_S))
          have nS9 : FX [] S S9 := FX_k hF16 (by decide) nS7
          have iS9 : 0 ≤ r9.toInt ∧ r9.toInt ≤ 8063 := ⟨pS9.1, pS9.2.1⟩
          have PS9 := Rx_tr hG_S PS7 (EMr_R (Rx_g PS7 hG_S) (BG_r (c1 := 60) PS7 hB_S (by decide)) (by decide) pS9 (fun q => ACTn_s (by decide)))
          have uS9 : (vw t0 tk pg sc S9).1 6 = (vw t0 tk pg sc S7).1 6 ∧ ∀ i, (vw t0 tk pg sc S9).2 64 i = (vw t0 tk pg sc S7).2 64 i := ⟨(vw_k hF16 (INJ_x nS7 (by decide) hI) (by decide) (by decide)).1 6 (by decide), fun i => congrFun ((vw_k hF16 (INJ_x nS7 (by decide) hI) (by decide) (by decide)).2 64 (by decide) (by decide)) i⟩
          have yS9 : TY (exo t) (vw t0 tk pg sc S9) := EMr_T (Rx_g PS7 hG_S) (BG_r (c1 := 60) PS7 hB_S (by decide)) (by decide) pS9 yS7 (stp_op (by decide) (by decide) (exo_2 ht))
          clear hF16
          refine kmT_X3_kind _ _ _ _ (fun S10 r10 hF17 pS10 => ?_) (sr_X3_kind (tk := tk) (pg := pg) (sc := sc) _ (INJ_x nS9 (by decide) hI) (ob_h nS9 (by decide) hO14_t0) (ob_h nS9 (by decide) hO15_t0) (ob_h nS9 (by decide) hO16_t0) (Rx_g PS9 hG_S))
          obtain ⟨rfl, pS10⟩ := pS10
          clear hF17
          intro z11 ez11
          have hrz11 : -2147483648 ≤ x3.toInt + 1 ∧ x3.toInt + 1 < 2147483648 := by (try clear hk12); grind [NZ, k_ii, k_ir, k_ri, k_rr, k_ai, k_ar, k_li, k_lr, k_qi, k_qr, ar_ci, ar_cl, ar_cq, la_ci, la_ca, la_cq, qa_ci, qa_ca, qa_cl, tk_link]
          replace ez11 : z11.toInt = x3.toInt + 1 := w_add ez11 hrz11
          clear hrz11
          exact hk12 _ (by exact ⟨nS9, rfl, rfl, Rx_m PS9 (by decide), yS9, by (try clear hk12); grind [NZ, k_ii, k_ir, k_ri, k_rr, k_ai, k_ar, k_li, k_lr, k_qi, k_qr, ar_ci, ar_cl, ar_cq, la_ci, la_ca, la_cq, qa_ci, qa_ca, qa_cl, tk_link]⟩) (by (try clear hk12); grind [NZ, k_ii, k_ir, k_ri, k_rr, k_ai, k_ar, k_li, k_lr, k_qi, k_qr, ar_ci, ar_cl, ar_cq, la_ci, la_ca, la_cq, qa_ci, qa_ca, qa_cl, tk_link])
        · unfold wT_X3_sum_54
          refine kmT_X3_emit _ _ _ _ _ _ (fun S9 r9 hF18 pS9 => ?_) (sr_X3_emit (tk := tk) (pg := pg) (sc := sc) _ _ _ (INJ_x nS7 (by decide) hI) (ob_h nS7 (by decide) hO14_t0) (ob_h nS7 (by decide) hO15_t0) (ob_h nS7 (by decide) hO16_t0) (Rx_g PS7 hG_S))
          have nS9 : FX [] S S9 := FX_k hF18 (by decide) nS7
          have iS9 : 0 ≤ r9.toInt ∧ r9.toInt ≤ 8063 := ⟨pS9.1, pS9.2.1⟩
          have PS9 := Rx_tr hG_S PS7 (EMr_R (Rx_g PS7 hG_S) (BG_r (c1 := 60) PS7 hB_S (by decide)) (by decide) pS9 (fun q => ACTn_s (by decide)))
          have uS9 : (vw t0 tk pg sc S9).1 6 = (vw t0 tk pg sc S7).1 6 ∧ ∀ i, (vw t0 tk pg sc S9).2 64 i = (vw t0 tk pg sc S7).2 64 i := ⟨(vw_k hF18 (INJ_x nS7 (by decide) hI) (by decide) (by decide)).1 6 (by decide), fun i => congrFun ((vw_k hF18 (INJ_x nS7 (by decide) hI) (by decide) (by decide)).2 64 (by decide) (by decide)) i⟩
          have yS9 : TY (exo t) (vw t0 tk pg sc S9) := EMr_T (Rx_g PS7 hG_S) (BG_r (c1 := 60) PS7 hB_S (by decide)) (by decide) pS9 yS7 (stp_op (by decide) (by decide) (exo_2 ht))
          clear hF18
          refine kmT_X3_kind _ _ _ _ (fun S10 r10 hF19 pS10 => ?_) (sr_X3_kind (tk := tk) (pg := pg) (sc := sc) _ (INJ_x nS9 (by decide) hI) (ob_h nS9 (by decide) hO14_t0) (ob_h nS9 (by decide) hO15_t0) (ob_h nS9 (by decide) hO16_t0) (Rx_g PS9 hG_S))
          obtain ⟨rfl, pS10⟩ := pS10
          clear hF19
          intro z11 ez11
          have hrz11 : -2147483648 ≤ x3.toInt + 1 ∧ x3.toInt + 1 < 2147483648 := by (try clear hk12); grind [NZ, k_ii, k_ir, k_ri, k_rr, k_ai, k_ar, k_li, k_lr, k_qi, k_qr, ar_ci, ar_cl, ar_cq, la_ci, la_ca, la_cq, qa_ci, qa_ca, qa_cl, tk_link]
          replace ez11 : z11.toInt = x3.toInt + 1 := w_add ez11 hrz11
          clear hrz11
          exact hk12 _ (by exact ⟨nS9, rfl, rfl, Rx_m PS9 (by decide), yS9, by (try clear hk12); grind [NZ, k_ii, k_ir, k_ri, k_rr, k_ai, k_ar, k_li, k_lr, k_qi, k_qr, ar_ci, ar_cl, ar_cq, la_ci, la_ca, la_cq, qa_ci, qa_ca, qa_cl, tk_link]⟩) (by (try clear hk12); grind [NZ, k_ii, k_ir, k_ri, k_rr, k_ai, k_ar, k_li, k_lr, k_qi, k_qr, ar_ci, ar_cl, ar_cq, la_ci, la_ca, la_cq, qa_ci, qa_ca, qa_cl, tk_link])
