
set_option maxHeartbeats 400000 in
theorem sk_X3_product {n : Int} {r_X3_part : Nat → Int32 → kS → (kS → Prop) → Prop} (hf_X3_part : ∀ t0 : Nat, ∀ a0 : Int32, KmV [6, 7, 17] [] [28, 29, 30, 35] [39] [] (r_X3_part t0 a0)) (hr_X3_part : ∀ (tk pg sc : Nat) (t : Int) (t0 : Nat) (a0 : Int32) (S : kS), INJ S → S.2.1 14 t0 = some tk → S.2.1 15 t0 = some pg → S.2.1 16 t0 = some sc → RG (vw t0 tk pg sc S) → BG 12 (vw t0 tk pg sc S) → TY t (vw t0 tk pg sc S) → (-2 ≤ t) → (0 ≤ a0.toInt ∧ a0.toInt ≤ 10) → (11 - a0.toInt ≤ n) → r_X3_part t0 a0 S (fun S1 => Rx (-1) (vw t0 tk pg sc S) (vw t0 tk pg sc S1) ∧ TY ((exo t)) (vw t0 tk pg sc S1))) {tk pg sc : Nat} {t : Int} (t0 : Nat) (a0 : Int32) {S : kS} (hI : INJ S) (hO14_t0 : S.2.1 14 t0 = some tk) (hO15_t0 : S.2.1 15 t0 = some pg) (hO16_t0 : S.2.1 16 t0 = some sc) (hG_S : RG (vw t0 tk pg sc S)) (hB_S : BG 12 (vw t0 tk pg sc S)) (hT_S : TY t (vw t0 tk pg sc S)) (ht : -2 ≤ t) (ha : 0 ≤ a0.toInt ∧ a0.toInt ≤ 10) (hn : 11 - a0.toInt ≤ n) : wT_X3_product r_X3_part t0 a0 S (fun S1 => Rx (-1) (vw t0 tk pg sc S) (vw t0 tk pg sc S1) ∧ TY ((exo t)) (vw t0 tk pg sc S1)) := by
  have nS : FX [] S S := FX_rf
  have PS : Rx 0 (vw t0 tk pg sc S) (vw t0 tk pg sc S) := Rx_rf
  have yS := hT_S
  unfold wT_X3_product
  refine hf_X3_part _ _ _ _ _ (fun S1 hF1 pS1 => ?_) (hr_X3_part tk pg sc t _ _ _ (INJ_x nS (by decide) hI) (ob_h nS (by decide) hO14_t0) (ob_h nS (by decide) hO15_t0) (ob_h nS (by decide) hO16_t0) (Rx_g PS hG_S) (BG_r PS hB_S (by decide)) yS ht (by (try clear hk12); grind [NZ, k_ii, k_ir, k_ri, k_rr, k_ai, k_ar, k_li, k_lr, k_qi, k_qr, ar_ci, ar_cl, ar_cq, la_ci, la_ca, la_cq, qa_ci, qa_ca, qa_cl, tk_link]) (by (try clear hk12); grind [NZ, k_ii, k_ir, k_ri, k_rr, k_ai, k_ar, k_li, k_lr, k_qi, k_qr, ar_ci, ar_cl, ar_cq, la_ci, la_ca, la_cq, qa_ci, qa_ca, qa_cl, tk_link]))
  have nS1 : FX [] S S1 := FX_k hF1 (by decide) nS
  have PS1 := Rx_tr hG_S PS pS1.1
  have yS1 : TY (exo t) (vw t0 tk pg sc S1) := TY_e pS1.2 rfl
  clear hF1
  refine kmT_X3_kind _ _ _ _ (fun S2 r2 hF2 pS2 => ?_) (sr_X3_kind (tk := tk) (pg := pg) (sc := sc) _ (INJ_x nS1 (by decide) hI) (ob_h nS1 (by decide) hO14_t0) (ob_h nS1 (by decide) hO15_t0) (ob_h nS1 (by decide) hO16_t0) (Rx_g PS1 hG_S))
  obtain ⟨rfl, pS2⟩ := pS2
  clear hF2
  refine it_rule (fun u : Nat × Int32 × Int32 × Int32 × kS => (FX [] S u.2.2.2.2) ∧ (t0 = u.1 ∧ a0 = u.2.1 ∧ Rx (-1) (vw t0 tk pg sc S) (vw t0 tk pg sc u.2.2.2.2) ∧ TY (exo t) (vw t0 tk pg sc u.2.2.2.2) ∧ (0 ≤ u.2.2.2.1.toInt ∧ u.2.2.2.1.toInt ≤ 4000 ∧ u.2.2.1.toInt = (vw t0 tk pg sc u.2.2.2.2).2 64 ((vw t0 tk pg sc u.2.2.2.2).1 6).toNat))) (fun u => (4000 - u.2.2.2.1.toInt).toNat) ?_ (by exact ⟨nS1, rfl, rfl, Rx_m PS1 (by decide), yS1, by (try clear hk12); grind [NZ, k_ii, k_ir, k_ri, k_rr, k_ai, k_ar, k_li, k_lr, k_qi, k_qr, ar_ci, ar_cl, ar_cq, la_ci, la_ca, la_cq, qa_ci, qa_ca, qa_cl, tk_link]⟩)
  rintro ⟨x0, x1, x2, x3, Sl12⟩ k12 hI12 hk12
  replace hI12 : (FX [] S Sl12) ∧ (t0 = x0 ∧ a0 = x1 ∧ Rx (-1) (vw t0 tk pg sc S) (vw t0 tk pg sc Sl12) ∧ TY (exo t) (vw t0 tk pg sc Sl12) ∧ (0 ≤ x3.toInt ∧ x3.toInt ≤ 4000 ∧ x2.toInt = (vw t0 tk pg sc Sl12).2 64 ((vw t0 tk pg sc Sl12).1 6).toNat)) := hI12
  obtain ⟨nSl12, hI12⟩ := hI12
  replace hk12 : ∀ v : Nat × Int32 × Int32 × Int32 × kS, (FX [] S v.2.2.2.2) ∧ (t0 = v.1 ∧ a0 = v.2.1 ∧ Rx (-1) (vw t0 tk pg sc S) (vw t0 tk pg sc v.2.2.2.2) ∧ TY (exo t) (vw t0 tk pg sc v.2.2.2.2) ∧ (0 ≤ v.2.2.2.1.toInt ∧ v.2.2.2.1.toInt ≤ 4000 ∧ v.2.2.1.toInt = (vw t0 tk pg sc v.2.2.2.2).2 64 ((vw t0 tk pg sc v.2.2.2.2).1 6).toNat)) → (4000 - v.2.2.2.1.toInt).toNat < (4000 - x3.toInt).toNat → k12 v := hk12
  show wT_X3_product_12 _ _ k12 x0 x1 x2 x3 Sl12
  unfold wT_X3_product_12
  obtain ⟨rfl, hI12⟩ := hI12
  obtain ⟨rfl, hI12⟩ := hI12
  obtain ⟨PSl12, ySl12, hI12⟩ := hI12
  refine ⟨fun c3 => ?_, fun c3 => ?_⟩
  · exact ⟨Rx_m PSl12 (by decide), ySl12⟩
  · refine ⟨fun c4 => ?_, fun c4 => ?_⟩
    · unfold wT_X3_product_37
      refine kmT_X3_step _ _ _ _ (fun S7 hF5 pS7 => ?_) (sr_X3_step (tk := tk) (pg := pg) (sc := sc) _ (INJ_x nSl12 (by decide) hI) (ob_h nSl12 (by decide) hO14_t0) (ob_h nSl12 (by decide) hO15_t0) (ob_h nSl12 (by decide) hO16_t0) (Rx_g PSl12 hG_S) (by (try clear hk12); grind [NZ, k_ii, k_ir, k_ri, k_rr, k_ai, k_ar, k_li, k_lr, k_qi, k_qr, ar_ci, ar_cl, ar_cq, la_ci, la_ca, la_cq, qa_ci, qa_ca, qa_cl, tk_link]))
      have nS7 : FX [] S S7 := FX_k hF5 (by decide) nSl12
      have PS7 := Rx_tr hG_S PSl12 pS7
      have yS7 := TY_r pS7 ySl12 ((vw_k hF5 (INJ_x nSl12 (by decide) hI) (by decide) (by decide)).1 17 (by decide)) ((vw_k hF5 (INJ_x nSl12 (by decide) hI) (by decide) (by decide)).2 28 (by decide) (by decide))
      clear hF5
      refine hf_X3_part _ _ _ _ _ (fun S8 hF6 pS8 => ?_) (hr_X3_part tk pg sc (exo t) _ _ _ (INJ_x nS7 (by decide) hI) (ob_h nS7 (by decide) hO14_t0) (ob_h nS7 (by decide) hO15_t0) (ob_h nS7 (by decide) hO16_t0) (Rx_g PS7 hG_S) (BG_r PS7 hB_S (by decide)) yS7 (exo_2 ht) (by (try clear hk12); grind [NZ, k_ii, k_ir, k_ri, k_rr, k_ai, k_ar, k_li, k_lr, k_qi, k_qr, ar_ci, ar_cl, ar_cq, la_ci, la_ca, la_cq, qa_ci, qa_ca, qa_cl, tk_link]) (by (try clear hk12); grind [NZ, k_ii, k_ir, k_ri, k_rr, k_ai, k_ar, k_li, k_lr, k_qi, k_qr, ar_ci, ar_cl, ar_cq, la_ci, la_ca, la_cq, qa_ci, qa_ca, qa_cl, tk_link]))
      have nS8 : FX [] S S8 := FX_k hF6 (by decide) nS7
      have PS8 := Rx_tr hG_S PS7 pS8.1
      have yS8 : TY (exo t) (vw t0 tk pg sc S8) := TY_e pS8.2 exo_x
      clear hF6
      refine ⟨fun c7 => ?_, fun c7 => ?_⟩
      · refine ⟨fun c8 => ?_, fun c8 => ?_⟩
        · unfold wT_X3_product_77
          refine kmT_X3_emit _ _ _ _ _ _ (fun S14 r14 hF9 pS14 => ?_) (sr_X3_emit (tk := tk) (pg := pg) (sc := sc) _ _ _ (INJ_x nS8 (by decide) hI) (ob_h nS8 (by decide) hO14_t0) (ob_h nS8 (by decide) hO15_t0) (ob_h nS8 (by decide) hO16_t0) (Rx_g PS8 hG_S))
          have nS14 : FX [] S S14 := FX_k hF9 (by decide) nS8
          have iS14 : 0 ≤ r14.toInt ∧ r14.toInt ≤ 8063 := ⟨pS14.1, pS14.2.1⟩
          have PS14 := Rx_tr hG_S PS8 (EMr_R (Rx_g PS8 hG_S) (BG_r (c1 := 60) PS8 hB_S (by decide)) (by decide) pS14 (fun q => ACTn_s (by decide)))
          have uS14 : (vw t0 tk pg sc S14).1 6 = (vw t0 tk pg sc S8).1 6 ∧ ∀ i, (vw t0 tk pg sc S14).2 64 i = (vw t0 tk pg sc S8).2 64 i := ⟨(vw_k hF9 (INJ_x nS8 (by decide) hI) (by decide) (by decide)).1 6 (by decide), fun i => congrFun ((vw_k hF9 (INJ_x nS8 (by decide) hI) (by decide) (by decide)).2 64 (by decide) (by decide)) i⟩
          have yS14 : TY (exo t) (vw t0 tk pg sc S14) := EMr_T (Rx_g PS8 hG_S) (BG_r (c1 := 60) PS8 hB_S (by decide)) (by decide) pS14 yS8 (stp_op (by decide) (by decide) (exo_2 ht))
          clear hF9
          unfold wT_X3_product_82
          refine kmT_X3_kind _ _ _ _ (fun S12 r12 hF10 pS12 => ?_) (sr_X3_kind (tk := tk) (pg := pg) (sc := sc) _ (INJ_x nS14 (by decide) hI) (ob_h nS14 (by decide) hO14_t0) (ob_h nS14 (by decide) hO15_t0) (ob_h nS14 (by decide) hO16_t0) (Rx_g PS14 hG_S))
          obtain ⟨rfl, pS12⟩ := pS12
          clear hF10
          intro z13 ez13
          have hrz13 : -2147483648 ≤ x3.toInt + 1 ∧ x3.toInt + 1 < 2147483648 := by (try clear hk12); grind [NZ, k_ii, k_ir, k_ri, k_rr, k_ai, k_ar, k_li, k_lr, k_qi, k_qr, ar_ci, ar_cl, ar_cq, la_ci, la_ca, la_cq, qa_ci, qa_ca, qa_cl, tk_link]
          replace ez13 : z13.toInt = x3.toInt + 1 := w_add ez13 hrz13
          clear hrz13
          exact hk12 _ (by exact ⟨nS14, rfl, rfl, Rx_m PS14 (by decide), yS14, by (try clear hk12); grind [NZ, k_ii, k_ir, k_ri, k_rr, k_ai, k_ar, k_li, k_lr, k_qi, k_qr, ar_ci, ar_cl, ar_cq, la_ci, la_ca, la_cq, qa_ci, qa_ca, qa_cl, tk_link]⟩) (by (try clear hk12); grind [NZ, k_ii, k_ir, k_ri, k_rr, k_ai, k_ar, k_li, k_lr, k_qi, k_qr, ar_ci, ar_cl, ar_cq, la_ci, la_ca, la_cq, qa_ci, qa_ca, qa_cl, tk_link])
        · unfold wT_X3_product_77
          refine kmT_X3_emit _ _ _ _ _ _ (fun S14 r14 hF11 pS14 => ?_) (sr_X3_emit (tk := tk) (pg := pg) (sc := sc) _ _ _ (INJ_x nS8 (by decide) hI) (ob_h nS8 (by decide) hO14_t0) (ob_h nS8 (by decide) hO15_t0) (ob_h nS8 (by decide) hO16_t0) (Rx_g PS8 hG_S))
          have nS14 : FX [] S S14 := FX_k hF11 (by decide) nS8
          have iS14 : 0 ≤ r14.toInt ∧ r14.toInt ≤ 8063 := ⟨pS14.1, pS14.2.1⟩
          have PS14 := Rx_tr hG_S PS8 (EMr_R (Rx_g PS8 hG_S) (BG_r (c1 := 60) PS8 hB_S (by decide)) (by decide) pS14 (fun q => ACTn_s (by decide)))
          have uS14 : (vw t0 tk pg sc S14).1 6 = (vw t0 tk pg sc S8).1 6 ∧ ∀ i, (vw t0 tk pg sc S14).2 64 i = (vw t0 tk pg sc S8).2 64 i := ⟨(vw_k hF11 (INJ_x nS8 (by decide) hI) (by decide) (by decide)).1 6 (by decide), fun i => congrFun ((vw_k hF11 (INJ_x nS8 (by decide) hI) (by decide) (by decide)).2 64 (by decide) (by decide)) i⟩
          have yS14 : TY (exo t) (vw t0 tk pg sc S14) := EMr_T (Rx_g PS8 hG_S) (BG_r (c1 := 60) PS8 hB_S (by decide)) (by decide) pS14 yS8 (stp_op (by decide) (by decide) (exo_2 ht))
          clear hF11
          unfold wT_X3_product_82
          refine kmT_X3_kind _ _ _ _ (fun S12 r12 hF12 pS12 => ?_) (sr_X3_kind (tk := tk) (pg := pg) (sc := sc) _ (INJ_x nS14 (by decide) hI) (ob_h nS14 (by decide) hO14_t0) (ob_h nS14 (by decide) hO15_t0) (ob_h nS14 (by decide) hO16_t0) (Rx_g PS14 hG_S))
          obtain ⟨rfl, pS12⟩ := pS12
          clear hF12
          intro z13 ez13
          have hrz13 : -2147483648 ≤ x3.toInt + 1 ∧ x3.toInt + 1 < 2147483648 := by (try clear hk12); grind [NZ, k_ii, k_ir, k_ri, k_rr, k_ai, k_ar, k_li, k_lr, k_qi, k_qr, ar_ci, ar_cl, ar_cq, la_ci, la_ca, la_cq, qa_ci, qa_ca, qa_cl, tk_link]
          replace ez13 : z13.toInt = x3.toInt + 1 := w_add ez13 hrz13
          clear hrz13
          exact hk12 _ (by exact ⟨nS14, rfl, rfl, Rx_m PS14 (by decide), yS14, by (try clear hk12); grind [NZ, k_ii, k_ir, k_ri, k_rr, k_ai, k_ar, k_li, k_lr, k_qi, k_qr, ar_ci, ar_cl, ar_cq, la_ci, la_ca, la_cq, qa_ci, qa_ca, qa_cl, tk_link]⟩) (by (try clear hk12); grind [NZ, k_ii, k_ir, k_ri, k_rr, k_ai, k_ar, k_li, k_lr, k_qi, k_qr, ar_ci, ar_cl, ar_cq, la_ci, la_ca, la_cq, qa_ci, qa_ca, qa_cl, tk_link])
      · refine kmT_X3_emit _ _ _ _ _ _ (fun S11 r11 hF13 pS11 => ?_) (sr_X3_emit (tk := tk) (pg := pg) (sc := sc) _ _ _ (INJ_x nS8 (by decide) hI) (ob_h nS8 (by decide) hO14_t0) (ob_h nS8 (by decide) hO15_t0) (ob_h nS8 (by decide) hO16_t0) (Rx_g PS8 hG_S))
        have nS11 : FX [] S S11 := FX_k hF13 (by decide) nS8
        have iS11 : 0 ≤ r11.toInt ∧ r11.toInt ≤ 8063 := ⟨pS11.1, pS11.2.1⟩
        have PS11 := Rx_tr hG_S PS8 (EMr_R (Rx_g PS8 hG_S) (BG_r (c1 := 60) PS8 hB_S (by decide)) (by decide) pS11 (fun q => ACTn_s (by decide)))
        have uS11 : (vw t0 tk pg sc S11).1 6 = (vw t0 tk pg sc S8).1 6 ∧ ∀ i, (vw t0 tk pg sc S11).2 64 i = (vw t0 tk pg sc S8).2 64 i := ⟨(vw_k hF13 (INJ_x nS8 (by decide) hI) (by decide) (by decide)).1 6 (by decide), fun i => congrFun ((vw_k hF13 (INJ_x nS8 (by decide) hI) (by decide) (by decide)).2 64 (by decide) (by decide)) i⟩
        have yS11 : TY (exo t) (vw t0 tk pg sc S11) := EMr_T (Rx_g PS8 hG_S) (BG_r (c1 := 60) PS8 hB_S (by decide)) (by decide) pS11 yS8 (stp_op (by decide) (by decide) (exo_2 ht))
        clear hF13
        unfold wT_X3_product_82
        refine kmT_X3_kind _ _ _ _ (fun S12 r12 hF14 pS12 => ?_) (sr_X3_kind (tk := tk) (pg := pg) (sc := sc) _ (INJ_x nS11 (by decide) hI) (ob_h nS11 (by decide) hO14_t0) (ob_h nS11 (by decide) hO15_t0) (ob_h nS11 (by decide) hO16_t0) (Rx_g PS11 hG_S))
        obtain ⟨rfl, pS12⟩ := pS12
        clear hF14
        intro z13 ez13
        have hrz13 : -2147483648 ≤ x3.toInt + 1 ∧ x3.toInt + 1 < 2147483648 := by (try clear hk12); grind [NZ, k_ii, k_ir, k_ri, k_rr, k_ai, k_ar, k_li, k_lr, k_qi, k_qr, ar_ci, ar_cl, ar_cq, la_ci, la_ca, la_cq, qa_ci, qa_ca, qa_cl, tk_link]
        replace ez13 : z13.toInt = x3.toInt + 1 := w_add ez13 hrz13
        clear hrz13
        exact hk12 _ (by exact ⟨nS11, rfl, rfl, Rx_m PS11 (by decide), yS11, by (try clear hk12); grind [NZ, k_ii, k_ir, k_ri, k_rr, k_ai, k_ar, k_li, k_lr, k_qi, k_qr, ar_ci, ar_cl, ar_cq, la_ci, la_ca, la_cq, qa_ci, qa_ca, qa_cl, tk_link]⟩) (by (try clear hk12); grind [NZ, k_ii, k_ir, k_ri, k_rr, k_ai, k_ar, k_li, k_lr, k_qi, k_qr, ar_ci, ar_cl, ar_cq, la_ci, la_ca, la_cq, qa_ci, qa_ca, qa_cl, tk_link])
    · refine ⟨fun c15 => ?_, fun c15 => ?_⟩
      · unfold wT_X3_product_37
        refine kmT_X3_step _ _ _ _ (fun S7 hF16 pS7 => ?_) (sr_X3_step (tk := tk) (pg := pg) (sc := sc) _ (INJ_x nSl12 (by decide) hI) (ob_h nSl12 (by decide) hO14_t0) (ob_h nSl12 (by decide) hO15_t0) (ob_h nSl12 (by decide) hO16_t0) (Rx_g PSl12 hG_S) (by (try clear hk12); grind [NZ, k_ii, k_ir, k_ri, k_rr, k_ai, k_ar, k_li, k_lr, k_qi, k_qr, ar_ci, ar_cl, ar_cq, la_ci, la_ca, la_cq, qa_ci, qa_ca, qa_cl, tk_link]))
        have nS7 : FX [] S S7 := FX_k hF16 (by decide) nSl12
        have PS7 := Rx_tr hG_S PSl12 pS7
        have yS7 := TY_r pS7 ySl12 ((vw_k hF16 (INJ_x nSl12 (by decide) hI) (by decide) (by decide)).1 17 (by decide)) ((vw_k hF16 (INJ_x nSl12 (by decide) hI) (by decide) (by decide)).2 28 (by decide) (by decide))
        clear hF16
        refine hf_X3_part _ _ _ _ _ (fun S8 hF17 pS8 => ?_) (hr_X3_part tk pg sc (exo t) _ _ _ (INJ_x nS7 (by decide) hI) (ob_h nS7 (by decide) hO14_t0) (ob_h nS7 (by decide) hO15_t0) (ob_h nS7 (by decide) hO16_t0) (Rx_g PS7 hG_S) (BG_r PS7 hB_S (by decide)) yS7 (exo_2 ht) (by (try clear hk12); grind [NZ, k_ii, k_ir, k_ri, k_rr, k_ai, k_ar, k_li, k_lr, k_qi, k_qr, ar_ci, ar_cl, ar_cq, la_ci, la_ca, la_cq, qa_ci, qa_ca, qa_cl, tk_link]) (by (try clear hk12); grind [NZ, k_ii, k_ir, k_ri, k_rr, k_ai, k_ar, k_li, k_lr, k_qi, k_qr, ar_ci, ar_cl, ar_cq, la_ci, la_ca, la_cq, qa_ci, qa_ca, qa_cl, tk_link]))
        have nS8 : FX [] S S8 := FX_k hF17 (by decide) nS7
        have PS8 := Rx_tr hG_S PS7 pS8.1
        have yS8 : TY (exo t) (vw t0 tk pg sc S8) := TY_e pS8.2 exo_x
        clear hF17
        refine ⟨fun c18 => ?_, fun c18 => ?_⟩
        · refine ⟨fun c19 => ?_, fun c19 => ?_⟩
          · unfold wT_X3_product_77
            refine kmT_X3_emit _ _ _ _ _ _ (fun S14 r14 hF20 pS14 => ?_) (sr_X3_emit (tk := tk) (pg := pg) (sc := sc) _ _ _ (INJ_x nS8 (by decide) hI) (ob_h nS8 (by decide) hO14_t0) (ob_h nS8 (by decide) hO15_t0) (ob_h nS8 (by decide) hO16_t0) (Rx_g PS8 hG_S))
            have nS14 : FX [] S S14 := FX_k hF20 (by decide) nS8
            have iS14 : 0 ≤ r14.toInt ∧ r14.toInt ≤ 8063 := ⟨pS14.1, pS14.2.1⟩
            have PS14 := Rx_tr hG_S PS8 (EMr_R (Rx_g PS8 hG_S) (BG_r (c1 := 60) PS8 hB_S (by decide)) (by decide) pS14 (fun q => ACTn_s (by decide)))
            have uS14 : (vw t0 tk pg sc S14).1 6 = (vw t0 tk pg sc S8).1 6 ∧ ∀ i, (vw t0 tk pg sc S14).2 64 i = (vw t0 tk pg sc S8).2 64 i := ⟨(vw_k hF20 (INJ_x nS8 (by decide) hI) (by decide) (by decide)).1 6 (by decide), fun i => congrFun ((vw_k hF20 (INJ_x nS8 (by decide) hI) (by decide) (by decide)).2 64 (by decide) (by decide)) i⟩
            have yS14 : TY (exo t) (vw t0 tk pg sc S14) := EMr_T (Rx_g PS8 hG_S) (BG_r (c1 := 60) PS8 hB_S (by decide)) (by decide) pS14 yS8 (stp_op (by decide) (by decide) (exo_2 ht))
            clear hF20
            unfold wT_X3_product_82
            refine kmT_X3_kind _ _ _ _ (fun S12 r12 hF21 pS12 => ?_) (sr_X3_kind (tk := tk) (pg := pg) (sc := sc) _ (INJ_x nS14 (by decide) hI) (ob_h nS14 (by decide) hO14_t0) (ob_h nS14 (by decide) hO15_t0) (ob_h nS14 (by decide) hO16_t0) (Rx_g PS14 hG_S))
            obtain ⟨rfl, pS12⟩ := pS12
            clear hF21
            intro z13 ez13
            have hrz13 : -2147483648 ≤ x3.toInt + 1 ∧ x3.toInt + 1 < 2147483648 := by (try clear hk12); grind [NZ, k_ii, k_ir, k_ri, k_rr, k_ai, k_ar, k_li, k_lr, k_qi, k_qr, ar_ci, ar_cl, ar_cq, la_ci, la_ca, la_cq, qa_ci, qa_ca, qa_cl, tk_link]
            replace ez13 : z13.toInt = x3.toInt + 1 := w_add ez13 hrz13
            clear hrz13
            exact hk12 _ (by exact ⟨nS14, rfl, rfl, Rx_m PS14 (by decide), yS14, by (try clear hk12); grind [NZ, k_ii, k_ir, k_ri, k_rr, k_ai, k_ar, k_li, k_lr, k_qi, k_qr, ar_ci, ar_cl, ar_cq, la_ci, la_ca, la_cq, qa_ci, qa_ca, qa_cl, tk_link]⟩) (by (try clear hk12); grind [NZ, k_ii, k_ir, k_ri, k_rr, k_ai, k_ar, k_li, k_lr, k_qi, k_qr, ar_ci, ar_cl, ar_cq, la_ci, la_ca, la_cq, qa_ci, qa_ca, qa_cl, tk_link])
          · unfold wT_X3_product_77
            refine kmT_X3_emit _ _ _ _ _ _ (fun S14 r14 hF22 pS14 => ?_) (sr_X3_emit (tk := tk) (pg := pg) (sc := sc) _ _ _ (INJ_x nS8 (by decide) hI) (ob_h nS8 (by decide) hO14_t0) (ob_h nS8 (by decide) hO15_t0) (ob_h nS8 (by decide) hO16_t0) (Rx_g PS8 hG_S))
            have nS14 : FX [] S S14 := FX_k hF22 (by decide) nS8
            have iS14 : 0 ≤ r14.toInt ∧ r14.toInt ≤ 8063 := ⟨pS14.1, pS14.2.1⟩
            have PS14 := Rx_tr hG_S PS8 (EMr_R (Rx_g PS8 hG_S) (BG_r (c1 := 60) PS8 hB_S (by decide)) (by decide) pS14 (fun q => ACTn_s (by decide)))
            have uS14 : (vw t0 tk pg sc S14).1 6 = (vw t0 tk pg sc S8).1 6 ∧ ∀ i, (vw t0 tk pg sc S14).2 64 i = (vw t0 tk pg sc S8).2 64 i := ⟨(vw_k hF22 (INJ_x nS8 (by decide) hI) (by decide) (by decide)).1 6 (by decide), fun i => congrFun ((vw_k hF22 (INJ_x nS8 (by decide) hI) (by decide) (by decide)).2 64 (by decide) (by decide)) i⟩
            have yS14 : TY (exo t) (vw t0 tk pg sc S14) := EMr_T (Rx_g PS8 hG_S) (BG_r (c1 := 60) PS8 hB_S (by decide)) (by decide) pS14 yS8 (stp_op (by decide) (by decide) (exo_2 ht))
            clear hF22
            unfold wT_X3_product_82
            refine kmT_X3_kind _ _ _ _ (fun S12 r12 hF23 pS12 => ?_) (sr_X3_kind (tk := tk) (pg := pg) (sc := sc) _ (INJ_x nS14 (by decide) hI) (ob_h nS14 (by decide) hO14_t0) (ob_h nS14 (by decide) hO15_t0) (ob_h nS14 (by decide) hO16_t0) (Rx_g PS14 hG_S))
            obtain ⟨rfl, pS12⟩ := pS12
            clear hF23
            intro z13 ez13
            have hrz13 : -2147483648 ≤ x3.toInt + 1 ∧ x3.toInt + 1 < 2147483648 := by (try clear hk12); grind [NZ, k_ii, k_ir, k_ri, k_rr, k_ai, k_ar, k_li, k_lr, k_qi, k_qr, ar_ci, ar_cl, ar_cq, la_ci, la_ca, la_cq, qa_ci, qa_ca, qa_cl, tk_link]
            replace ez13 : z13.toInt = x3.toInt + 1 := w_add ez13 hrz13
            clear hrz13
            exact hk12 _ (by exact ⟨nS14, rfl, rfl, Rx_m PS14 (by decide), yS14, by (try clear hk12); grind [NZ, k_ii, k_ir, k_ri, k_rr, k_ai, k_ar, k_li, k_lr, k_qi, k_qr, ar_ci, ar_cl, ar_cq, la_ci, la_ca, la_cq, qa_ci, qa_ca, qa_cl, tk_link]⟩) (by (try clear hk12); grind [NZ, k_ii, k_ir, k_ri, k_rr, k_ai, k_ar, k_li, k_lr, k_qi, k_qr, ar_ci, ar_cl, ar_cq, la_ci, la_ca, la_cq, qa_ci, qa_ca, qa_cl, tk_link])
        · refine kmT_X3_emit _ _ _ _ _ _ (fun S11 r11 hF24 pS11 => ?_) (sr_X3_emit (tk := tk) (pg := pg) (sc := sc) _ _ _ (INJ_x nS8 (by decide) hI) (ob_h nS8 (by decide) hO14_t0) (ob_h nS8 (by decide) hO15_t0) (ob_h nS8 (by decide) hO16_t0) (Rx_g PS8 hG_S))
          have nS11 : FX [] S S11 := FX_k hF24 (by decide) nS8
          have iS11 : 0 ≤ r11.toInt ∧ r11.toInt ≤ 8063 := ⟨pS11.1, pS11.2.1⟩
          have PS11 := Rx_tr hG_S PS8 (EMr_R (Rx_g PS8 hG_S) (BG_r (c1 := 60) PS8 hB_S (by decide)) (by decide) pS11 (fun q => ACTn_s (by decide)))
          have uS11 : (vw t0 tk pg sc S11).1 6 = (vw t0 tk pg sc S8).1 6 ∧ ∀ i, (vw t0 tk pg sc S11).2 64 i = (vw t0 tk pg sc S8).2 64 i := ⟨(vw_k hF24 (INJ_x nS8 (by decide) hI) (by decide) (by decide)).1 6 (by decide), fun i => congrFun ((vw_k hF24 (INJ_x nS8 (by decide) hI) (by decide) (by decide)).2 64 (by decide) (by decide)) i⟩
          have yS11 : TY (exo t) (vw t0 tk pg sc S11) := EMr_T (Rx_g PS8 hG_S) (BG_r (c1 := 60) PS8 hB_S (by decide)) (by decide) pS11 yS8 (stp_op (by decide) (by decide) (exo_2 ht))
          clear hF24
          unfold wT_X3_product_82
          refine kmT_X3_kind _ _ _ _ (fun S12 r12 hF25 pS12 => ?_) (sr_X3_kind (tk := tk) (pg := pg) (sc := sc) _ (INJ_x nS11 (by decide) hI) (ob_h nS11 (by decide) hO14_t0) (ob_h nS11 (by decide) hO15_t0) (ob_h nS11 (by decide) hO16_t0) (Rx_g PS11 hG_S))
          obtain ⟨rfl, pS12⟩ := pS12
          clear hF25
          intro z13 ez13
          have hrz13 : -2147483648 ≤ x3.toInt + 1 ∧ x3.toInt + 1 < 2147483648 := by (try clear hk12); grind [NZ, k_ii, k_ir, k_ri, k_rr, k_ai, k_ar, k_li, k_lr, k_qi, k_qr, ar_ci, ar_cl, ar_cq, la_ci, la_ca, la_cq, qa_ci, qa_ca, qa_cl, tk_link]
          replace ez13 : z13.toInt = x3.toInt + 1 := w_add ez13 hrz13
          clear hrz13
          exact hk12 _ (by exact ⟨nS11, rfl, rfl, Rx_m PS11 (by decide), yS11, by (try clear hk12); grind [NZ, k_ii, k_ir, k_ri, k_rr, k_ai, k_ar, k_li, k_lr, k_qi, k_qr, ar_ci, ar_cl, ar_cq, la_ci, la_ca, la_cq, qa_ci, qa_ca, qa_cl, tk_link]⟩) (by (try clear hk12); grind [NZ, k_ii, k_ir, k_ri, k_rr, k_ai, k_ar, k_li, k_lr, k_qi, k_qr, ar_ci, ar_cl, ar_cq, la_ci, la_ca, la_cq, qa_ci, qa_ca, qa_cl, tk_link])
      · refine ⟨fun c26 => ?_, fun c26 => ?_⟩
        · exact ⟨Rx_m PSl12 (by decide), ySl12⟩
        · unfold wT_X3_product_37
          refine kmT_X3_step _ _ _ _ (fun S7 hF27 pS7 => ?_) (sr_X3_step (tk := tk) (pg := pg) (sc := sc) _ (INJ_x nSl12 (by decide) hI) (ob_h nSl12 (by decide) hO14_t0) (ob_h nSl12 (by decide) hO15_t0) (ob_h nSl12 (by decide) hO16_t0) (Rx_g PSl12 hG_S) (by (try clear hk12); grind [NZ, k_ii, k_ir, k_ri, k_rr, k_ai, k_ar, k_li, k_lr, k_qi, k_qr, ar_ci, ar_cl, ar_cq, la_ci, la_ca, la_cq, qa_ci, qa_ca, qa_cl, tk_link]))
          have nS7 : FX [] S S7 := FX_k hF27 (by decide) nSl12
          have PS7 := Rx_tr hG_S PSl12 pS7
          have yS7 := TY_r pS7 ySl12 ((vw_k hF27 (INJ_x nSl12 (by decide) hI) (by decide) (by decide)).1 17 (by decide)) ((vw_k hF27 (INJ_x nSl12 (by decide) hI) (by decide) (by decide)).2 28 (by decide) (by decide))
          clear hF27
          refine hf_X3_part _ _ _ _ _ (fun S8 hF28 pS8 => ?_) (hr_X3_part tk pg sc (exo t) _ _ _ (INJ_x nS7 (by decide) hI) (ob_h nS7 (by decide) hO14_t0) (ob_h nS7 (by decide) hO15_t0) (ob_h nS7 (by decide) hO16_t0) (Rx_g PS7 hG_S) (BG_r PS7 hB_S (by decide)) yS7 (exo_2 ht) (by (try clear hk12); grind [NZ, k_ii, k_ir, k_ri, k_rr, k_ai, k_ar, k_li, k_lr, k_qi, k_qr, ar_ci, ar_cl, ar_cq, la_ci, la_ca, la_cq, qa_ci, qa_ca, qa_cl, tk_link]) (by (try clear hk12); grind [NZ, k_ii, k_ir, k_ri, k_rr, k_ai, k_ar, k_li, k_lr, k_qi, k_qr, ar_ci, ar_cl, ar_cq, la_ci, la_ca, la_cq, qa_ci, qa_ca, qa_cl, tk_link]))
          have nS8 : FX [] S S8 := FX_k hF28 (by decide) nS7
          have PS8 := Rx_tr hG_S PS7 pS8.1
          have yS8 : TY (exo t) (vw t0 tk pg sc S8) := TY_e pS8.2 exo_x
          clear hF28
          refine ⟨fun c29 => ?_, fun c29 => ?_⟩
          · refine ⟨fun c30 => ?_, fun c30 => ?_⟩
            · unfold wT_X3_product_77
              refine kmT_X3_emit _ _ _ _ _ _ (fun S14 r14 hF31 pS14 => ?_) (sr_X3_emit (tk := tk) (pg := pg) (sc := sc) _ _ _ (INJ_x nS8 (by decide) hI) (ob_h nS8 (by decide) hO14_t0) (ob_h nS8 (by decide) hO15_t0) (ob_h nS8 (by decide) hO16_t0) (Rx_g PS8 hG_S))
              have nS14 : FX [] S S14 := FX_k hF31 (by decide) nS8
              have iS14 : 0 ≤ r14.toInt ∧ r14.toInt ≤ 8063 := ⟨pS14.1, pS14.2.1⟩
              have PS14 := Rx_tr hG_S PS8 (EMr_R (Rx_g PS8 hG_S) (BG_r (c1 := 60) PS8 hB_S (by decide)) (by decide) pS14 (fun q => ACTn_s (by decide)))
              have uS14 : (vw t0 tk pg sc S14).1 6 = (vw t0 tk pg sc S8).1 6 ∧ ∀ i, (vw t0 tk pg sc S14).2 64 i = (vw t0 tk pg sc S8).2 64 i := ⟨(vw_k hF31 (INJ_x nS8 (by decide) hI) (by decide) (by decide)).1 6 (by decide), fun i => congrFun ((vw_k hF31 (INJ_x nS8 (by decide) hI) (by decide) (by decide)).2 64 (by decide) (by decide)) i⟩
              have yS14 : TY (exo t) (vw t0 tk pg sc S14) := EMr_T (Rx_g PS8 hG_S) (BG_r (c1 := 60) PS8 hB_S (by decide)) (by decide) pS14 yS8 (stp_op (by decide) (by decide) (exo_2 ht))
              clear hF31
              unfold wT_X3_product_82
              refine kmT_X3_kind _ _ _ _ (fun S12 r12 hF32 pS12 => ?_) (sr_X3_kind (tk := tk) (pg := pg) (sc := sc) _ (INJ_x nS14 (by decide) hI) (ob_h nS14 (by decide) hO14_t0) (ob_h nS14 (by decide) hO15_t0) (ob_h nS14 (by decide) hO16_t0) (Rx_g PS14 hG_S))
              obtain ⟨rfl, pS12⟩ := pS12
              clear hF32
              intro z13 ez13
              have hrz13 : -2147483648 ≤ x3.toInt + 1 ∧ x3.toInt + 1 < 2147483648 := by (try clear hk12); grind [NZ, k_ii, k_ir, k_ri, k_rr, k_ai, k_ar, k_li, k_lr, k_qi, k_qr, ar_ci, ar_cl, ar_cq, la_ci, la_ca, la_cq, qa_ci, qa_ca, qa_cl, tk_link]
              replace ez13 : z13.toInt = x3.toInt + 1 := w_add ez13 hrz13
              clear hrz13
              exact hk12 _ (by exact ⟨nS14, rfl, rfl, Rx_m PS14 (by decide), yS14, by (try clear hk12); grind [NZ, k_ii, k_ir, k_ri, k_rr, k_ai, k_ar, k_li, k_lr, k_qi, k_qr, ar_ci, ar_cl, ar_cq, la_ci, la_ca, la_cq, qa_ci, qa_ca, qa_cl, tk_link]⟩) (by (try clear hk12); grind [NZ, k_ii, k_ir, k_ri, k_rr, k_ai, k_ar, k_li, k_lr, k_qi, k_qr, ar_ci, ar_cl, ar_cq, la_ci, la_ca, la_cq, qa_ci, qa_ca, qa_cl, tk_link])
            · unfold wT_X3_product_77
              refine kmT_X3_emit _ _ _ _ _ _ (fun S14 r14 hF33 pS14 => ?_) (sr_X3_emit (tk := tk) (pg := pg) (sc := sc) _ _ _ (INJ_x nS8 (by decide) hI) (ob_h nS8 (by decide) hO14_t0) (ob_h nS8 (by decide) hO15_t0) (ob_h nS8 (by decide) hO16_t0) (Rx_g PS8 hG_S))
              have nS14 : FX [] S S14 := FX_k hF33 (by decide) nS8
              have iS14 : 0 ≤ r14.toInt ∧ r14.toInt ≤ 8063 := ⟨pS14.1, pS14.2.1⟩
              have PS14 := Rx_tr hG_S PS8 (EMr_R (Rx_g PS8 hG_S) (BG_r (c1 := 60) PS8 hB_S (by decide)) (by decide) pS14 (fun q => ACTn_s (by decide)))
              have uS14 : (vw t0 tk pg sc S14).1 6 = (vw t0 tk pg sc S8).1 6 ∧ ∀ i, (vw t0 tk pg sc S14).2 64 i = (vw t0 tk pg sc S8).2 64 i := ⟨(vw_k hF33 (INJ_x nS8 (by decide) hI) (by decide) (by decide)).1 6 (by decide), fun i => congrFun ((vw_k hF33 (INJ_x nS8 (by decide) hI) (by decide) (by decide)).2 64 (by decide) (by decide)) i⟩
              have yS14 : TY (exo t) (vw t0 tk pg sc S14) := EMr_T (Rx_g PS8 hG_S) (BG_r (c1 := 60) PS8 hB_S (by decide)) (by decide) pS14 yS8 (stp_op (by decide) (by decide) (exo_2 ht))
              clear hF33
              unfold wT_X3_product_82
              refine kmT_X3_kind _ _ _ _ (fun S12 r12 hF34 pS12 => ?_) (sr_X3_kind (tk := tk) (pg := pg) (sc := sc) _ (INJ_x nS14 (by decide) hI) (ob_h nS14 (by decide) hO14_t0) (ob_h nS14 (by decide) hO15_t0) (ob_h nS14 (by decide) hO16_t0) (Rx_g PS14 hG_S))
              obtain ⟨rfl, pS12⟩ := pS12
              clear hF34
              intro z13 ez13
              have hrz13 : -2147483648 ≤ x3.toInt + 1 ∧ x3.toInt + 1 < 2147483648 := by (try clear hk12); grind [NZ, k_ii, k_ir, k_ri, k_rr, k_ai, k_ar, k_li, k_lr, k_qi, k_qr, ar_ci, ar_cl, ar_cq, la_ci, la_ca, la_cq, qa_ci, qa_ca, qa_cl, tk_link]
              replace ez13 : z13.toInt = x3.toInt + 1 := w_add ez13 hrz13
              clear hrz13
              exact hk12 _ (by exact ⟨nS14, rfl, rfl, Rx_m PS14 (by decide), yS14, by (try clear hk12); grind [NZ, k_ii, k_ir, k_ri, k_rr, k_ai, k_ar, k_li, k_lr, k_qi, k_qr, ar_ci, ar_cl, ar_cq, la_ci, la_ca, la_cq, qa_ci, qa_ca, qa_cl, tk_link]⟩) (by (try clear hk12); grind [NZ, k_ii, k_ir, k_ri, k_rr, k_ai, k_ar, k_li, k_lr, k_qi, k_qr, ar_ci, ar_cl, ar_cq, la_ci, la_ca, la_cq, qa_ci, qa_ca, qa_cl, tk_link])
          · refine kmT_X3_emit _ _ _ _ _ _ (fun S11 r11 hF35 pS11 => ?_) (sr_X3_emit (tk := tk) (pg := pg) (sc := sc) _ _ _ (INJ_x nS8 (by decide) hI) (ob_h nS8 (by decide) hO14_t0) (ob_h nS8 (by decide) hO15_t0) (ob_h nS8 (by decide) hO16_t0) (Rx_g PS8 hG_S))
            have nS11 : FX [] S S11 := FX_k hF35 (by decide) nS8
            have iS11 : 0 ≤ r11.toInt ∧ r11.toInt ≤ 8063 := ⟨pS11.1, pS11.2.1⟩
            have PS11 := Rx_tr hG_S PS8 (EMr_R (Rx_g PS8 hG_S) (BG_r (c1 := 60) PS8 hB_S (by decide)) (by decide) pS11 (fun q => ACTn_s (by decide)))
            have uS11 : (vw t0 tk pg sc S11).1 6 = (vw t0 tk pg sc S8).1 6 ∧ ∀ i, (vw t0 tk pg sc S11).2 64 i = (vw t0 tk pg sc S8).2 64 i := ⟨(vw_k hF35 (INJ_x nS8 (by decide) hI) (by decide) (by decide)).1 6 (by decide), fun i => congrFun ((vw_k hF35 (INJ_x nS8 (by decide) hI) (by decide) (by decide)).2 64 (by decide) (by decide)) i⟩
            have yS11 : TY (exo t) (vw t0 tk pg sc S11) := EMr_T (Rx_g PS8 hG_S) (BG_r (c1 := 60) PS8 hB_S (by decide)) (by decide) pS11 yS8 (stp_op (by decide) (by decide) (exo_2 ht))
            clear hF35
            unfold wT_X3_product_82
            refine kmT_X3_kind _ _ _ _ (fun S12 r12 hF36 pS12 => ?_) (sr_X3_kind (tk := tk) (pg := pg) (sc := sc) _ (INJ_x nS11 (by decide) hI) (ob_h nS11 (by decide) hO14_t0) (ob_h nS11 (by decide) hO15_t0) (ob_h nS11 (by decide) hO16_t0) (Rx_g PS11 hG_S))
            obtain ⟨rfl, pS12⟩ := pS12
            clear hF36
            intro z13 ez13
            have hrz13 : -2147483648 ≤ x3.toInt + 1 ∧ x3.toInt + 1 < 2147483648 := by (try clear hk12); grind [NZ, k_ii, k_ir, k_ri, k_rr, k_ai, k_ar, k_li, k_lr, k_qi, k_qr, ar_ci, ar_cl, ar_cq, la_ci, la_ca, la_cq, qa_ci, qa_ca, qa_cl, tk_link]
            replace ez13 : z13.toInt = x3.toInt + 1 := w_add ez13 hrz13
            clear hrz13
            exact hk12 _ (by exact ⟨nS11, rfl, rfl, Rx_m PS11 (by decide), yS11, by (try clear hk12); grind [NZ, k_ii, k_ir, k_ri, k_rr, k_ai, k_ar, k_li, k_lr, k_qi, k_qr, ar_ci, ar_cl, ar_cq, la_ci, la_ca, la_cq, qa_ci, qa_ca, qa_cl, tk_link]⟩) (by (try clear hk12); grind [NZ, k_ii, k_ir, k_ri, k_rr, k_ai, k_ar, k_li, k_lr, k_qi, k_qr, ar_ci, ar_cl, ar_cq, la_ci, la_ca, la_cq, qa_ci, qa_ca, qa_cl, tk_link])
