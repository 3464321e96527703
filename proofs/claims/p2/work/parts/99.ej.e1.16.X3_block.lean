
set_option maxHeartbeats 400000 in
theorem sk_X3_block {n : Int} {r_X3_block : Nat → Int32 → kS → (kS → Prop) → Prop} (hf_X3_block : ∀ t0 : Nat, ∀ a0 : Int32, KmV [6, 7, 8, 9, 10, 11, 17, 24, 25] [] [17, 18, 19, 28, 29, 30, 35, 36, 37, 43, 44, 45, 46, 47, 48, 49, 50, 51, 52] [20, 39] [] (r_X3_block t0 a0)) (hr_X3_block : ∀ (tk pg sc : Nat) (t0 : Nat) (a0 : Int32) (S : kS), INJ S → S.2.1 14 t0 = some tk → S.2.1 15 t0 = some pg → S.2.1 16 t0 = some sc → RG (vw t0 tk pg sc S) → BG 12 (vw t0 tk pg sc S) → TY ((-2)) (vw t0 tk pg sc S) → (LK (vw t0 tk pg sc S)) → (DK (a0.toInt + 1) (vw t0 tk pg sc S)) → (0 ≤ a0.toInt ∧ a0.toInt ≤ 10) → (11 - a0.toInt ≤ n) → r_X3_block t0 a0 S (fun S1 => Rx (-4) (vw t0 tk pg sc S) (vw t0 tk pg sc S1) ∧ TY ((-2)) (vw t0 tk pg sc S1) ∧ N1e (vw t0 tk pg sc S) (vw t0 tk pg sc S1))) {tk pg sc : Nat} (t0 : Nat) (a0 : Int32) {S : kS} (hI : INJ S) (hO14_t0 : S.2.1 14 t0 = some tk) (hO15_t0 : S.2.1 15 t0 = some pg) (hO16_t0 : S.2.1 16 t0 = some sc) (hG_S : RG (vw t0 tk pg sc S)) (hB_S : BG 12 (vw t0 tk pg sc S)) (hT_S : TY (-2) (vw t0 tk pg sc S)) (hL_S : LK (vw t0 tk pg sc S)) (hD_S : DK (a0.toInt + 1) (vw t0 tk pg sc S)) (ha : 0 ≤ a0.toInt ∧ a0.toInt ≤ 10) (hn : 11 - a0.toInt ≤ n + 1) : wT_X3_block r_X3_block t0 a0 S (fun S1 => Rx (-4) (vw t0 tk pg sc S) (vw t0 tk pg sc S1) ∧ TY (-2) (vw t0 tk pg sc S1) ∧ N1e (vw t0 tk pg sc S) (vw t0 tk pg sc S1)) := by
  have nS : FX [] S S := FX_rf
  have PS : Rx 0 (vw t0 tk pg sc S) (vw t0 tk pg sc S) := Rx_rf
  have yS := hT_S
  unfold wT_X3_block
  refine kmT_X3_kind _ _ _ _ (fun S1 r1 hF1 pS1 => ?_) (sr_X3_kind (tk := tk) (pg := pg) (sc := sc) _ (INJ_x nS (by decide) hI) (ob_h nS (by decide) hO14_t0) (ob_h nS (by decide) hO15_t0) (ob_h nS (by decide) hO16_t0) (Rx_g PS hG_S))
  obtain ⟨rfl, pS1⟩ := pS1
  clear hF1
  refine ⟨fun c2 => ?_, fun c2 => ?_⟩
  · refine ⟨fun c3 => ?_, fun c3 => ?_⟩
    · refine kmT_X3_step _ _ _ _ (fun S4 hF4 pS4 => ?_) (sr_X3_step (tk := tk) (pg := pg) (sc := sc) _ (INJ_x nS (by decide) hI) (ob_h nS (by decide) hO14_t0) (ob_h nS (by decide) hO15_t0) (ob_h nS (by decide) hO16_t0) (Rx_g PS hG_S) (by (try clear hk37); grind [NZ, k_ii, k_ir, k_ri, k_rr, k_ai, k_ar, k_li, k_lr, k_qi, k_qr, ar_ci, ar_cl, ar_cq, la_ci, la_ca, la_cq, qa_ci, qa_ca, qa_cl, tk_link]))
      have nS4 : FX [] S S4 := FX_k hF4 (by decide) nS
      have gS4 : (vw t0 tk pg sc S4).1 7 = (vw t0 tk pg sc S).1 7 := (vw_k hF4 (INJ_x nS (by decide) hI) (by decide) (by decide)).1 7 (by decide)
      have kS4 : (vw t0 tk pg sc S4).1 17 = (vw t0 tk pg sc S).1 17 := (vw_k hF4 (INJ_x nS (by decide) hI) (by decide) (by decide)).1 17 (by decide)
      have PS4 := Rx_tr hG_S PS pS4
      have yS4 := TY_r pS4 yS ((vw_k hF4 (INJ_x nS (by decide) hI) (by decide) (by decide)).1 17 (by decide)) ((vw_k hF4 (INJ_x nS (by decide) hI) (by decide) (by decide)).2 28 (by decide) (by decide))
      clear hF4
      have xS4 : N1e (vw t0 tk pg sc S) (vw t0 tk pg sc S4) := N1e_s kS4
      refine it_rule (fun u : Nat × Int32 × Int32 × kS => (FX [] S u.2.2.2) ∧ (t0 = u.1 ∧ a0 = u.2.1 ∧ Rx (-2) (vw t0 tk pg sc S) (vw t0 tk pg sc u.2.2.2) ∧ TY (-2) (vw t0 tk pg sc u.2.2.2) ∧ (N1e (vw t0 tk pg sc S) (vw t0 tk pg sc u.2.2.2) ∧ 0 ≤ u.2.2.1.toInt ∧ u.2.2.1.toInt ≤ 4000))) (fun u => (4000 - u.2.2.1.toInt).toNat) ?_ (by exact ⟨nS4, rfl, rfl, Rx_m PS4 (by decide), yS4, by (try clear hk37); grind [NZ, k_ii, k_ir, k_ri, k_rr, k_ai, k_ar, k_li, k_lr, k_qi, k_qr, ar_ci, ar_cl, ar_cq, la_ci, la_ca, la_cq, qa_ci, qa_ca, qa_cl, tk_link]⟩)
      rintro ⟨x0, x1, x2, Sl37⟩ k37 hI37 hk37
      replace hI37 : (FX [] S Sl37) ∧ (t0 = x0 ∧ a0 = x1 ∧ Rx (-2) (vw t0 tk pg sc S) (vw t0 tk pg sc Sl37) ∧ TY (-2) (vw t0 tk pg sc Sl37) ∧ (N1e (vw t0 tk pg sc S) (vw t0 tk pg sc Sl37) ∧ 0 ≤ x2.toInt ∧ x2.toInt ≤ 4000)) := hI37
      obtain ⟨nSl37, hI37⟩ := hI37
      replace hk37 : ∀ v : Nat × Int32 × Int32 × kS, (FX [] S v.2.2.2) ∧ (t0 = v.1 ∧ a0 = v.2.1 ∧ Rx (-2) (vw t0 tk pg sc S) (vw t0 tk pg sc v.2.2.2) ∧ TY (-2) (vw t0 tk pg sc v.2.2.2) ∧ (N1e (vw t0 tk pg sc S) (vw t0 tk pg sc v.2.2.2) ∧ 0 ≤ v.2.2.1.toInt ∧ v.2.2.1.toInt ≤ 4000)) → (4000 - v.2.2.1.toInt).toNat < (4000 - x2.toInt).toNat → k37 v := hk37
      show wT_X3_block_37 _ _ k37 x0 x1 x2 Sl37
      unfold wT_X3_block_37
      obtain ⟨rfl, hI37⟩ := hI37
      obtain ⟨rfl, hI37⟩ := hI37
      obtain ⟨PSl37, ySl37, hI37⟩ := hI37
      refine ⟨fun c5 => ?_, fun c5 => ?_⟩
      · unfold wT_X3_block_67
        refine kmT_X3_need _ _ _ _ _ (fun S14 hF6 pS14 => ?_) (sk_X3_need (tk := tk) (pg := pg) (sc := sc) _ _ (INJ_x nSl37 (by decide) hI) (ob_h nSl37 (by decide) hO14_t0) (ob_h nSl37 (by decide) hO15_t0) (ob_h nSl37 (by decide) hO16_t0) (Rx_g PSl37 hG_S))
        have nS14 : FX [] S S14 := FX_k hF6 (by decide) nSl37
        have kS14 : (vw t0 tk pg sc S14).1 17 = (vw t0 tk pg sc Sl37).1 17 := (vw_k hF6 (INJ_x nSl37 (by decide) hI) (by decide) (by decide)).1 17 (by decide)
        have PS14 := Rx_tr hG_S PSl37 pS14
        have yS14 := TY_r pS14 ySl37 ((vw_k hF6 (INJ_x nSl37 (by decide) hI) (by decide) (by decide)).1 17 (by decide)) ((vw_k hF6 (INJ_x nSl37 (by decide) hI) (by decide) (by decide)).2 28 (by decide) (by decide))
        clear hF6
        exact ⟨Rx_m PS14 (by decide), yS14, N1e_k hG_S PSl37 hI37.1 pS14 kS14⟩
      · refine kmT_X3_kind _ _ _ _ (fun S8 r8 hF7 pS8 => ?_) (sr_X3_kind (tk := tk) (pg := pg) (sc := sc) _ (INJ_x nSl37 (by decide) hI) (ob_h nSl37 (by decide) hO14_t0) (ob_h nSl37 (by decide) hO15_t0) (ob_h nSl37 (by decide) hO16_t0) (Rx_g PSl37 hG_S))
        obtain ⟨rfl, pS8⟩ := pS8
        clear hF7
        refine kmT_X3_startsStatement _ _ _ _ (fun S9 r9 hF8 pS9 => ?_) (sk_X3_startsStatement _ (INJ_x nSl37 (by decide) hI) )
        obtain ⟨rfl, pS9⟩ := pS9
        clear hF8
        refine ⟨fun c9 => ?_, fun c9 => ?_⟩
        · unfold wT_X3_block_67
          refine kmT_X3_need _ _ _ _ _ (fun S14 hF10 pS14 => ?_) (sk_X3_need (tk := tk) (pg := pg) (sc := sc) _ _ (INJ_x nSl37 (by decide) hI) (ob_h nSl37 (by decide) hO14_t0) (ob_h nSl37 (by decide) hO15_t0) (ob_h nSl37 (by decide) hO16_t0) (Rx_g PSl37 hG_S))
          have nS14 : FX [] S S14 := FX_k hF10 (by decide) nSl37
          have kS14 : (vw t0 tk pg sc S14).1 17 = (vw t0 tk pg sc Sl37).1 17 := (vw_k hF10 (INJ_x nSl37 (by decide) hI) (by decide) (by decide)).1 17 (by decide)
          have PS14 := Rx_tr hG_S PSl37 pS14
          have yS14 := TY_r pS14 ySl37 ((vw_k hF10 (INJ_x nSl37 (by decide) hI) (by decide) (by decide)).1 17 (by decide)) ((vw_k hF10 (INJ_x nSl37 (by decide) hI) (by decide) (by decide)).2 28 (by decide) (by decide))
          clear hF10
          exact ⟨Rx_m PS14 (by decide), yS14, N1e_k hG_S PSl37 hI37.1 pS14 kS14⟩
        · intro z11 ez11
          have hrz11 : -2147483648 ≤ a0.toInt + 1 ∧ a0.toInt + 1 < 2147483648 := by (try clear hk37); grind [NZ, k_ii, k_ir, k_ri, k_rr, k_ai, k_ar, k_li, k_lr, k_qi, k_qr, ar_ci, ar_cl, ar_cq, la_ci, la_ca, la_cq, qa_ci, qa_ca, qa_cl, tk_link]
          replace ez11 : z11.toInt = a0.toInt + 1 := w_add ez11 hrz11
          clear hrz11
          refine kmT_X3_statement hf_X3_block _ _ _ _ _ (fun S12 hF11 pS12 => ?_) (sk_X3_statement hf_X3_block hr_X3_block (tk := tk) (pg := pg) (sc := sc) _ _ (INJ_x nSl37 (by decide) hI) (ob_h nSl37 (by decide) hO14_t0) (ob_h nSl37 (by decide) hO15_t0) (ob_h nSl37 (by decide) hO16_t0) (Rx_g PSl37 hG_S) (BG_r PSl37 hB_S (by decide)) ySl37 (LK_r hG_S PSl37 hL_S) (DK_m (DK_r hG_S PSl37 hD_S) (by (try clear hk37); grind [NZ, k_ii, k_ir, k_ri, k_rr, k_ai, k_ar, k_li, k_lr, k_qi, k_qr, ar_ci, ar_cl, ar_cq, la_ci, la_ca, la_cq, qa_ci, qa_ca, qa_cl, tk_link])) (by (try clear hk37); grind [NZ, k_ii, k_ir, k_ri, k_rr, k_ai, k_ar, k_li, k_lr, k_qi, k_qr, ar_ci, ar_cl, ar_cq, la_ci, la_ca, la_cq, qa_ci, qa_ca, qa_cl, tk_link]) (by (try clear hk37); grind [NZ, k_ii, k_ir, k_ri, k_rr, k_ai, k_ar, k_li, k_lr, k_qi, k_qr, ar_ci, ar_cl, ar_cq, la_ci, la_ca, la_cq, qa_ci, qa_ca, qa_cl, tk_link]) (by (try clear hk37); grind [NZ, k_ii, k_ir, k_ri, k_rr, k_ai, k_ar, k_li, k_lr, k_qi, k_qr, ar_ci, ar_cl, ar_cq, la_ci, la_ca, la_cq, qa_ci, qa_ca, qa_cl, tk_link]))
          have nS12 : FX [] S S12 := FX_k hF11 (by decide) nSl37
          have PS12 := Rx_tr hG_S PSl37 pS12.1
          have yS12 := pS12.2.1
          clear hF11
          have xS12 := N1e_t hG_S PSl37 hI37.1 pS12.1 pS12.2.2
          intro z13 ez13
          have hrz13 : -2147483648 ≤ x2.toInt + 1 ∧ x2.toInt + 1 < 2147483648 := by (try clear hk37); grind [NZ, k_ii, k_ir, k_ri, k_rr, k_ai, k_ar, k_li, k_lr, k_qi, k_qr, ar_ci, ar_cl, ar_cq, la_ci, la_ca, la_cq, qa_ci, qa_ca, qa_cl, tk_link]
          replace ez13 : z13.toInt = x2.toInt + 1 := w_add ez13 hrz13
          clear hrz13
          exact hk37 _ (by exact ⟨nS12, rfl, rfl, Rx_m PS12 (by decide), yS12, by (try clear hk37); grind [NZ, k_ii, k_ir, k_ri, k_rr, k_ai, k_ar, k_li, k_lr, k_qi, k_qr, ar_ci, ar_cl, ar_cq, la_ci, la_ca, la_cq, qa_ci, qa_ca, qa_cl, tk_link]⟩) (by (try clear hk37); grind [NZ, k_ii, k_ir, k_ri, k_rr, k_ai, k_ar, k_li, k_lr, k_qi, k_qr, ar_ci, ar_cl, ar_cq, la_ci, la_ca, la_cq, qa_ci, qa_ca, qa_cl, tk_link])
    · refine kmT_X3_wrong _ _ _ _ _ (fun S5 hF12 pS5 => ?_) (sr_X3_wrong (tk := tk) (pg := pg) (sc := sc) _ _ (INJ_x nS (by decide) hI) (ob_h nS (by decide) hO14_t0) (ob_h nS (by decide) hO15_t0) (ob_h nS (by decide) hO16_t0) (Rx_g PS hG_S) ((by decide)))
      have nS5 : FX [] S S5 := FX_k hF12 (by decide) nS
      have kS5 : (vw t0 tk pg sc S5).1 17 = (vw t0 tk pg sc S).1 17 := (vw_k hF12 (INJ_x nS (by decide) hI) (by decide) (by decide)).1 17 (by decide)
      have PS5 := Rx_tr hG_S PS pS5.1
      have fS5 : (vw t0 tk pg sc S5).1 7 ≠ 0 := pS5.2
      clear hF12
      exact ⟨Rx_m PS5 (by decide), (fun q => absurd q fS5), N1e_x fS5⟩
  · refine kmT_X3_wrong _ _ _ _ _ (fun S6 hF13 pS6 => ?_) (sr_X3_wrong (tk := tk) (pg := pg) (sc := sc) _ _ (INJ_x nS (by decide) hI) (ob_h nS (by decide) hO14_t0) (ob_h nS (by decide) hO15_t0) (ob_h nS (by decide) hO16_t0) (Rx_g PS hG_S) ((by decide)))
    have nS6 : FX [] S S6 := FX_k hF13 (by decide) nS
    have kS6 : (vw t0 tk pg sc S6).1 17 = (vw t0 tk pg sc S).1 17 := (vw_k hF13 (INJ_x nS (by decide) hI) (by decide) (by decide)).1 17 (by decide)
    have PS6 := Rx_tr hG_S PS pS6.1
    have fS6 : (vw t0 tk pg sc S6).1 7 ≠ 0 := pS6.2
    clear hF13
    exact ⟨Rx_m PS6 (by decide), (fun q => absurd q fS6), N1e_x fS6⟩
