
set_option maxHeartbeats 400000 in
theorem sk_X3_header {tk pg sc : Nat} (t0 : Nat) {S : kS} (hI : INJ S) (hO14_t0 : S.2.1 14 t0 = some tk) (hO15_t0 : S.2.1 15 t0 = some pg) (hO16_t0 : S.2.1 16 t0 = some sc) (hG_S : RG (vw t0 tk pg sc S)) (hB_S : BG 12 (vw t0 tk pg sc S)) (hT_S : TY (-2) (vw t0 tk pg sc S)) (hz : NZ (vw t0 tk pg sc S)) : wT_X3_header t0 S (fun S1 => HDP (vw t0 tk pg sc S) (vw t0 tk pg sc S1)) := by
  have nS : FX [] S S := FX_rf
  have PS : Rx 0 (vw t0 tk pg sc S) (vw t0 tk pg sc S) := Rx_rf
  have yS := hT_S
  unfold wT_X3_header
  intro z1 ez1
  refine ⟨pg, ob_e nS (by decide) hO15_t0 ez1, ?_⟩
  intro z3 ez3
  refine ⟨fun c1 => ?_, fun c1 => ?_⟩
  · unfold wT_X3_header_17
    refine kmT_X3_step _ _ _ _ (fun S6 hF2 pS6 => ?_) (sr_X3_step (tk := tk) (pg := pg) (sc := sc) _ (INJ_x nS (by decide) hI) (ob_h nS (by decide) hO14_t0) (ob_h nS (by decide) hO15_t0) (ob_h nS (by decide) hO16_t0) (Rx_g PS hG_S) hz)
    have nS6 : FX [] S S6 := FX_k hF2 (by decide) nS
    have PS6 := Rx_tr hG_S PS pS6
    have yS6 := TY_r pS6 yS ((vw_k hF2 (INJ_x nS (by decide) hI) (by decide) (by decide)).1 17 (by decide)) ((vw_k hF2 (INJ_x nS (by decide) hI) (by decide) (by decide)).2 28 (by decide) (by decide))
    clear hF2
    refine kmT_X3_kind _ _ _ _ (fun S7 r7 hF3 pS7 => ?_) (sr_X3_kind (tk := tk) (pg := pg) (sc := sc) _ (INJ_x nS6 (by decide) hI) (ob_h nS6 (by decide) hO14_t0) (ob_h nS6 (by decide) hO15_t0) (ob_h nS6 (by decide) hO16_t0) (Rx_g PS6 hG_S))
    obtain ⟨rfl, pS7⟩ := pS7
    clear hF3
    refine ⟨fun c4 => ?_, fun c4 => ?_⟩
    · intro z9 ez9
      intro z10 ez10
      intro q11 eq11
      obtain rfl := ob_q nS6 (by decide) hO14_t0 ez10 eq11
      intro z12 ez12
      intro z13 ez13
      have dz13 : 0 ≤ z13.toInt ∧ z13.toInt ≤ 4001 := by rw [ez13]; exact ⟨(Rx_g PS6 hG_S).1.1, (Rx_g PS6 hG_S).1.2.1⟩
      intro q14 eq14
      have wq14 := rd_w nS6 (by decide) ez12 eq14
      refine ⟨by (try clear hk111); grind [NZ, k_ii, k_ir, k_ri, k_rr, k_ai, k_ar, k_li, k_lr, k_qi, k_qr, ar_ci, ar_cl, ar_cq, la_ci, la_ca, la_cq, qa_ci, qa_ca, qa_cl, tk_link, kn4002], ?_⟩
      intro z15 ez15
      replace ez15 := ez15.trans (la_rd nS6 (by decide) (by decide) wq14)
      refine ⟨pg, ob_e nS6 (by decide) hO15_t0 ez9, ?_⟩
      refine kmT_X5_routineNamed _ _ _ _ _ (fun S17 r17 hF5 pS17 => ?_) (sk_X5_routineNamed _ _ (INJ_x nS6 (by decide) hI) (⟨(show 0 ≤ (vw t0 tk pg sc S6).1 18 from (Rx_g PS6 hG_S).2.2.1.1), (show (vw t0 tk pg sc S6).1 18 ≤ 12 from (Rx_g PS6 hG_S).2.2.1.2)⟩))
      obtain ⟨rfl, pS17⟩ := pS17
      clear hF5
      have nz6 : NZ (vw t0 tk pg sc S6) := by unfold NZ; rw [← pS7, show r7 = 3 by assumption]; decide
      refine ⟨fun c6 => ?_, fun c6 => ?_⟩
      · intro z19 ez19
        intro z20 ez20
        intro q21 eq21
        obtain rfl := ob_q nS6 (by decide) hO14_t0 ez20 eq21
        intro z22 ez22
        intro z23 ez23
        have dz23 : 0 ≤ z23.toInt ∧ z23.toInt ≤ 4001 := by rw [ez23]; exact ⟨(Rx_g PS6 hG_S).1.1, (Rx_g PS6 hG_S).1.2.1⟩
        intro q24 eq24
        have wq24 := rd_w nS6 (by decide) ez22 eq24
        refine ⟨by (try clear hk111); grind [NZ, k_ii, k_ir, k_ri, k_rr, k_ai, k_ar, k_li, k_lr, k_qi, k_qr, ar_ci, ar_cl, ar_cq, la_ci, la_ca, la_cq, qa_ci, qa_ca, qa_cl, tk_link, kn4002], ?_⟩
        intro z25 ez25
        replace ez25 := ez25.trans (la_rd nS6 (by decide) (by decide) wq24)
        refine ⟨pg, ob_e nS6 (by decide) hO15_t0 ez19, ?_⟩
        refine kmT_X5_openRoutine _ _ _ _ _ (fun S27 hF7 pS27 => ?_) (sr_X5_openRoutine (x0 := t0) (tk := tk) (sc := sc) _ _ (INJ_x nS6 (by decide) hI) (Rx_g PS6 hG_S))
        have nS27 : FX [] S S27 := FX_k hF7 (by decide) nS6
        have VS27 := vw_k (t0 := t0) (tk := tk) (pg := pg) (sc := sc) hF7 (INJ_x nS6 (by decide) hI) (by decide) (by decide)
        clear hF7
        have opn := pS27.resolve_left (fun h => by have h1 := h.1; have h2 := PS6.2.2.2.1.2.2.1; have h3 : z3.toInt = (vw t0 tk pg sc S).1 18 := (by rw [ez3]; rfl); have h4 : z3.toInt < 12 := (by (try clear hk111); grind [NZ, k_ii, k_ir, k_ri, k_rr, k_ai, k_ar, k_li, k_lr, k_qi, k_qr, ar_ci, ar_cl, ar_cq, la_ci, la_ca, la_cq, qa_ci, qa_ca, qa_cl, tk_link, kn4002]); omega)
        have hG_S27 : RG (vw t0 tk pg sc S27) := opn.2.2.2.2.1
        have hB_S27 : BG 12 (vw t0 tk pg sc S27) := BG_v opn.2.2.2.1 (by decide) (BG_r PS6 hB_S (by decide))
        have yS27 : TY (-2) (vw t0 tk pg sc S27) := TY_v opn.2.2.2.1 (by decide) (by decide) yS6
        have PS27 : Rx 0 (vw t0 tk pg sc S27) (vw t0 tk pg sc S27) := Rx_rf
        have nz27 : NZ (vw t0 tk pg sc S27) := NZ_vf opn.2.2.2.1 (by decide) (by decide) nz6
        refine kmT_X3_step _ _ _ _ (fun S28 hF8 pS28 => ?_) (sr_X3_step (tk := tk) (pg := pg) (sc := sc) _ (INJ_x nS27 (by decide) hI) (ob_h nS27 (by decide) hO14_t0) (ob_h nS27 (by decide) hO15_t0) (ob_h nS27 (by decide) hO16_t0) (Rx_g PS27 hG_S27) nz27)
        have nS28 : FX [] S S28 := FX_k hF8 (by decide) nS27
        have PS28 := Rx_tr hG_S27 PS27 pS28
        have yS28 := TY_r pS28 yS27 ((vw_k hF8 (INJ_x nS27 (by decide) hI) (by decide) (by decide)).1 17 (by decide)) ((vw_k hF8 (INJ_x nS27 (by decide) hI) (by decide) (by decide)).2 28 (by decide) (by decide))
        clear hF8
        unfold wT_X3_header_91
        refine kmT_X3_need _ _ _ _ _ (fun S31 hF9 pS31 => ?_) (sk_X3_need (tk := tk) (pg := pg) (sc := sc) _ _ (INJ_x nS28 (by decide) hI) (ob_h nS28 (by decide) hO14_t0) (ob_h nS28 (by decide) hO15_t0) (ob_h nS28 (by decide) hO16_t0) (Rx_g PS28 hG_S27))
        have nS31 : FX [] S S31 := FX_k hF9 (by decide) nS28
        have PS31 := Rx_tr hG_S27 PS28 pS31
        have yS31 := TY_r pS31 yS28 ((vw_k hF9 (INJ_x nS28 (by decide) hI) (by decide) (by decide)).1 17 (by decide)) ((vw_k hF9 (INJ_x nS28 (by decide) hI) (by decide) (by decide)).2 28 (by decide) (by decide))
        clear hF9
        refine kmT_X3_kind _ _ _ _ (fun S32 r32 hF10 pS32 => ?_) (sr_X3_kind (tk := tk) (pg := pg) (sc := sc) _ (INJ_x nS31 (by decide) hI) (ob_h nS31 (by decide) hO14_t0) (ob_h nS31 (by decide) hO15_t0) (ob_h nS31 (by decide) hO16_t0) (Rx_g PS31 hG_S27))
        obtain ⟨rfl, pS32⟩ := pS32
        clear hF10
        refine ⟨fun c11 => ?_, fun c11 => ?_⟩
        · unfold wT_X3_header_137
          refine kmT_X3_need _ _ _ _ _ (fun S40 hF12 pS40 => ?_) (sk_X3_need (tk := tk) (pg := pg) (sc := sc) _ _ (INJ_x nS31 (by decide) hI) (ob_h nS31 (by decide) hO14_t0) (ob_h nS31 (by decide) hO15_t0) (ob_h nS31 (by decide) hO16_t0) (Rx_g PS31 hG_S27))
          have nS40 : FX [] S S40 := FX_k hF12 (by decide) nS31
          have PS40 := Rx_tr hG_S27 PS31 pS40
          have yS40 := TY_r pS40 yS31 ((vw_k hF12 (INJ_x nS31 (by decide) hI) (by decide) (by decide)).1 17 (by decide)) ((vw_k hF12 (INJ_x nS31 (by decide) hI) (by decide) (by decide)).2 28 (by decide) (by decide))
          clear hF12
          exact Or.inr ⟨(vw t0 tk pg sc S6), (vw t0 tk pg sc S27), Rx_m PS6 (by decide), yS6, opn, Rx_m PS40 (by decide)⟩
        · refine kmT_X3_givenCell _ _ _ _ (fun S34 hF13 pS34 => ?_) (sk_X3_givenCell (tk := tk) (pg := pg) (sc := sc) _ (INJ_x nS31 (by decide) hI) (ob_h nS31 (by decide) hO14_t0) (ob_h nS31 (by decide) hO15_t0) (ob_h nS31 (by decide) hO16_t0) (Rx_g PS31 hG_S27) (fun q => by have h1 := PS31.2.2.2.1.2.2.1; have h2 := opn.2.1; have h3 := (Rx_g PS6 hG_S).2.2.1.1; omega))
          have nS34 : FX [] S S34 := FX_k hF13 (by decide) nS31
          have PS34 := Rx_tr hG_S27 PS31 pS34
          have yS34 := TY_r pS34 yS31 ((vw_k hF13 (INJ_x nS31 (by decide) hI) (by decide) (by decide)).1 17 (by decide)) ((vw_k hF13 (INJ_x nS31 (by decide) hI) (by decide) (by decide)).2 28 (by decide) (by decide))
          clear hF13
          refine it_rule (fun u : Nat × Int32 × kS => (FX [] S u.2.2) ∧ (t0 = u.1 ∧ Rx (-2) (vw t0 tk pg sc S27) (vw t0 tk pg sc u.2.2) ∧ TY (-2) (vw t0 tk pg sc u.2.2) ∧ (0 ≤ u.2.1.toInt ∧ u.2.1.toInt ≤ 4000))) (fun u => (4000 - u.2.1.toInt).toNat) ?_ (by exact ⟨nS34, rfl, Rx_m PS34 (by decide), yS34, by (try clear hk111); grind [NZ, k_ii, k_ir, k_ri, k_rr, k_ai, k_ar, k_li, k_lr, k_qi, k_qr, ar_ci, ar_cl, ar_cq, la_ci, la_ca, la_cq, qa_ci, qa_ca, qa_cl, tk_link, kn4002]⟩)
          rintro ⟨x0, x1, Sl111⟩ k111 hI111 hk111
          replace hI111 : (FX [] S Sl111) ∧ (t0 = x0 ∧ Rx (-2) (vw t0 tk pg sc S27) (vw t0 tk pg sc Sl111) ∧ TY (-2) (vw t0 tk pg sc Sl111) ∧ (0 ≤ x1.toInt ∧ x1.toInt ≤ 4000)) := hI111
          obtain ⟨nSl111, hI111⟩ := hI111
          replace hk111 : ∀ v : Nat × Int32 × kS, (FX [] S v.2.2) ∧ (t0 = v.1 ∧ Rx (-2) (vw t0 tk pg sc S27) (vw t0 tk pg sc v.2.2) ∧ TY (-2) (vw t0 tk pg sc v.2.2) ∧ (0 ≤ v.2.1.toInt ∧ v.2.1.toInt ≤ 4000)) → (4000 - v.2.1.toInt).toNat < (4000 - x1.toInt).toNat → k111 v := hk111
          show wT_X3_header_111 _ k111 x0 x1 Sl111
          unfold wT_X3_header_111
          obtain ⟨rfl, hI111⟩ := hI111
          obtain ⟨PSl111, ySl111, hI111⟩ := hI111
          refine ⟨fun c14 => ?_, fun c14 => ?_⟩
          · unfold wT_X3_header_137
            refine kmT_X3_need _ _ _ _ _ (fun S40 hF15 pS40 => ?_) (sk_X3_need (tk := tk) (pg := pg) (sc := sc) _ _ (INJ_x nSl111 (by decide) hI) (ob_h nSl111 (by decide) hO14_t0) (ob_h nSl111 (by decide) hO15_t0) (ob_h nSl111 (by decide) hO16_t0) (Rx_g PSl111 hG_S27))
            have nS40 : FX [] S S40 := FX_k hF15 (by decide) nSl111
            have PS40 := Rx_tr hG_S27 PSl111 pS40
            have yS40 := TY_r pS40 ySl111 ((vw_k hF15 (INJ_x nSl111 (by decide) hI) (by decide) (by decide)).1 17 (by decide)) ((vw_k hF15 (INJ_x nSl111 (by decide) hI) (by decide) (by decide)).2 28 (by decide) (by decide))
            clear hF15
            exact Or.inr ⟨(vw t0 tk pg sc S6), (vw t0 tk pg sc S27), Rx_m PS6 (by decide), yS6, opn, Rx_m PS40 (by decide)⟩
          · refine kmT_X3_take _ _ _ _ _ (fun S36 r36 hF16 pS36 => ?_) (sr_X3_take (tk := tk) (pg := pg) (sc := sc) _ _ (INJ_x nSl111 (by decide) hI) (ob_h nSl111 (by decide) hO14_t0) (ob_h nSl111 (by decide) hO15_t0) (ob_h nSl111 (by decide) hO16_t0) (Rx_g PSl111 hG_S27))
            have nS36 : FX [] S S36 := FX_k hF16 (by decide) nSl111
            have PS36 := Rx_tr hG_S27 PSl111 pS36.1
            have yS36 := TY_r pS36.1 ySl111 ((vw_k hF16 (INJ_x nSl111 (by decide) hI) (by decide) (by decide)).1 17 (by decide)) ((vw_k hF16 (INJ_x nSl111 (by decide) hI) (by decide) (by decide)).2 28 (by decide) (by decide))
            clear hF16
            refine ⟨fun c17 => ?_, fun c17 => ?_⟩
            · unfold wT_X3_header_137
              refine kmT_X3_need _ _ _ _ _ (fun S40 hF18 pS40 => ?_) (sk_X3_need (tk := tk) (pg := pg) (sc := sc) _ _ (INJ_x nS36 (by decide) hI) (ob_h nS36 (by decide) hO14_t0) (ob_h nS36 (by decide) hO15_t0) (ob_h nS36 (by decide) hO16_t0) (Rx_g PS36 hG_S27))
              have nS40 : FX [] S S40 := FX_k hF18 (by decide) nS36
              have PS40 := Rx_tr hG_S27 PS36 pS40
              have yS40 := TY_r pS40 yS36 ((vw_k hF18 (INJ_x nS36 (by decide) hI) (by decide) (by decide)).1 17 (by decide)) ((vw_k hF18 (INJ_x nS36 (by decide) hI) (by decide) (by decide)).2 28 (by decide) (by decide))
              clear hF18
              exact Or.inr ⟨(vw t0 tk pg sc S6), (vw t0 tk pg sc S27), Rx_m PS6 (by decide), yS6, opn, Rx_m PS40 (by decide)⟩
            · refine kmT_X3_givenCell _ _ _ _ (fun S38 hF19 pS38 => ?_) (sk_X3_givenCell (tk := tk) (pg := pg) (sc := sc) _ (INJ_x nS36 (by decide) hI) (ob_h nS36 (by decide) hO14_t0) (ob_h nS36 (by decide) hO15_t0) (ob_h nS36 (by decide) hO16_t0) (Rx_g PS36 hG_S27) (fun q => by have h1 := PS36.2.2.2.1.2.2.1; have h2 := opn.2.1; have h3 := (Rx_g PS6 hG_S).2.2.1.1; omega))
              have nS38 : FX [] S S38 := FX_k hF19 (by decide) nS36
              have PS38 := Rx_tr hG_S27 PS36 pS38
              have yS38 := TY_r pS38 yS36 ((vw_k hF19 (INJ_x nS36 (by decide) hI) (by decide) (by decide)).1 17 (by decide)) ((vw_k hF19 (INJ_x nS36 (by decide) hI) (by decide) (by decide)).2 28 (by decide) (by decide))
              clear hF19
              intro z39 ez39
              have hrz39 : -2147483648 ≤ x1.toInt + 1 ∧ x1.toInt + 1 < 2147483648 := by (try clear hk111); grind [NZ, k_ii, k_ir, k_ri, k_rr, k_ai, k_ar, k_li, k_lr, k_qi, k_qr, ar_ci, ar_cl, ar_cq, la_ci, la_ca, la_cq, qa_ci, qa_ca, qa_cl, tk_link, kn4002]
              replace ez39 : z39.toInt = x1.toInt + 1 := w_add ez39 hrz39
              clear hrz39
              exact hk111 _ (by exact ⟨nS38, rfl, Rx_m PS38 (by decide), yS38, by (try clear hk111); grind [NZ, k_ii, k_ir, k_ri, k_rr, k_ai, k_ar, k_li, k_lr, k_qi, k_qr, ar_ci, ar_cl, ar_cq, la_ci, la_ca, la_cq, qa_ci, qa_ca, qa_cl, tk_link, kn4002]⟩) (by (try clear hk111); grind [NZ, k_ii, k_ir, k_ri, k_rr, k_ai, k_ar, k_li, k_lr, k_qi, k_qr, ar_ci, ar_cl, ar_cq, la_ci, la_ca, la_cq, qa_ci, qa_ca, qa_cl, tk_link, kn4002])
      · refine kmT_X3_wrong _ _ _ _ _ (fun S29 hF20 pS29 => ?_) (sr_X3_wrong (tk := tk) (pg := pg) (sc := sc) _ _ (INJ_x nS6 (by decide) hI) (ob_h nS6 (by decide) hO14_t0) (ob_h nS6 (by decide) hO15_t0) (ob_h nS6 (by decide) hO16_t0) (Rx_g PS6 hG_S) ((by decide)))
        have nS29 : FX [] S S29 := FX_k hF20 (by decide) nS6
        have PS29 := Rx_tr hG_S PS6 pS29.1
        have fS29 : (vw t0 tk pg sc S29).1 7 ≠ 0 := pS29.2
        clear hF20
        unfold wT_X3_header_91
        refine kmT_X3_need _ _ _ _ _ (fun S31 hF21 pS31 => ?_) (sk_X3_need (tk := tk) (pg := pg) (sc := sc) _ _ (INJ_x nS29 (by decide) hI) (ob_h nS29 (by decide) hO14_t0) (ob_h nS29 (by decide) hO15_t0) (ob_h nS29 (by decide) hO16_t0) (Rx_g PS29 hG_S))
        have nS31 : FX [] S S31 := FX_k hF21 (by decide) nS29
        have PS31 := Rx_tr hG_S PS29 pS31
        have fS31 : (vw t0 tk pg sc S31).1 7 ≠ 0 := fun h9 => fS29 (pS31.2.2.1 h9)
        clear hF21
        refine kmT_X3_kind _ _ _ _ (fun S32 r32 hF22 pS32 => ?_) (sr_X3_kind (tk := tk) (pg := pg) (sc := sc) _ (INJ_x nS31 (by decide) hI) (ob_h nS31 (by decide) hO14_t0) (ob_h nS31 (by decide) hO15_t0) (ob_h nS31 (by decide) hO16_t0) (Rx_g PS31 hG_S))
        obtain ⟨rfl, pS32⟩ := pS32
        clear hF22
        refine ⟨fun c23 => ?_, fun c23 => ?_⟩
        · unfold wT_X3_header_137
          refine kmT_X3_need _ _ _ _ _ (fun S40 hF24 pS40 => ?_) (sk_X3_need (tk := tk) (pg := pg) (sc := sc) _ _ (INJ_x nS31 (by decide) hI) (ob_h nS31 (by decide) hO14_t0) (ob_h nS31 (by decide) hO15_t0) (ob_h nS31 (by decide) hO16_t0) (Rx_g PS31 hG_S))
          have nS40 : FX [] S S40 := FX_k hF24 (by decide) nS31
          have PS40 := Rx_tr hG_S PS31 pS40
          have fS40 : (vw t0 tk pg sc S40).1 7 ≠ 0 := fun h9 => fS31 (pS40.2.2.1 h9)
          clear hF24
          exact Or.inl ⟨Rx_x PS40 fS40, fS40⟩
        · refine kmT_X3_givenCell _ _ _ _ (fun S34 hF25 pS34 => ?_) (sk_X3_givenCell (tk := tk) (pg := pg) (sc := sc) _ (INJ_x nS31 (by decide) hI) (ob_h nS31 (by decide) hO14_t0) (ob_h nS31 (by decide) hO15_t0) (ob_h nS31 (by decide) hO16_t0) (Rx_g PS31 hG_S) (fun q => absurd q fS31))
          have nS34 : FX [] S S34 := FX_k hF25 (by decide) nS31
          have PS34 := Rx_tr hG_S PS31 pS34
          have fS34 : (vw t0 tk pg sc S34).1 7 ≠ 0 := fun h9 => fS31 (pS34.2.2.1 h9)
          clear hF25
          refine it_rule (fun u : Nat × Int32 × kS => (FX [] S u.2.2) ∧ (t0 = u.1 ∧ Rx (-2) (vw t0 tk pg sc S) (vw t0 tk pg sc u.2.2) ∧ TY (-2) (vw t0 tk pg sc u.2.2) ∧ ((0 ≤ u.2.1.toInt ∧ u.2.1.toInt ≤ 4000) ∧ (vw t0 tk pg sc u.2.2).1 7 ≠ 0))) (fun u => (4000 - u.2.1.toInt).toNat) ?_ (by exact ⟨nS34, rfl, Rx_m PS34 (by decide), (fun q => absurd q fS34), by (try clear hk111); grind [NZ, k_ii, k_ir, k_ri, k_rr, k_ai, k_ar, k_li, k_lr, k_qi, k_qr, ar_ci, ar_cl, ar_cq, la_ci, la_ca, la_cq, qa_ci, qa_ca, qa_cl, tk_link, kn4002]⟩)
          rintro ⟨x0, x1, Sl111⟩ k111 hI111 hk111
          replace hI111 : (FX [] S Sl111) ∧ (t0 = x0 ∧ Rx (-2) (vw t0 tk pg sc S) (vw t0 tk pg sc Sl111) ∧ TY (-2) (vw t0 tk pg sc Sl111) ∧ ((0 ≤ x1.toInt ∧ x1.toInt ≤ 4000) ∧ (vw t0 tk pg sc Sl111).1 7 ≠ 0)) := hI111
          obtain ⟨nSl111, hI111⟩ := hI111
          replace hk111 : ∀ v : Nat × Int32 × kS, (FX [] S v.2.2) ∧ (t0 = v.1 ∧ Rx (-2) (vw t0 tk pg sc S) (vw t0 tk pg sc v.2.2) ∧ TY (-2) (vw t0 tk pg sc v.2.2) ∧ ((0 ≤ v.2.1.toInt ∧ v.2.1.toInt ≤ 4000) ∧ (vw t0 tk pg sc v.2.2).1 7 ≠ 0)) → (4000 - v.2.1.toInt).toNat < (4000 - x1.toInt).toNat → k111 v := hk111
          show wT_X3_header_111 _ k111 x0 x1 Sl111
          unfold wT_X3_header_111
          obtain ⟨rfl, hI111⟩ := hI111
          obtain ⟨PSl111, ySl111, hI111⟩ := hI111
          obtain ⟨hI111, fSl111⟩ := hI111
          refine ⟨fun c26 => ?_, fun c26 => ?_⟩
          · unfold wT_X3_header_137
            refine kmT_X3_need _ _ _ _ _ (fun S40 hF27 pS40 => ?_) (sk_X3_need (tk := tk) (pg := pg) (sc := sc) _ _ (INJ_x nSl111 (by decide) hI) (ob_h nSl111 (by decide) hO14_t0) (ob_h nSl111 (by decide) hO15_t0) (ob_h nSl111 (by decide) hO16_t0) (Rx_g PSl111 hG_S))
            have nS40 : FX [] S S40 := FX_k hF27 (by decide) nSl111
            have PS40 := Rx_tr hG_S PSl111 pS40
            have fS40 : (vw t0 tk pg sc S40).1 7 ≠ 0 := fun h9 => fSl111 (pS40.2.2.1 h9)
            clear hF27
            exact Or.inl ⟨Rx_x PS40 fS40, fS40⟩
          · refine kmT_X3_take _ _ _ _ _ (fun S36 r36 hF28 pS36 => ?_) (sr_X3_take (tk := tk) (pg := pg) (sc := sc) _ _ (INJ_x nSl111 (by decide) hI) (ob_h nSl111 (by decide) hO14_t0) (ob_h nSl111 (by decide) hO15_t0) (ob_h nSl111 (by decide) hO16_t0) (Rx_g PSl111 hG_S))
            have nS36 : FX [] S S36 := FX_k hF28 (by decide) nSl111
            have PS36 := Rx_tr hG_S PSl111 pS36.1
            have fS36 : (vw t0 tk pg sc S36).1 7 ≠ 0 := fun h9 => fSl111 (pS36.1.2.2.1 h9)
            clear hF28
            refine ⟨fun c29 => ?_, fun c29 => ?_⟩
            · unfold wT_X3_header_137
              refine kmT_X3_need _ _ _ _ _ (fun S40 hF30 pS40 => ?_) (sk_X3_need (tk := tk) (pg := pg) (sc := sc) _ _ (INJ_x nS36 (by decide) hI) (ob_h nS36 (by decide) hO14_t0) (ob_h nS36 (by decide) hO15_t0) (ob_h nS36 (by decide) hO16_t0) (Rx_g PS36 hG_S))
              have nS40 : FX [] S S40 := FX_k hF30 (by decide) nS36
              have PS40 := Rx_tr hG_S PS36 pS40
              have fS40 : (vw t0 tk pg sc S40).1 7 ≠ 0 := fun h9 => fS36 (pS40.2.2.1 h9)
              clear hF30
              exact Or.inl ⟨Rx_x PS40 fS40, fS40⟩
            · refine kmT_X3_givenCell _ _ _ _ (fun S38 hF31 pS38 => ?_) (sk_X3_givenCell (tk := tk) (pg := pg) (sc := sc) _ (INJ_x nS36 (by decide) hI) (ob_h nS36 (by decide) hO14_t0) (ob_h nS36 (by decide) hO15_t0) (ob_h nS36 (by decide) hO16_t0) (Rx_g PS36 hG_S) (fun q => absurd q fS36))
              have nS38 : FX [] S S38 := FX_k hF31 (by decide) nS36
              have PS38 := Rx_tr hG_S PS36 pS38
              have fS38 : (vw t0 tk pg sc S38).1 7 ≠ 0 := fun h9 => fS36 (pS38.2.2.1 h9)
              clear hF31
              intro z39 ez39
              have hrz39 : -2147483648 ≤ x1.toInt + 1 ∧ x1.toInt + 1 < 2147483648 := by (try clear hk111); grind [NZ, k_ii, k_ir, k_ri, k_rr, k_ai, k_ar, k_li, k_lr, k_qi, k_qr, ar_ci, ar_cl, ar_cq, la_ci, la_ca, la_cq, qa_ci, qa_ca, qa_cl, tk_link, kn4002]
              replace ez39 : z39.toInt = x1.toInt + 1 := w_add ez39 hrz39
              clear hrz39
              exact hk111 _ (by exact ⟨nS38, rfl, Rx_m PS38 (by decide), (fun q => absurd q fS38), by (try clear hk111); grind [NZ, k_ii, k_ir, k_ri, k_rr, k_ai, k_ar, k_li, k_lr, k_qi, k_qr, ar_ci, ar_cl, ar_cq, la_ci, la_ca, la_cq, qa_ci, qa_ca, qa_cl, tk_link, kn4002]⟩) (by (try clear hk111); grind [NZ, k_ii, k_ir, k_ri, k_rr, k_ai, k_ar, k_li, k_lr, k_qi, k_qr, ar_ci, ar_cl, ar_cq, la_ci, la_ca, la_cq, qa_ci, qa_ca, qa_cl, tk_link, kn4002])
    · refine kmT_X3_wrong _ _ _ _ _ (fun S30 hF32 pS30 => ?_) (sr_X3_wrong (tk := tk) (pg := pg) (sc := sc) _ _ (INJ_x nS6 (by decide) hI) (ob_h nS6 (by decide) hO14_t0) (ob_h nS6 (by decide) hO15_t0) (ob_h nS6 (by decide) hO16_t0) (Rx_g PS6 hG_S) ((by decide)))
      have nS30 : FX [] S S30 := FX_k hF32 (by decide) nS6
      have PS30 := Rx_tr hG_S PS6 pS30.1
      have fS30 : (vw t0 tk pg sc S30).1 7 ≠ 0 := pS30.2
      clear hF32
      unfold wT_X3_header_91
      refine kmT_X3_need _ _ _ _ _ (fun S31 hF33 pS31 => ?_) (sk_X3_need (tk := tk) (pg := pg) (sc := sc) _ _ (INJ_x nS30 (by decide) hI) (ob_h nS30 (by decide) hO14_t0) (ob_h nS30 (by decide) hO15_t0) (ob_h nS30 (by decide) hO16_t0) (Rx_g PS30 hG_S))
      have nS31 : FX [] S S31 := FX_k hF33 (by decide) nS30
      have PS31 := Rx_tr hG_S PS30 pS31
      have fS31 : (vw t0 tk pg sc S31).1 7 ≠ 0 := fun h9 => fS30 (pS31.2.2.1 h9)
      clear hF33
      refine kmT_X3_kind _ _ _ _ (fun S32 r32 hF34 pS32 => ?_) (sr_X3_kind (tk := tk) (pg := pg) (sc := sc) _ (INJ_x nS31 (by decide) hI) (ob_h nS31 (by decide) hO14_t0) (ob_h nS31 (by decide) hO15_t0) (ob_h nS31 (by decide) hO16_t0) (Rx_g PS31 hG_S))
      obtain ⟨rfl, pS32⟩ := pS32
      clear hF34
      refine ⟨fun c35 => ?_, fun c35 => ?_⟩
      · unfold wT_X3_header_137
        refine kmT_X3_need _ _ _ _ _ (fun S40 hF36 pS40 => ?_) (sk_X3_need (tk := tk) (pg := pg) (sc := sc) _ _ (INJ_x nS31 (by decide) hI) (ob_h nS31 (by decide) hO14_t0) (ob_h nS31 (by decide) hO15_t0) (ob_h nS31 (by decide) hO16_t0) (Rx_g PS31 hG_S))
        have nS40 : FX [] S S40 := FX_k hF36 (by decide) nS31
        have PS40 := Rx_tr hG_S PS31 pS40
        have fS40 : (vw t0 tk pg sc S40).1 7 ≠ 0 := fun h9 => fS31 (pS40.2.2.1 h9)
        clear hF36
        exact Or.inl ⟨Rx_x PS40 fS40, fS40⟩
      · refine kmT_X3_givenCell _ _ _ _ (fun S34 hF37 pS34 => ?_) (sk_X3_givenCell (tk := tk) (pg := pg) (sc := sc) _ (INJ_x nS31 (by decide) hI) (ob_h nS31 (by decide) hO14_t0) (ob_h nS31 (by decide) hO15_t0) (ob_h nS31 (by decide) hO16_t0) (Rx_g PS31 hG_S) (fun q => absurd q fS31))
        have nS34 : FX [] S S34 := FX_k hF37 (by decide) nS31
        have PS34 := Rx_tr hG_S PS31 pS34
        have fS34 : (vw t0 tk pg sc S34).1 7 ≠ 0 := fun h9 => fS31 (pS34.2.2.1 h9)
        clear hF37
        refine it_rule (fun u : Nat × Int32 × kS => (FX [] S u.2.2) ∧ (t0 = u.1 ∧ Rx (-2) (vw t0 tk pg sc S) (vw t0 tk pg sc u.2.2) ∧ TY (-2) (vw t0 tk pg sc u.2.2) ∧ ((0 ≤ u.2.1.toInt ∧ u.2.1.toInt ≤ 4000) ∧ (vw t0 tk pg sc u.2.2).1 7 ≠ 0))) (fun u => (4000 - u.2.1.toInt).toNat) ?_ (by exact ⟨nS34, rfl, Rx_m PS34 (by decide), (fun q => absurd q fS34), by (try clear hk111); grind [NZ, k_ii, k_ir, k_ri, k_rr, k_ai, k_ar, k_li, k_lr, k_qi, k_qr, ar_ci, ar_cl, ar_cq, la_ci, la_ca, la_cq, qa_ci, qa_ca, qa_cl, tk_link, kn4002]⟩)
        rintro ⟨x0, x1, Sl111⟩ k111 hI111 hk111
        replace hI111 : (FX [] S Sl111) ∧ (t0 = x0 ∧ Rx (-2) (vw t0 tk pg sc S) (vw t0 tk pg sc Sl111) ∧ TY (-2) (vw t0 tk pg sc Sl111) ∧ ((0 ≤ x1.toInt ∧ x1.toInt ≤ 4000) ∧ (vw t0 tk pg sc Sl111).1 7 ≠ 0)) := hI111
        obtain ⟨nSl111, hI111⟩ := hI111
        replace hk111 : ∀ v : Nat × Int32 × kS, (FX [] S v.2.2) ∧ (t0 = v.1 ∧ Rx (-2) (vw t0 tk pg sc S) (vw t0 tk pg sc v.2.2) ∧ TY (-2) (vw t0 tk pg sc v.2.2) ∧ ((0 ≤ v.2.1.toInt ∧ v.2.1.toInt ≤ 4000) ∧ (vw t0 tk pg sc v.2.2).1 7 ≠ 0)) → (4000 - v.2.1.toInt).toNat < (4000 - x1.toInt).toNat → k111 v := hk111
        show wT_X3_header_111 _ k111 x0 x1 Sl111
        unfold wT_X3_header_111
        obtain ⟨rfl, hI111⟩ := hI111
        obtain ⟨PSl111, ySl111, hI111⟩ := hI111
        obtain ⟨hI111, fSl111⟩ := hI111
        refine ⟨fun c38 => ?_, fun c38 => ?_⟩
        · unfold wT_X3_header_137
          refine kmT_X3_need _ _ _ _ _ (fun S40 hF39 pS40 => ?_) (sk_X3_need (tk := tk) (pg := pg) (sc := sc) _ _ (INJ_x nSl111 (by decide) hI) (ob_h nSl111 (by decide) hO14_t0) (ob_h nSl111 (by decide) hO15_t0) (ob_h nSl111 (by decide) hO16_t0) (Rx_g PSl111 hG_S))
          have nS40 : FX [] S S40 := FX_k hF39 (by decide) nSl111
          have PS40 := Rx_tr hG_S PSl111 pS40
          have fS40 : (vw t0 tk pg sc S40).1 7 ≠ 0 := fun h9 => fSl111 (pS40.2.2.1 h9)
          clear hF39
          exact Or.inl ⟨Rx_x PS40 fS40, fS40⟩
        · refine kmT_X3_take _ _ _ _ _ (fun S36 r36 hF40 pS36 => ?_) (sr_X3_take (tk := tk) (pg := pg) (sc := sc) _ _ (INJ_x nSl111 (by decide) hI) (ob_h nSl111 (by decide) hO14_t0) (ob_h nSl111 (by decide) hO15_t0) (ob_h nSl111 (by decide) hO16_t0) (Rx_g PSl111 hG_S))
          have nS36 : FX [] S S36 := FX_k hF40 (by decide) nSl111
          have PS36 := Rx_tr hG_S PSl111 pS36.1
          have fS36 : (vw t0 tk pg sc S36).1 7 ≠ 0 := fun h9 => fSl111 (pS36.1.2.2.1 h9)
          clear hF40
          refine ⟨fun c41 => ?_, fun c41 => ?_⟩
          · unfold wT_X3_header_137
            refine kmT_X3_need _ _ _ _ _ (fun S40 hF42 pS40 => ?_) (sk_X3_need (tk := tk) (pg := pg) (sc := sc) _ _ (INJ_x nS36 (by decide) hI) (ob_h nS36 (by decide) hO14_t0) (ob_h nS36 (by decide) hO15_t0) (ob_h nS36 (by decide) hO16_t0) (Rx_g PS36 hG_S))
            have nS40 : FX [] S S40 := FX_k hF42 (by decide) nS36
            have PS40 := Rx_tr hG_S PS36 pS40
            have fS40 : (vw t0 tk pg sc S40).1 7 ≠ 0 := fun h9 => fS36 (pS40.2.2.1 h9)
            clear hF42
            exact Or.inl ⟨Rx_x PS40 fS40, fS40⟩
          · refine kmT_X3_givenCell _ _ _ _ (fun S38 hF43 pS38 => ?_) (sk_X3_givenCell (tk := tk) (pg := pg) (sc := sc) _ (INJ_x nS36 (by decide) hI) (ob_h nS36 (by decide) hO14_t0) (ob_h nS36 (by decide) hO15_t0) (ob_h nS36 (by decide) hO16_t0) (Rx_g PS36 hG_S) (fun q => absurd q fS36))
            have nS38 : FX [] S S38 := FX_k hF43 (by decide) nS36
            have PS38 := Rx_tr hG_S PS36 pS38
            have fS38 : (vw t0 tk pg sc S38).1 7 ≠ 0 := fun h9 => fS36 (pS38.2.2.1 h9)
            clear hF43
            intro z39 ez39
            have hrz39 : -2147483648 ≤ x1.toInt + 1 ∧ x1.toInt + 1 < 2147483648 := by (try clear hk111); grind [NZ, k_ii, k_ir, k_ri, k_rr, k_ai, k_ar, k_li, k_lr, k_qi, k_qr, ar_ci, ar_cl, ar_cq, la_ci, la_ca, la_cq, qa_ci, qa_ca, qa_cl, tk_link, kn4002]
            replace ez39 : z39.toInt = x1.toInt + 1 := w_add ez39 hrz39
            clear hrz39
            exact hk111 _ (by exact ⟨nS38, rfl, Rx_m PS38 (by decide), (fun q => absurd q fS38), by (try clear hk111); grind [NZ, k_ii, k_ir, k_ri, k_rr, k_ai, k_ar, k_li, k_lr, k_qi, k_qr, ar_ci, ar_cl, ar_cq, la_ci, la_ca, la_cq, qa_ci, qa_ca, qa_cl, tk_link, kn4002]⟩) (by (try clear hk111); grind [NZ, k_ii, k_ir, k_ri, k_rr, k_ai, k_ar, k_li, k_lr, k_qi, k_qr, ar_ci, ar_cl, ar_cq, la_ci, la_ca, la_cq, qa_ci, qa_ca, qa_cl, tk_link, kn4002])
  · refine kmT_X3_wrong _ _ _ _ _ (fun S5 hF44 pS5 => ?_) (sr_X3_wrong (tk := tk) (pg := pg) (sc := sc) _ _ (INJ_x nS (by decide) hI) (ob_h nS (by decide) hO14_t0) (ob_h nS (by decide) hO15_t0) (ob_h nS (by decide) hO16_t0) (Rx_g PS hG_S) ((by decide)))
    have nS5 : FX [] S S5 := FX_k hF44 (by decide) nS
    have PS5 := Rx_tr hG_S PS pS5.1
    have fS5 : (vw t0 tk pg sc S5).1 7 ≠ 0 := pS5.2
    clear hF44
    unfold wT_X3_header_17
    refine kmT_X3_step _ _ _ _ (fun S6 hF45 pS6 => ?_) (sr_X3_step (tk := tk) (pg := pg) (sc := sc) _ (INJ_x nS5 (by decide) hI) (ob_h nS5 (by decide) hO14_t0) (ob_h nS5 (by decide) hO15_t0) (ob_h nS5 (by decide) hO16_t0) (Rx_g PS5 hG_S) (NZ_w (Rx_g PS5 hG_S) fS5))
    have nS6 : FX [] S S6 := FX_k hF45 (by decide) nS5
    have PS6 := Rx_tr hG_S PS5 pS6
    have fS6 : (vw t0 tk pg sc S6).1 7 ≠ 0 := fun h9 => fS5 (pS6.2.2.1 h9)
    clear hF45
    refine kmT_X3_kind _ _ _ _ (fun S7 r7 hF46 pS7 => ?_) (sr_X3_kind (tk := tk) (pg := pg) (sc := sc) _ (INJ_x nS6 (by decide) hI) (ob_h nS6 (by decide) hO14_t0) (ob_h nS6 (by decide) hO15_t0) (ob_h nS6 (by decide) hO16_t0) (Rx_g PS6 hG_S))
    obtain ⟨rfl, pS7⟩ := pS7
    clear hF46
    refine ⟨fun c47 => ?_, fun c47 => ?_⟩
    · intro z9 ez9
      intro z10 ez10
      intro q11 eq11
      obtain rfl := ob_q nS6 (by decide) hO14_t0 ez10 eq11
      intro z12 ez12
      intro z13 ez13
      have dz13 : 0 ≤ z13.toInt ∧ z13.toInt ≤ 4001 := by rw [ez13]; exact ⟨(Rx_g PS6 hG_S).1.1, (Rx_g PS6 hG_S).1.2.1⟩
      intro q14 eq14
      have wq14 := rd_w nS6 (by decide) ez12 eq14
      refine ⟨by (try clear hk111); grind [NZ, k_ii, k_ir, k_ri, k_rr, k_ai, k_ar, k_li, k_lr, k_qi, k_qr, ar_ci, ar_cl, ar_cq, la_ci, la_ca, la_cq, qa_ci, qa_ca, qa_cl, tk_link, kn4002], ?_⟩
      intro z15 ez15
      replace ez15 := ez15.trans (la_rd nS6 (by decide) (by decide) wq14)
      refine ⟨pg, ob_e nS6 (by decide) hO15_t0 ez9, ?_⟩
      refine kmT_X5_routineNamed _ _ _ _ _ (fun S17 r17 hF48 pS17 => ?_) (sk_X5_routineNamed _ _ (INJ_x nS6 (by decide) hI) (⟨(show 0 ≤ (vw t0 tk pg sc S6).1 18 from (Rx_g PS6 hG_S).2.2.1.1), (show (vw t0 tk pg sc S6).1 18 ≤ 12 from (Rx_g PS6 hG_S).2.2.1.2)⟩))
      obtain ⟨rfl, pS17⟩ := pS17
      clear hF48
      exact absurd (KQ (Rx_g PS6 hG_S) (by rw [← pS7, show r7 = 3 by assumption]; decide)) fS6
    · refine kmT_X3_wrong _ _ _ _ _ (fun S30 hF49 pS30 => ?_) (sr_X3_wrong (tk := tk) (pg := pg) (sc := sc) _ _ (INJ_x nS6 (by decide) hI) (ob_h nS6 (by decide) hO14_t0) (ob_h nS6 (by decide) hO15_t0) (ob_h nS6 (by decide) hO16_t0) (Rx_g PS6 hG_S) ((by decide)))
      have nS30 : FX [] S S30 := FX_k hF49 (by decide) nS6
      have PS30 := Rx_tr hG_S PS6 pS30.1
      have fS30 : (vw t0 tk pg sc S30).1 7 ≠ 0 := pS30.2
      clear hF49
      unfold wT_X3_header_91
      refine kmT_X3_need _ _ _ _ _ (fun S31 hF50 pS31 => ?_) (sk_X3_need (tk := tk) (pg := pg) (sc := sc) _ _ (INJ_x nS30 (by decide) hI) (ob_h nS30 (by decide) hO14_t0) (ob_h nS30 (by decide) hO15_t0) (ob_h nS30 (by decide) hO16_t0) (Rx_g PS30 hG_S))
      have nS31 : FX [] S S31 := FX_k hF50 (by decide) nS30
      have PS31 := Rx_tr hG_S PS30 pS31
      have fS31 : (vw t0 tk pg sc S31).1 7 ≠ 0 := fun h9 => fS30 (pS31.2.2.1 h9)
      clear hF50
      refine kmT_X3_kind _ _ _ _ (fun S32 r32 hF51 pS32 => ?_) (sr_X3_kind (tk := tk) (pg := pg) (sc := sc) _ (INJ_x nS31 (by decide) hI) (ob_h nS31 (by decide) hO14_t0) (ob_h nS31 (by decide) hO15_t0) (ob_h nS31 (by decide) hO16_t0) (Rx_g PS31 hG_S))
      obtain ⟨rfl, pS32⟩ := pS32
      clear hF51
      refine ⟨fun c52 => ?_, fun c52 => ?_⟩
      · unfold wT_X3_header_137
        refine kmT_X3_need _ _ _ _ _ (fun S40 hF53 pS40 => ?_) (sk_X3_need (tk := tk) (pg := pg) (sc := sc) _ _ (INJ_x nS31 (by decide) hI) (ob_h nS31 (by decide) hO14_t0) (ob_h nS31 (by decide) hO15_t0) (ob_h nS31 (by decide) hO16_t0) (Rx_g PS31 hG_S))
        have nS40 : FX [] S S40 := FX_k hF53 (by decide) nS31
        have PS40 := Rx_tr hG_S PS31 pS40
        have fS40 : (vw t0 tk pg sc S40).1 7 ≠ 0 := fun h9 => fS31 (pS40.2.2.1 h9)
        clear hF53
        exact Or.inl ⟨Rx_x PS40 fS40, fS40⟩
      · refine kmT_X3_givenCell _ _ _ _ (fun S34 hF54 pS34 => ?_) (sk_X3_givenCell (tk := tk) (pg := pg) (sc := sc) _ (INJ_x nS31 (by decide) hI) (ob_h nS31 (by decide) hO14_t0) (ob_h nS31 (by decide) hO15_t0) (ob_h nS31 (by decide) hO16_t0) (Rx_g PS31 hG_S) (fun q => absurd q fS31))
        have nS34 : FX [] S S34 := FX_k hF54 (by decide) nS31
        have PS34 := Rx_tr hG_S PS31 pS34
        have fS34 : (vw t0 tk pg sc S34).1 7 ≠ 0 := fun h9 => fS31 (pS34.2.2.1 h9)
        clear hF54
        refine it_rule (fun u : Nat × Int32 × kS => (FX [] S u.2.2) ∧ (t0 = u.1 ∧ Rx (-2) (vw t0 tk pg sc S) (vw t0 tk pg sc u.2.2) ∧ TY (-2) (vw t0 tk pg sc u.2.2) ∧ ((0 ≤ u.2.1.toInt ∧ u.2.1.toInt ≤ 4000) ∧ (vw t0 tk pg sc u.2.2).1 7 ≠ 0))) (fun u => (4000 - u.2.1.toInt).toNat) ?_ (by exact ⟨nS34, rfl, Rx_m PS34 (by decide), (fun q => absurd q fS34), by (try clear hk111); grind [NZ, k_ii, k_ir, k_ri, k_rr, k_ai, k_ar, k_li, k_lr, k_qi, k_qr, ar_ci, ar_cl, ar_cq, la_ci, la_ca, la_cq, qa_ci, qa_ca, qa_cl, tk_link, kn4002]⟩)
        rintro ⟨x0, x1, Sl111⟩ k111 hI111 hk111
        replace hI111 : (FX [] S Sl111) ∧ (t0 = x0 ∧ Rx (-2) (vw t0 tk pg sc S) (vw t0 tk pg sc Sl111) ∧ TY (-2) (vw t0 tk pg sc Sl111) ∧ ((0 ≤ x1.toInt ∧ x1.toInt ≤ 4000) ∧ (vw t0 tk pg sc Sl111).1 7 ≠ 0)) := hI111
        obtain ⟨nSl111, hI111⟩ := hI111
        replace hk111 : ∀ v : Nat × Int32 × kS, (FX [] S v.2.2) ∧ (t0 = v.1 ∧ Rx (-2) (vw t0 tk pg sc S) (vw t0 tk pg sc v.2.2) ∧ TY (-2) (vw t0 tk pg sc v.2.2) ∧ ((0 ≤ v.2.1.toInt ∧ v.2.1.toInt ≤ 4000) ∧ (vw t0 tk pg sc v.2.2).1 7 ≠ 0)) → (4000 - v.2.1.toInt).toNat < (4000 - x1.toInt).toNat → k111 v := hk111
        show wT_X3_header_111 _ k111 x0 x1 Sl111
        unfold wT_X3_header_111
        obtain ⟨rfl, hI111⟩ := hI111
        obtain ⟨PSl111, ySl111, hI111⟩ := hI111
        obtain ⟨hI111, fSl111⟩ := hI111
        refine ⟨fun c55 => ?_, fun c55 => ?_⟩
        · unfold wT_X3_header_137
          refine kmT_X3_need _ _ _ _ _ (fun S40 hF56 pS40 => ?_) (sk_X3_need (tk := tk) (pg := pg) (sc := sc) _ _ (INJ_x nSl111 (by decide) hI) (ob_h nSl111 (by decide) hO14_t0) (ob_h nSl111 (by decide) hO15_t0) (ob_h nSl111 (by decide) hO16_t0) (Rx_g PSl111 hG_S))
          have nS40 : FX [] S S40 := FX_k hF56 (by decide) nSl111
          have PS40 := Rx_tr hG_S PSl111 pS40
          have fS40 : (vw t0 tk pg sc S40).1 7 ≠ 0 := fun h9 => fSl111 (pS40.2.2.1 h9)
          clear hF56
          exact Or.inl ⟨Rx_x PS40 fS40, fS40⟩
        · refine kmT_X3_take _ _ _ _ _ (fun S36 r36 hF57 pS36 => ?_) (sr_X3_take (tk := tk) (pg := pg) (sc := sc) _ _ (INJ_x nSl111 (by decide) hI) (ob_h nSl111 (by decide) hO14_t0) (ob_h nSl111 (by decide) hO15_t0) (ob_h nSl111 (by decide) hO16_t0) (Rx_g PSl111 hG_S))
          have nS36 : FX [] S S36 := FX_k hF57 (by decide) nSl111
          have PS36 := Rx_tr hG_S PSl111 pS36.1
          have fS36 : (vw t0 tk pg sc S36).1 7 ≠ 0 := fun h9 => fSl111 (pS36.1.2.2.1 h9)
          clear hF57
          refine ⟨fun c58 => ?_, fun c58 => ?_⟩
          · unfold wT_X3_header_137
            refine kmT_X3_need _ _ _ _ _ (fun S40 hF59 pS40 => ?_) (sk_X3_need (tk := tk) (pg := pg) (sc := sc) _ _ (INJ_x nS36 (by decide) hI) (ob_h nS36 (by decide) hO14_t0) (ob_h nS36 (by decide) hO15_t0) (ob_h nS36 (by decide) hO16_t0) (Rx_g PS36 hG_S))
            have nS40 : FX [] S S40 := FX_k hF59 (by decide) nS36
            have PS40 := Rx_tr hG_S PS36 pS40
            have fS40 : (vw t0 tk pg sc S40).1 7 ≠ 0 := fun h9 => fS36 (pS40.2.2.1 h9)
            clear hF59
            exact Or.inl ⟨Rx_x PS40 fS40, fS40⟩
          · refine kmT_X3_givenCell _ _ _ _ (fun S38 hF60 pS38 => ?_) (sk_X3_givenCell (tk := tk) (pg := pg) (sc := sc) _ (INJ_x nS36 (by decide) hI) (ob_h nS36 (by decide) hO14_t0) (ob_h nS36 (by decide) hO15_t0) (ob_h nS36 (by decide) hO16_t0) (Rx_g PS36 hG_S) (fun q => absurd q fS36))
            have nS38 : FX [] S S38 := FX_k hF60 (by decide) nS36
            have PS38 := Rx_tr hG_S PS36 pS38
            have fS38 : (vw t0 tk pg sc S38).1 7 ≠ 0 := fun h9 => fS36 (pS38.2.2.1 h9)
            clear hF60
            intro z39 ez39
            have hrz39 : -2147483648 ≤ x1.toInt + 1 ∧ x1.toInt + 1 < 2147483648 := by (try clear hk111); grind [NZ, k_ii, k_ir, k_ri, k_rr, k_ai, k_ar, k_li, k_lr, k_qi, k_qr, ar_ci, ar_cl, ar_cq, la_ci, la_ca, la_cq, qa_ci, qa_ca, qa_cl, tk_link, kn4002]
            replace ez39 : z39.toInt = x1.toInt + 1 := w_add ez39 hrz39
            clear hrz39
            exact hk111 _ (by exact ⟨nS38, rfl, Rx_m PS38 (by decide), (fun q => absurd q fS38), by (try clear hk111); grind [NZ, k_ii, k_ir, k_ri, k_rr, k_ai, k_ar, k_li, k_lr, k_qi, k_qr, ar_ci, ar_cl, ar_cq, la_ci, la_ca, la_cq, qa_ci, qa_ca, qa_cl, tk_link, kn4002]⟩) (by (try clear hk111); grind [NZ, k_ii, k_ir, k_ri, k_rr, k_ai, k_ar, k_li, k_lr, k_qi, k_qr, ar_ci, ar_cl, ar_cq, la_ci, la_ca, la_cq, qa_ci, qa_ca, qa_cl, tk_link, kn4002])
