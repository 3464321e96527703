
set_option maxHeartbeats 4000000 in
theorem sg_givenCell {nx n : Nat} {so pl : Nat → Int32} {wo ws : Nat → Int64} (a0 : Int32) {S : mS} (h : PI nx n so pl wo ws S) (hc : CE ((S.2.1 8))) (ha : 12 * nx ≤ a0.toInt ∧ a0.toInt < 12 * nx + 12) : wp_givenCell a0 S (fun S1 => (PI nx n so pl wo ws S1 ∧ CE ((S1.2.1 8)) ∧ ((S1.1 4) = 0 → (S.1 4) = 0 ∧ (S.1 3).toInt < n ∧ (S1.1 3).toInt = (S.1 3).toInt + 1 ∧ ((S.2.1 8) (ix a0)).toInt < 12)) ∧ (NO nx S S1)) := by
  unfold wp_givenCell
  have j90 : ∀ (x1 : Int32) (Sx : mS), (PI nx n so pl wo ws Sx ∧ CE ((Sx.2.1 8)) ∧ x1 = a0 ∧ ((Sx.1 4) = 0 → (S.1 4) = 0 ∧ (Sx.1 3) = (S.1 3) ∧ (S.1 3).toInt < n ∧ (Sx.2.1 8) (ix a0) = (S.2.1 8) (ix a0) ∧ ((S.2.1 8) (ix a0)).toInt < 12)) ∧ (NO nx S Sx) → wp_givenCell_90 (fun S1 => (PI nx n so pl wo ws S1 ∧ CE ((S1.2.1 8)) ∧ ((S1.1 4) = 0 → (S.1 4) = 0 ∧ (S.1 3).toInt < n ∧ (S1.1 3).toInt = (S.1 3).toInt + 1 ∧ ((S.2.1 8) (ix a0)).toInt < 12)) ∧ (NO nx S S1)) x1 Sx := by
    intro x1 Sx hJ90
    unfold wp_givenCell_90
    obtain ⟨hJ90, iJ90⟩ := hJ90
    refine ⟨fun c1 => ?_, fun c1 => ?_⟩
    · unfold wp_givenCell_132
      intro z14 ez14
      intro S15 eS15
      have nS15 : NC Sx S15 := NC_z eS15 (by decide)
      have mS15 : NA Sx S15 := NA_z eS15 (by decide)
      have oS15 : NO nx Sx S15 := NO_z eS15
      exact ⟨by (try clear iJ90 nS15 mS15 oS15); (try clear j22); (try clear j67); (try clear j90); grind [PI, LG, TK, CE, ix_int, ix_lt, q_zz, q_za, q_zga, q_fza, q_fx, q_fga, q_gza, q_gfa, q_gx, q_zf1, q_zg1, q_ff, q_fg1, q_gf1, q_gg, ti_link, in24, in288, in4002], by (try clear j22); (try clear j67); (try clear j90); grind [NO_tr, NO_rf, ti_link]⟩
    · intro z6 ez6
      refine ⟨by (try clear iJ90); (try clear j22); (try clear j67); (try clear j90); grind [PI, LG, TK, CE, ix_int, ix_lt, q_zz, q_za, q_zga, q_fza, q_fx, q_fga, q_gza, q_gfa, q_gx, q_zf1, q_zg1, q_ff, q_fg1, q_gf1, q_gg, ti_link, in24, in288, in4002], ?_⟩
      intro z7 ez7
      intro z8 ez8
      refine ⟨by (try clear iJ90); (try clear j22); (try clear j67); (try clear j90); grind [PI, LG, TK, CE, ix_int, ix_lt, q_zz, q_za, q_zga, q_fza, q_fx, q_fga, q_gza, q_gfa, q_gx, q_zf1, q_zg1, q_ff, q_fg1, q_gf1, q_gg, ti_link, in24, in288, in4002], ?_⟩
      intro z9 ez9
      refine ⟨by (try clear iJ90); (try clear j22); (try clear j67); (try clear j90); grind [PI, LG, TK, CE, ix_int, ix_lt, q_zz, q_za, q_zga, q_fza, q_fx, q_fga, q_gza, q_gfa, q_gx, q_zf1, q_zg1, q_ff, q_fg1, q_gf1, q_gg, ti_link, in24, in288, in4002], ?_⟩
      intro S10 eS10
      have nS10 : NC Sx S10 := NC_g eS10
      have mS10 : NA Sx S10 := NA_g eS10
      have oS10 : NO nx Sx S10 := NO_g eS10 (nL_9 (by (try clear iJ90 nS10 mS10); (try clear j22); (try clear j67); (try clear j90); grind [PI, LG, TK, CE, ix_int, ix_lt, q_zz, q_za, q_zga, q_fza, q_fx, q_fga, q_gza, q_gfa, q_gx, q_zf1, q_zg1, q_ff, q_fg1, q_gf1, q_gg, ti_link, in24, in288, in4002]))
      refine ⟨by (try clear iJ90 nS10 mS10 oS10); (try clear j22); (try clear j67); (try clear j90); grind [PI, LG, TK, CE, ix_int, ix_lt, q_zz, q_za, q_zga, q_fza, q_fx, q_fga, q_gza, q_gfa, q_gx, q_zf1, q_zg1, q_ff, q_fg1, q_gf1, q_gg, ti_link, in24, in288, in4002], ?_⟩
      intro z11 ez11
      intro z12 ez12
      refine ⟨by (try clear iJ90 nS10 mS10 oS10); (try clear j22); (try clear j67); (try clear j90); grind [PI, LG, TK, CE, ix_int, ix_lt, q_zz, q_za, q_zga, q_fza, q_fx, q_fga, q_gza, q_gfa, q_gx, q_zf1, q_zg1, q_ff, q_fg1, q_gf1, q_gg, ti_link, in24, in288, in4002], ?_⟩
      intro S13 eS13
      have nS13 : NC S10 S13 := NC_f eS13 (by decide)
      have mS13 : NA S10 S13 := NA_f eS13 (by decide)
      have oS13 : NO nx S10 S13 := NO_f eS13 (nH_r (by decide) (by (try clear iJ90 nS10 mS10 oS10 nS13 mS13); (try clear j22); (try clear j67); (try clear j90); grind [PI, LG, TK, CE, ix_int, ix_lt, q_zz, q_za, q_zga, q_fza, q_fx, q_fga, q_gza, q_gfa, q_gx, q_zf1, q_zg1, q_ff, q_fg1, q_gf1, q_gg, ti_link, in24, in288, in4002]))
      unfold wp_givenCell_132
      intro z14 ez14
      intro S15 eS15
      have nS15 : NC S13 S15 := NC_z eS15 (by decide)
      have mS15 : NA S13 S15 := NA_z eS15 (by decide)
      have oS15 : NO nx S13 S15 := NO_z eS15
      exact ⟨by (try clear iJ90 nS10 mS10 oS10 nS13 mS13 oS13 nS15 mS15 oS15); (try clear j22); (try clear j67); (try clear j90); grind [PI, LG, TK, CE, ix_int, ix_lt, q_zz, q_za, q_zga, q_fza, q_fx, q_fga, q_gza, q_gfa, q_gx, q_zf1, q_zg1, q_ff, q_fg1, q_gf1, q_gg, ti_link, in24, in288, in4002], by (try clear j22); (try clear j67); (try clear j90); grind [NO_tr, NO_rf, ti_link]⟩
  have j67 : ∀ (x1 : Int32) (Sx : mS), (PI nx n so pl wo ws Sx ∧ CE ((Sx.2.1 8)) ∧ x1 = a0 ∧ ((Sx.1 4) = 0 → (S.1 4) = 0 ∧ (Sx.1 3) = (S.1 3) ∧ (S.1 3).toInt < n ∧ (Sx.2.1 8) (ix a0) = (S.2.1 8) (ix a0))) ∧ (NO nx S Sx) → wp_givenCell_67 (fun S1 => (PI nx n so pl wo ws S1 ∧ CE ((S1.2.1 8)) ∧ ((S1.1 4) = 0 → (S.1 4) = 0 ∧ (S.1 3).toInt < n ∧ (S1.1 3).toInt = (S.1 3).toInt + 1 ∧ ((S.2.1 8) (ix a0)).toInt < 12)) ∧ (NO nx S S1)) x1 Sx := by
    intro x1 Sx hJ67
    unfold wp_givenCell_67
    obtain ⟨hJ67, iJ67⟩ := hJ67
    refine ⟨fun c2 => ?_, fun c2 => ?_⟩
    · exact j90 _ _ (⟨by (try clear iJ67); (try clear j22); (try clear j67); (try clear j90); grind [PI, LG, TK, CE, ix_int, ix_lt, q_zz, q_za, q_zga, q_fza, q_fx, q_fga, q_gza, q_gfa, q_gx, q_zf1, q_zg1, q_ff, q_fg1, q_gf1, q_gg, ti_link, in24, in288, in4002], by (try clear j22); (try clear j67); (try clear j90); grind [NO_tr, NO_rf, ti_link]⟩)
    · refine ⟨by (try clear iJ67); (try clear j22); (try clear j67); (try clear j90); grind [PI, LG, TK, CE, ix_int, ix_lt, q_zz, q_za, q_zga, q_fza, q_fx, q_fga, q_gza, q_gfa, q_gx, q_zf1, q_zg1, q_ff, q_fg1, q_gf1, q_gg, ti_link, in24, in288, in4002], ?_⟩
      intro z24 ez24
      refine ⟨fun c3 => ?_, fun c3 => ?_⟩
      · exact j90 _ _ (⟨by (try clear iJ67); (try clear j22); (try clear j67); (try clear j90); grind [PI, LG, TK, CE, ix_int, ix_lt, q_zz, q_za, q_zga, q_fza, q_fx, q_fga, q_gza, q_gfa, q_gx, q_zf1, q_zg1, q_ff, q_fg1, q_gf1, q_gg, ti_link, in24, in288, in4002], by (try clear j22); (try clear j67); (try clear j90); grind [NO_tr, NO_rf, ti_link]⟩)
      · refine fm_wrong _ _ _ _ (fun S26 hF4 pS26 => ?_) (sg_wrong (nx := nx) (n := n) (so := so) (pl := pl) (wo := wo) (ws := ws) _ (by (try clear iJ67); (try clear j22); (try clear j67); (try clear j90); grind [PI, LG, TK, CE, ix_int, ix_lt, q_zz, q_za, q_zga, q_fza, q_fx, q_fga, q_gza, q_gfa, q_gx, q_zf1, q_zg1, q_ff, q_fg1, q_gf1, q_gg, ti_link, in24, in288, in4002]) (by (try clear iJ67); (try clear j22); (try clear j67); (try clear j90); grind [PI, LG, TK, CE, ix_int, ix_lt, q_zz, q_za, q_zga, q_fza, q_fx, q_fga, q_gza, q_gfa, q_gx, q_zf1, q_zg1, q_ff, q_fg1, q_gf1, q_gg, ti_link, in24, in288, in4002]))
        have fS26 : S26.1 4 = 0 → Sx.1 4 = 0 := by (try clear iJ67); (try clear j22); (try clear j67); (try clear j90); grind [ti_link]
        have nS26 : NC Sx S26 := NC_fr hF4 (by decide) (by decide) fS26
        have mS26 : NA Sx S26 := NA_fr hF4 (by decide) (by decide) fS26
        have oS26 : NO nx Sx S26 := NO_fr hF4 (by decide) (by decide)
        have z3_S26 := hF4.1 3 (by decide)
        have z6_S26 := hF4.1 6 (by decide)
        have f1_S26 := hF4.2.1 1 (by decide)
        have f1a_S26 := Fr_fa hF4 1 (by decide)
        have f2_S26 := hF4.2.1 2 (by decide)
        have f2a_S26 := Fr_fa hF4 2 (by decide)
        have f8_S26 := hF4.2.1 8 (by decide)
        have f8a_S26 := Fr_fa hF4 8 (by decide)
        have g3_S26 := hF4.2.2 3 (by decide)
        have g3a_S26 := Fr_ga hF4 3 (by decide)
        have g4_S26 := hF4.2.2 4 (by decide)
        have g4a_S26 := Fr_ga hF4 4 (by decide)
        clear hF4
        exact j90 _ _ (⟨by (try clear iJ67 nS26 mS26 oS26); (try clear j22); (try clear j67); (try clear j90); grind [PI, LG, TK, CE, ix_int, ix_lt, q_zz, q_za, q_zga, q_fza, q_fx, q_fga, q_gza, q_gfa, q_gx, q_zf1, q_zg1, q_ff, q_fg1, q_gf1, q_gg, ti_link, in24, in288, in4002], by (try clear j22); (try clear j67); (try clear j90); grind [NO_tr, NO_rf, ti_link]⟩)
  have j22 : ∀ (x1 : Int32) (Sx : mS), (PI nx n so pl wo ws Sx ∧ CE ((Sx.2.1 8)) ∧ x1 = a0 ∧ ((Sx.1 4) = 0 → (S.1 4) = 0 ∧ (Sx.1 3) = (S.1 3) ∧ (S.1 3).toInt < n ∧ (Sx.2.1 8) (ix a0) = (S.2.1 8) (ix a0))) ∧ (NO nx S Sx) → wp_givenCell_22 (fun S1 => (PI nx n so pl wo ws S1 ∧ CE ((S1.2.1 8)) ∧ ((S1.1 4) = 0 → (S.1 4) = 0 ∧ (S.1 3).toInt < n ∧ (S1.1 3).toInt = (S.1 3).toInt + 1 ∧ ((S.2.1 8) (ix a0)).toInt < 12)) ∧ (NO nx S S1)) x1 Sx := by
    intro x1 Sx hJ22
    unfold wp_givenCell_22
    obtain ⟨hJ22, iJ22⟩ := hJ22
    refine ⟨fun c5 => ?_, fun c5 => ?_⟩
    · exact j67 _ _ (⟨by (try clear iJ22); (try clear j22); (try clear j67); (try clear j90); grind [PI, LG, TK, CE, ix_int, ix_lt, q_zz, q_za, q_zga, q_fza, q_fx, q_fga, q_gza, q_gfa, q_gx, q_zf1, q_zg1, q_ff, q_fg1, q_gf1, q_gg, ti_link, in24, in288, in4002], by (try clear j22); (try clear j67); (try clear j90); grind [NO_tr, NO_rf, ti_link]⟩)
    · intro z17 ez17
      refine ⟨by (try clear iJ22); (try clear j22); (try clear j67); (try clear j90); grind [PI, LG, TK, CE, ix_int, ix_lt, q_zz, q_za, q_zga, q_fza, q_fx, q_fga, q_gza, q_gfa, q_gx, q_zf1, q_zg1, q_ff, q_fg1, q_gf1, q_gg, ti_link, in24, in288, in4002], ?_⟩
      intro z18 ez18
      refine ⟨by (try clear iJ22); (try clear j22); (try clear j67); (try clear j90); grind [PI, LG, TK, CE, ix_int, ix_lt, q_zz, q_za, q_zga, q_fza, q_fx, q_fga, q_gza, q_gfa, q_gx, q_zf1, q_zg1, q_ff, q_fg1, q_gf1, q_gg, ti_link, in24, in288, in4002], ?_⟩
      intro z19 ez19
      refine fm_find_c _ _ _ _ _ _ (fun S20 r20 hF6 pS20 => ?_) (sg_find_c _ _ _ (by (try clear iJ22); (try clear j22); (try clear j67); (try clear j90); grind [PI, LG, TK, CE, ix_int, ix_lt, q_zz, q_za, q_zga, q_fza, q_fx, q_fga, q_gza, q_gfa, q_gx, q_zf1, q_zg1, q_ff, q_fg1, q_gf1, q_gg, ti_link, in24, in288, in4002]))
      have fS20 : S20.1 4 = 0 → Sx.1 4 = 0 := fun q => (hF6.1 4 (by decide)).symm.trans q
      have nS20 : NC Sx S20 := NC_fr hF6 (by decide) (by decide) fS20
      have mS20 : NA Sx S20 := NA_fr hF6 (by decide) (by decide) fS20
      have oS20 : NO nx Sx S20 := NO_fr hF6 (by decide) (by decide)
      have z3_S20 := hF6.1 3 (by decide)
      have z4_S20 := hF6.1 4 (by decide)
      have z6_S20 := hF6.1 6 (by decide)
      have f1_S20 := hF6.2.1 1 (by decide)
      have f1a_S20 := Fr_fa hF6 1 (by decide)
      have f2_S20 := hF6.2.1 2 (by decide)
      have f2a_S20 := Fr_fa hF6 2 (by decide)
      have f8_S20 := hF6.2.1 8 (by decide)
      have f8a_S20 := Fr_fa hF6 8 (by decide)
      have g3_S20 := hF6.2.2 3 (by decide)
      have g3a_S20 := Fr_ga hF6 3 (by decide)
      have g4_S20 := hF6.2.2 4 (by decide)
      have g4a_S20 := Fr_ga hF6 4 (by decide)
      clear hF6
      refine ⟨fun c7 => ?_, fun c7 => ?_⟩
      · exact j67 _ _ (⟨by (try clear iJ22 nS20 mS20 oS20); (try clear j22); (try clear j67); (try clear j90); grind [PI, LG, TK, CE, ix_int, ix_lt, q_zz, q_za, q_zga, q_fza, q_fx, q_fga, q_gza, q_gfa, q_gx, q_zf1, q_zg1, q_ff, q_fg1, q_gf1, q_gg, ti_link, in24, in288, in4002], by (try clear j22); (try clear j67); (try clear j90); grind [NO_tr, NO_rf, ti_link]⟩)
      · refine fm_wrong _ _ _ _ (fun S22 hF8 pS22 => ?_) (sg_wrong (nx := nx) (n := n) (so := so) (pl := pl) (wo := wo) (ws := ws) _ (by (try clear iJ22 nS20 mS20 oS20); (try clear j22); (try clear j67); (try clear j90); grind [PI, LG, TK, CE, ix_int, ix_lt, q_zz, q_za, q_zga, q_fza, q_fx, q_fga, q_gza, q_gfa, q_gx, q_zf1, q_zg1, q_ff, q_fg1, q_gf1, q_gg, ti_link, in24, in288, in4002]) (by (try clear iJ22 nS20 mS20 oS20); (try clear j22); (try clear j67); (try clear j90); grind [PI, LG, TK, CE, ix_int, ix_lt, q_zz, q_za, q_zga, q_fza, q_fx, q_fga, q_gza, q_gfa, q_gx, q_zf1, q_zg1, q_ff, q_fg1, q_gf1, q_gg, ti_link, in24, in288, in4002]))
        have fS22 : S22.1 4 = 0 → S20.1 4 = 0 := by (try clear iJ22 nS20 mS20 oS20); (try clear j22); (try clear j67); (try clear j90); grind [ti_link]
        have nS22 : NC S20 S22 := NC_fr hF8 (by decide) (by decide) fS22
        have mS22 : NA S20 S22 := NA_fr hF8 (by decide) (by decide) fS22
        have oS22 : NO nx S20 S22 := NO_fr hF8 (by decide) (by decide)
        have z3_S22 := hF8.1 3 (by decide)
        have z6_S22 := hF8.1 6 (by decide)
        have f1_S22 := hF8.2.1 1 (by decide)
        have f1a_S22 := Fr_fa hF8 1 (by decide)
        have f2_S22 := hF8.2.1 2 (by decide)
        have f2a_S22 := Fr_fa hF8 2 (by decide)
        have f8_S22 := hF8.2.1 8 (by decide)
        have f8a_S22 := Fr_fa hF8 8 (by decide)
        have g3_S22 := hF8.2.2 3 (by decide)
        have g3a_S22 := Fr_ga hF8 3 (by decide)
        have g4_S22 := hF8.2.2 4 (by decide)
        have g4a_S22 := Fr_ga hF8 4 (by decide)
        clear hF8
        exact j90 _ _ (⟨by (try clear iJ22 nS20 mS20 oS20 nS22 mS22 oS22); (try clear j22); (try clear j67); (try clear j90); grind [PI, LG, TK, CE, ix_int, ix_lt, q_zz, q_za, q_zga, q_fza, q_fx, q_fga, q_gza, q_gfa, q_gx, q_zf1, q_zg1, q_ff, q_fg1, q_gf1, q_gg, ti_link, in24, in288, in4002], by (try clear j22); (try clear j67); (try clear j90); grind [NO_tr, NO_rf, ti_link]⟩)
  refine ⟨fun c9 => ?_, fun c9 => ?_⟩
  · exact j22 _ _ (⟨by (try clear j22); (try clear j67); (try clear j90); grind [PI, LG, TK, CE, ix_int, ix_lt, q_zz, q_za, q_zga, q_fza, q_fx, q_fga, q_gza, q_gfa, q_gx, q_zf1, q_zg1, q_ff, q_fg1, q_gf1, q_gg, ti_link, in24, in288, in4002], by (try clear j22); (try clear j67); (try clear j90); grind [NO_tr, NO_rf, ti_link]⟩)
  · refine fm_isName _ _ _ (fun S2 r2 hF10 pS2 => ?_) (sg_isName (nx := nx) (n := n) (so := so) (pl := pl) (wo := wo) (ws := ws) (by (try clear j22); (try clear j67); (try clear j90); grind [PI, LG, TK, CE, ix_int, ix_lt, q_zz, q_za, q_zga, q_fza, q_fx, q_fga, q_gza, q_gfa, q_gx, q_zf1, q_zg1, q_ff, q_fg1, q_gf1, q_gg, ti_link, in24, in288, in4002]))
    have fS2 : S2.1 4 = 0 → S.1 4 = 0 := fun q => (hF10.1 4 (by decide)).symm.trans q
    have nS2 : NC S S2 := NC_fr hF10 (by decide) (by decide) fS2
    have mS2 : NA S S2 := NA_fr hF10 (by decide) (by decide) fS2
    have oS2 : NO nx S S2 := NO_fr hF10 (by decide) (by decide)
    have z3_S2 := hF10.1 3 (by decide)
    have z4_S2 := hF10.1 4 (by decide)
    have z6_S2 := hF10.1 6 (by decide)
    have f1_S2 := hF10.2.1 1 (by decide)
    have f1a_S2 := Fr_fa hF10 1 (by decide)
    have f2_S2 := hF10.2.1 2 (by decide)
    have f2a_S2 := Fr_fa hF10 2 (by decide)
    have f8_S2 := hF10.2.1 8 (by decide)
    have f8a_S2 := Fr_fa hF10 8 (by decide)
    have g3_S2 := hF10.2.2 3 (by decide)
    have g3a_S2 := Fr_ga hF10 3 (by decide)
    have g4_S2 := hF10.2.2 4 (by decide)
    have g4a_S2 := Fr_ga hF10 4 (by decide)
    clear hF10
    refine ⟨fun c11 => ?_, fun c11 => ?_⟩
    · exact j22 _ _ (⟨by (try clear nS2 mS2 oS2); (try clear j22); (try clear j67); (try clear j90); grind [PI, LG, TK, CE, ix_int, ix_lt, q_zz, q_za, q_zga, q_fza, q_fx, q_fga, q_gza, q_gfa, q_gx, q_zf1, q_zg1, q_ff, q_fg1, q_gf1, q_gg, ti_link, in24, in288, in4002], by (try clear j22); (try clear j67); (try clear j90); grind [NO_tr, NO_rf, ti_link]⟩)
    · refine fm_wrong _ _ _ _ (fun S4 hF12 pS4 => ?_) (sg_wrong (nx := nx) (n := n) (so := so) (pl := pl) (wo := wo) (ws := ws) _ (by (try clear nS2 mS2 oS2); (try clear j22); (try clear j67); (try clear j90); grind [PI, LG, TK, CE, ix_int, ix_lt, q_zz, q_za, q_zga, q_fza, q_fx, q_fga, q_gza, q_gfa, q_gx, q_zf1, q_zg1, q_ff, q_fg1, q_gf1, q_gg, ti_link, in24, in288, in4002]) (by (try clear nS2 mS2 oS2); (try clear j22); (try clear j67); (try clear j90); grind [PI, LG, TK, CE, ix_int, ix_lt, q_zz, q_za, q_zga, q_fza, q_fx, q_fga, q_gza, q_gfa, q_gx, q_zf1, q_zg1, q_ff, q_fg1, q_gf1, q_gg, ti_link, in24, in288, in4002]))
      have fS4 : S4.1 4 = 0 → S2.1 4 = 0 := by (try clear nS2 mS2 oS2); (try clear j22); (try clear j67); (try clear j90); grind [ti_link]
      have nS4 : NC S2 S4 := NC_fr hF12 (by decide) (by decide) fS4
      have mS4 : NA S2 S4 := NA_fr hF12 (by decide) (by decide) fS4
      have oS4 : NO nx S2 S4 := NO_fr hF12 (by decide) (by decide)
      have z3_S4 := hF12.1 3 (by decide)
      have z6_S4 := hF12.1 6 (by decide)
      have f1_S4 := hF12.2.1 1 (by decide)
      have f1a_S4 := Fr_fa hF12 1 (by decide)
      have f2_S4 := hF12.2.1 2 (by decide)
      have f2a_S4 := Fr_fa hF12 2 (by decide)
      have f8_S4 := hF12.2.1 8 (by decide)
      have f8a_S4 := Fr_fa hF12 8 (by decide)
      have g3_S4 := hF12.2.2 3 (by decide)
      have g3a_S4 := Fr_ga hF12 3 (by decide)
      have g4_S4 := hF12.2.2 4 (by decide)
      have g4a_S4 := Fr_ga hF12 4 (by decide)
      clear hF12
      exact j90 _ _ (⟨by (try clear nS2 mS2 oS2 nS4 mS4 oS4); (try clear j22); (try clear j67); (try clear j90); grind [PI, LG, TK, CE, ix_int, ix_lt, q_zz, q_za, q_zga, q_fza, q_fx, q_fga, q_gza, q_gfa, q_gx, q_zf1, q_zg1, q_ff, q_fg1, q_gf1, q_gg, ti_link, in24, in288, in4002], by (try clear j22); (try clear j67); (try clear j90); grind [NO_tr, NO_rf, ti_link]⟩)
