
set_option maxHeartbeats 4000000 in
theorem sg_takeCell {nx n : Nat} {so pl : Nat → Int32} {wo ws : Nat → Int64} {S : mS} (h : PI nx n so pl wo ws S) (hc : CE ((S.2.1 8))) (ha : 12 * nx ≤ (S.1 12).toInt ∧ (S.1 12).toInt < 12 * nx + 12) : wp_takeCell S (fun S1 r => (PI nx n so pl wo ws S1 ∧ CE ((S1.2.1 8)) ∧ ((S1.1 4) = 0 → (S.1 4) = 0 ∧ (S.1 3).toInt < n ∧ (S1.1 3).toInt = (S.1 3).toInt + 1 ∧ 0 ≤ r.toInt ∧ r.toInt < 12)) ∧ (NO nx S S1)) := by
  unfold wp_takeCell
  have j63 : ∀ (y0 : Int32) (Sx : mS), (PI nx n so pl wo ws Sx ∧ CE ((Sx.2.1 8)) ∧ (Sx.1 12) = (S.1 12) ∧ ((Sx.1 4) = 0 → (S.1 4) = 0 ∧ (Sx.1 3) = (S.1 3) ∧ (S.1 3).toInt < n ∧ y0.toInt < 12)) ∧ (NO nx S Sx) → wp_takeCell_63 (fun S1 r => (PI nx n so pl wo ws S1 ∧ CE ((S1.2.1 8)) ∧ ((S1.1 4) = 0 → (S.1 4) = 0 ∧ (S.1 3).toInt < n ∧ (S1.1 3).toInt = (S.1 3).toInt + 1 ∧ 0 ≤ r.toInt ∧ r.toInt < 12)) ∧ (NO nx S S1)) y0 Sx := by
    intro y0 Sx hJ63
    unfold wp_takeCell_63
    obtain ⟨hJ63, iJ63⟩ := hJ63
    refine ⟨fun c1 => ?_, fun c1 => ?_⟩
    · unfold wp_takeCell_96
      intro z14 ez14
      intro S15 eS15
      have nS15 : NC Sx S15 := NC_z eS15 (by decide)
      have mS15 : NA Sx S15 := NA_z eS15 (by decide)
      have oS15 : NO nx Sx S15 := NO_z eS15
      exact ⟨by (try clear iJ63 nS15 mS15 oS15); (try clear j19); (try clear j63); grind [PI, LG, TK, CE, ix_int, ix_lt, q_zz, q_za, q_zga, q_fza, q_fx, q_fga, q_gza, q_gfa, q_gx, q_zf1, q_zg1, q_ff, q_fg1, q_gf1, q_gg, ti_link, in24, in4002], by (try clear j19); (try clear j63); grind [NO_tr, NO_rf, ti_link]⟩
    · refine ⟨fun c2 => ?_, fun c2 => ?_⟩
      · unfold wp_takeCell_96
        intro z14 ez14
        intro S15 eS15
        have nS15 : NC Sx S15 := NC_z eS15 (by decide)
        have mS15 : NA Sx S15 := NA_z eS15 (by decide)
        have oS15 : NO nx Sx S15 := NO_z eS15
        exact ⟨by (try clear iJ63 nS15 mS15 oS15); (try clear j19); (try clear j63); grind [PI, LG, TK, CE, ix_int, ix_lt, q_zz, q_za, q_zga, q_fza, q_fx, q_fga, q_gza, q_gfa, q_gx, q_zf1, q_zg1, q_ff, q_fg1, q_gf1, q_gg, ti_link, in24, in4002], by (try clear j19); (try clear j63); grind [NO_tr, NO_rf, ti_link]⟩
      · refine ⟨by (try clear iJ63); (try clear j19); (try clear j63); grind [PI, LG, TK, CE, ix_int, ix_lt, q_zz, q_za, q_zga, q_fza, q_fx, q_fga, q_gza, q_gfa, q_gx, q_zf1, q_zg1, q_ff, q_fg1, q_gf1, q_gg, ti_link, in24, in4002], ?_⟩
        intro z12 ez12
        refine fm_givenCell _ _ _ _ (fun S13 hF3 pS13 => ?_) (sg_givenCell (nx := nx) (n := n) (so := so) (pl := pl) (wo := wo) (ws := ws) _ (by (try clear iJ63); (try clear j19); (try clear j63); grind [PI, LG, TK, CE, ix_int, ix_lt, q_zz, q_za, q_zga, q_fza, q_fx, q_fga, q_gza, q_gfa, q_gx, q_zf1, q_zg1, q_ff, q_fg1, q_gf1, q_gg, ti_link, in24, in4002]) (by (try clear iJ63); (try clear j19); (try clear j63); grind [PI, LG, TK, CE, ix_int, ix_lt, q_zz, q_za, q_zga, q_fza, q_fx, q_fga, q_gza, q_gfa, q_gx, q_zf1, q_zg1, q_ff, q_fg1, q_gf1, q_gg, ti_link, in24, in4002]) (by (try clear iJ63); (try clear j19); (try clear j63); grind [PI, LG, TK, CE, ix_int, ix_lt, q_zz, q_za, q_zga, q_fza, q_fx, q_fga, q_gza, q_gfa, q_gx, q_zf1, q_zg1, q_ff, q_fg1, q_gf1, q_gg, ti_link, in24, in4002]))
        obtain ⟨pS13, qS13⟩ := pS13
        have fS13 : S13.1 4 = 0 → Sx.1 4 = 0 := by (try clear iJ63 qS13); (try clear j19); (try clear j63); grind [ti_link]
        have nS13 : NC Sx S13 := NC_fr hF3 (by decide) (by decide) fS13
        have mS13 : NA Sx S13 := NA_fr hF3 (by decide) (by decide) fS13
        have z6_S13 := hF3.1 6 (by decide)
        have z12_S13 := hF3.1 12 (by decide)
        have f1_S13 := hF3.2.1 1 (by decide)
        have f1a_S13 := Fr_fa hF3 1 (by decide)
        have f2_S13 := hF3.2.1 2 (by decide)
        have f2a_S13 := Fr_fa hF3 2 (by decide)
        have g3_S13 := hF3.2.2 3 (by decide)
        have g3a_S13 := Fr_ga hF3 3 (by decide)
        have g4_S13 := hF3.2.2 4 (by decide)
        have g4a_S13 := Fr_ga hF3 4 (by decide)
        clear hF3
        exact ⟨by (try clear iJ63 qS13 nS13 mS13); (try clear j19); (try clear j63); grind [PI, LG, TK, CE, ix_int, ix_lt, q_zz, q_za, q_zga, q_fza, q_fx, q_fga, q_gza, q_gfa, q_gx, q_zf1, q_zg1, q_ff, q_fg1, q_gf1, q_gg, ti_link, in24, in4002], by (try clear j19); (try clear j63); grind [NO_tr, NO_rf, ti_link]⟩
  have j19 : ∀ (Sx : mS), (PI nx n so pl wo ws Sx ∧ CE ((Sx.2.1 8)) ∧ (Sx.1 12) = (S.1 12) ∧ ((Sx.1 4) = 0 → (S.1 4) = 0 ∧ (Sx.1 3) = (S.1 3) ∧ (S.1 3).toInt < n)) ∧ (NO nx S Sx) → wp_takeCell_19 (fun S1 r => (PI nx n so pl wo ws S1 ∧ CE ((S1.2.1 8)) ∧ ((S1.1 4) = 0 → (S.1 4) = 0 ∧ (S.1 3).toInt < n ∧ (S1.1 3).toInt = (S.1 3).toInt + 1 ∧ 0 ≤ r.toInt ∧ r.toInt < 12)) ∧ (NO nx S S1)) Sx := by
    intro Sx hJ19
    unfold wp_takeCell_19
    obtain ⟨hJ19, iJ19⟩ := hJ19
    refine ⟨fun c4 => ?_, fun c4 => ?_⟩
    · exact j63 _ _ (⟨by (try clear iJ19); (try clear j19); (try clear j63); grind [PI, LG, TK, CE, ix_int, ix_lt, q_zz, q_za, q_zga, q_fza, q_fx, q_fga, q_gza, q_gfa, q_gx, q_zf1, q_zg1, q_ff, q_fg1, q_gf1, q_gg, ti_link, in24, in4002], by (try clear j19); (try clear j63); grind [NO_tr, NO_rf, ti_link]⟩)
    · intro z6 ez6
      refine ⟨by (try clear iJ19); (try clear j19); (try clear j63); grind [PI, LG, TK, CE, ix_int, ix_lt, q_zz, q_za, q_zga, q_fza, q_fx, q_fga, q_gza, q_gfa, q_gx, q_zf1, q_zg1, q_ff, q_fg1, q_gf1, q_gg, ti_link, in24, in4002], ?_⟩
      intro z7 ez7
      refine ⟨by (try clear iJ19); (try clear j19); (try clear j63); grind [PI, LG, TK, CE, ix_int, ix_lt, q_zz, q_za, q_zga, q_fza, q_fx, q_fga, q_gza, q_gfa, q_gx, q_zf1, q_zg1, q_ff, q_fg1, q_gf1, q_gg, ti_link, in24, in4002], ?_⟩
      intro z8 ez8
      refine fm_find_c _ _ _ _ _ _ (fun S9 r9 hF5 pS9 => ?_) (sg_find_c _ _ _ (by (try clear iJ19); (try clear j19); (try clear j63); grind [PI, LG, TK, CE, ix_int, ix_lt, q_zz, q_za, q_zga, q_fza, q_fx, q_fga, q_gza, q_gfa, q_gx, q_zf1, q_zg1, q_ff, q_fg1, q_gf1, q_gg, ti_link, in24, in4002]))
      have fS9 : S9.1 4 = 0 → Sx.1 4 = 0 := fun q => (hF5.1 4 (by decide)).symm.trans q
      have nS9 : NC Sx S9 := NC_fr hF5 (by decide) (by decide) fS9
      have mS9 : NA Sx S9 := NA_fr hF5 (by decide) (by decide) fS9
      have oS9 : NO nx Sx S9 := NO_fr hF5 (by decide) (by decide)
      have z3_S9 := hF5.1 3 (by decide)
      have z4_S9 := hF5.1 4 (by decide)
      have z6_S9 := hF5.1 6 (by decide)
      have z12_S9 := hF5.1 12 (by decide)
      have f1_S9 := hF5.2.1 1 (by decide)
      have f1a_S9 := Fr_fa hF5 1 (by decide)
      have f2_S9 := hF5.2.1 2 (by decide)
      have f2a_S9 := Fr_fa hF5 2 (by decide)
      have f8_S9 := hF5.2.1 8 (by decide)
      have f8a_S9 := Fr_fa hF5 8 (by decide)
      have g3_S9 := hF5.2.2 3 (by decide)
      have g3a_S9 := Fr_ga hF5 3 (by decide)
      have g4_S9 := hF5.2.2 4 (by decide)
      have g4a_S9 := Fr_ga hF5 4 (by decide)
      clear hF5
      exact j63 _ _ (⟨by (try clear iJ19 nS9 mS9 oS9); (try clear j19); (try clear j63); grind [PI, LG, TK, CE, ix_int, ix_lt, q_zz, q_za, q_zga, q_fza, q_fx, q_fga, q_gza, q_gfa, q_gx, q_zf1, q_zg1, q_ff, q_fg1, q_gf1, q_gg, ti_link, in24, in4002], by (try clear j19); (try clear j63); grind [NO_tr, NO_rf, ti_link]⟩)
  refine ⟨fun c6 => ?_, fun c6 => ?_⟩
  · exact j19 _ (⟨by (try clear j19); (try clear j63); grind [PI, LG, TK, CE, ix_int, ix_lt, q_zz, q_za, q_zga, q_fza, q_fx, q_fga, q_gza, q_gfa, q_gx, q_zf1, q_zg1, q_ff, q_fg1, q_gf1, q_gg, ti_link, in24, in4002], by (try clear j19); (try clear j63); grind [NO_tr, NO_rf, ti_link]⟩)
  · refine fm_isName _ _ _ (fun S2 r2 hF7 pS2 => ?_) (sg_isName (nx := nx) (n := n) (so := so) (pl := pl) (wo := wo) (ws := ws) (by (try clear j19); (try clear j63); grind [PI, LG, TK, CE, ix_int, ix_lt, q_zz, q_za, q_zga, q_fza, q_fx, q_fga, q_gza, q_gfa, q_gx, q_zf1, q_zg1, q_ff, q_fg1, q_gf1, q_gg, ti_link, in24, in4002]))
    have fS2 : S2.1 4 = 0 → S.1 4 = 0 := fun q => (hF7.1 4 (by decide)).symm.trans q
    have nS2 : NC S S2 := NC_fr hF7 (by decide) (by decide) fS2
    have mS2 : NA S S2 := NA_fr hF7 (by decide) (by decide) fS2
    have oS2 : NO nx S S2 := NO_fr hF7 (by decide) (by decide)
    have z3_S2 := hF7.1 3 (by decide)
    have z4_S2 := hF7.1 4 (by decide)
    have z6_S2 := hF7.1 6 (by decide)
    have z12_S2 := hF7.1 12 (by decide)
    have f1_S2 := hF7.2.1 1 (by decide)
    have f1a_S2 := Fr_fa hF7 1 (by decide)
    have f2_S2 := hF7.2.1 2 (by decide)
    have f2a_S2 := Fr_fa hF7 2 (by decide)
    have f8_S2 := hF7.2.1 8 (by decide)
    have f8a_S2 := Fr_fa hF7 8 (by decide)
    have g3_S2 := hF7.2.2 3 (by decide)
    have g3a_S2 := Fr_ga hF7 3 (by decide)
    have g4_S2 := hF7.2.2 4 (by decide)
    have g4a_S2 := Fr_ga hF7 4 (by decide)
    clear hF7
    refine ⟨fun c8 => ?_, fun c8 => ?_⟩
    · exact j19 _ (⟨by (try clear nS2 mS2 oS2); (try clear j19); (try clear j63); grind [PI, LG, TK, CE, ix_int, ix_lt, q_zz, q_za, q_zga, q_fza, q_fx, q_fga, q_gza, q_gfa, q_gx, q_zf1, q_zg1, q_ff, q_fg1, q_gf1, q_gg, ti_link, in24, in4002], by (try clear j19); (try clear j63); grind [NO_tr, NO_rf, ti_link]⟩)
    · refine fm_wrong _ _ _ _ (fun S4 hF9 pS4 => ?_) (sg_wrong (nx := nx) (n := n) (so := so) (pl := pl) (wo := wo) (ws := ws) _ (by (try clear nS2 mS2 oS2); (try clear j19); (try clear j63); grind [PI, LG, TK, CE, ix_int, ix_lt, q_zz, q_za, q_zga, q_fza, q_fx, q_fga, q_gza, q_gfa, q_gx, q_zf1, q_zg1, q_ff, q_fg1, q_gf1, q_gg, ti_link, in24, in4002]) (by (try clear nS2 mS2 oS2); (try clear j19); (try clear j63); grind [PI, LG, TK, CE, ix_int, ix_lt, q_zz, q_za, q_zga, q_fza, q_fx, q_fga, q_gza, q_gfa, q_gx, q_zf1, q_zg1, q_ff, q_fg1, q_gf1, q_gg, ti_link, in24, in4002]))
      have fS4 : S4.1 4 = 0 → S2.1 4 = 0 := by (try clear nS2 mS2 oS2); (try clear j19); (try clear j63); grind [ti_link]
      have nS4 : NC S2 S4 := NC_fr hF9 (by decide) (by decide) fS4
      have mS4 : NA S2 S4 := NA_fr hF9 (by decide) (by decide) fS4
      have oS4 : NO nx S2 S4 := NO_fr hF9 (by decide) (by decide)
      have z3_S4 := hF9.1 3 (by decide)
      have z6_S4 := hF9.1 6 (by decide)
      have z12_S4 := hF9.1 12 (by decide)
      have f1_S4 := hF9.2.1 1 (by decide)
      have f1a_S4 := Fr_fa hF9 1 (by decide)
      have f2_S4 := hF9.2.1 2 (by decide)
      have f2a_S4 := Fr_fa hF9 2 (by decide)
      have f8_S4 := hF9.2.1 8 (by decide)
      have f8a_S4 := Fr_fa hF9 8 (by decide)
      have g3_S4 := hF9.2.2 3 (by decide)
      have g3a_S4 := Fr_ga hF9 3 (by decide)
      have g4_S4 := hF9.2.2 4 (by decide)
      have g4a_S4 := Fr_ga hF9 4 (by decide)
      clear hF9
      exact j19 _ (⟨by (try clear nS2 mS2 oS2 nS4 mS4 oS4); (try clear j19); (try clear j63); grind [PI, LG, TK, CE, ix_int, ix_lt, q_zz, q_za, q_zga, q_fza, q_fx, q_fga, q_gza, q_gfa, q_gx, q_zf1, q_zg1, q_ff, q_fg1, q_gf1, q_gg, ti_link, in24, in4002], by (try clear j19); (try clear j63); grind [NO_tr, NO_rf, ti_link]⟩)
