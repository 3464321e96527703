
set_option maxHeartbeats 4000000 in
theorem sg_within {nx n : Nat} {so pl : Nat → Int32} {wo ws : Nat → Int64} (a0 : Int32) {S : mS} (h : PI nx n so pl wo ws S) (hd : (S.1 4) = 0 → 0 ≤ (S.1 18).toInt ∧ (S.1 18).toInt ≤ 10) : wp_within a0 S (fun S1 => PI nx n so pl wo ws S1 ∧ (S1.1 3) = (S.1 3) ∧ ((S1.1 4) = 0 → (S.1 4) = 0 ∧ ¬ a0 = 0 ∧ (S.1 18).toInt ≠ 10 ∧ (S1.1 18).toInt = (S.1 18).toInt + 1)) := by
  unfold wp_within
  refine ⟨fun c1 => ?_, fun c1 => ?_⟩
  · refine ⟨fun c2 => ?_, fun c2 => ?_⟩
    · unfold wp_within_26
      intro z5 ez5
      intro S6 eS6
      grind [PI, LG, TK, CE, ix_int, q_zz, q_za, q_zga, q_fza, q_fx, q_fga, q_gza, q_gfa, q_gx, q_zf1, q_zg1, q_ff, q_fg1, q_gf1, q_gg, ti_link]
    · refine fm_wrong _ _ _ _ (fun S3 hF3 pS3 => ?_) (sg_wrong (nx := nx) (n := n) (so := so) (pl := pl) (wo := wo) (ws := ws) _ (by grind [PI, LG, TK, CE, ix_int, q_zz, q_za, q_zga, q_fza, q_fx, q_fga, q_gza, q_gfa, q_gx, q_zf1, q_zg1, q_ff, q_fg1, q_gf1, q_gg, ti_link]) (by grind [PI, LG, TK, CE, ix_int, q_zz, q_za, q_zga, q_fza, q_fx, q_fga, q_gza, q_gfa, q_gx, q_zf1, q_zg1, q_ff, q_fg1, q_gf1, q_gg, ti_link]))
      have z3_S3 := hF3.1 3 (by decide)
      have z6_S3 := hF3.1 6 (by decide)
      have z18_S3 := hF3.1 18 (by decide)
      have f1_S3 := hF3.2.1 1 (by decide)
      have f1a_S3 := Fr_fa hF3 1 (by decide)
      have f2_S3 := hF3.2.1 2 (by decide)
      have f2a_S3 := Fr_fa hF3 2 (by decide)
      have g3_S3 := hF3.2.2 3 (by decide)
      have g3a_S3 := Fr_ga hF3 3 (by decide)
      have g4_S3 := hF3.2.2 4 (by decide)
      have g4a_S3 := Fr_ga hF3 4 (by decide)
      clear hF3
      unfold wp_within_26
      intro z5 ez5
      intro S6 eS6
      grind [PI, LG, TK, CE, ix_int, q_zz, q_za, q_zga, q_fza, q_fx, q_fga, q_gza, q_gfa, q_gx, q_zf1, q_zg1, q_ff, q_fg1, q_gf1, q_gg, ti_link]
  · refine fm_wrong _ _ _ _ (fun S4 hF4 pS4 => ?_) (sg_wrong (nx := nx) (n := n) (so := so) (pl := pl) (wo := wo) (ws := ws) _ (by grind [PI, LG, TK, CE, ix_int, q_zz, q_za, q_zga, q_fza, q_fx, q_fga, q_gza, q_gfa, q_gx, q_zf1, q_zg1, q_ff, q_fg1, q_gf1, q_gg, ti_link]) (by grind [PI, LG, TK, CE, ix_int, q_zz, q_za, q_zga, q_fza, q_fx, q_fga, q_gza, q_gfa, q_gx, q_zf1, q_zg1, q_ff, q_fg1, q_gf1, q_gg, ti_link]))
    have z3_S4 := hF4.1 3 (by decide)
    have z6_S4 := hF4.1 6 (by decide)
    have z18_S4 := hF4.1 18 (by decide)
    have f1_S4 := hF4.2.1 1 (by decide)
    have f1a_S4 := Fr_fa hF4 1 (by decide)
    have f2_S4 := hF4.2.1 2 (by decide)
    have f2a_S4 := Fr_fa hF4 2 (by decide)
    have g3_S4 := hF4.2.2 3 (by decide)
    have g3a_S4 := Fr_ga hF4 3 (by decide)
    have g4_S4 := hF4.2.2 4 (by decide)
    have g4a_S4 := Fr_ga hF4 4 (by decide)
    clear hF4
    unfold wp_within_26
    intro z5 ez5
    intro S6 eS6
    grind [PI, LG, TK, CE, ix_int, q_zz, q_za, q_zga, q_fza, q_fx, q_fga, q_gza, q_gfa, q_gx, q_zf1, q_zg1, q_ff, q_fg1, q_gf1, q_gg, ti_link]
