
set_option maxHeartbeats 4000000 in
theorem sg_isWait {nx n : Nat} {so pl : Nat → Int32} {wo ws : Nat → Int64} {S : mS} (h : PI nx n so pl wo ws S) : wp_isWait S (fun S1 r => S1 = S ∧ (r = 0 ∨ (r = 1 ∧ (S.1 4) = 0 ∧ (S.1 3).toInt < n))) := by
  unfold wp_isWait
  refine fm_isWord _ _ _ _ (fun S1 r1 hF1 pS1 => ?_) (sg_isWord (nx := nx) (n := n) (so := so) (pl := pl) (wo := wo) (ws := ws) _ (by grind [PI, LG, TK, CE, ix_int, q_zz, q_za, q_zga, q_fza, q_fx, q_fga, q_gza, q_gfa, q_gx, q_zf1, q_zg1, q_ff, q_fg1, q_gf1, q_gg, ti_link]) (by grind [PI, LG, TK, CE, ix_int, q_zz, q_za, q_zga, q_fza, q_fx, q_fga, q_gza, q_gfa, q_gx, q_zf1, q_zg1, q_ff, q_fg1, q_gf1, q_gg, ti_link]))
  have z3_S1 := hF1.1 3 (by decide)
  have z4_S1 := hF1.1 4 (by decide)
  have z6_S1 := hF1.1 6 (by decide)
  have f1_S1 := hF1.2.1 1 (by decide)
  have f1a_S1 := Fr_fa hF1 1 (by decide)
  have f2_S1 := hF1.2.1 2 (by decide)
  have f2a_S1 := Fr_fa hF1 2 (by decide)
  have g3_S1 := hF1.2.2 3 (by decide)
  have g3a_S1 := Fr_ga hF1 3 (by decide)
  have g4_S1 := hF1.2.2 4 (by decide)
  have g4a_S1 := Fr_ga hF1 4 (by decide)
  clear hF1
  refine ⟨fun c2 => ?_, fun c2 => ?_⟩
  · grind [PI, LG, TK, CE, ix_int, q_zz, q_za, q_zga, q_fza, q_fx, q_fga, q_gza, q_gfa, q_gx, q_zf1, q_zg1, q_ff, q_fg1, q_gf1, q_gg, ti_link]
  · refine fm_isWord _ _ _ _ (fun S3 r3 hF3 pS3 => ?_) (sg_isWord (nx := nx) (n := n) (so := so) (pl := pl) (wo := wo) (ws := ws) _ (by grind [PI, LG, TK, CE, ix_int, q_zz, q_za, q_zga, q_fza, q_fx, q_fga, q_gza, q_gfa, q_gx, q_zf1, q_zg1, q_ff, q_fg1, q_gf1, q_gg, ti_link]) (by grind [PI, LG, TK, CE, ix_int, q_zz, q_za, q_zga, q_fza, q_fx, q_fga, q_gza, q_gfa, q_gx, q_zf1, q_zg1, q_ff, q_fg1, q_gf1, q_gg, ti_link]))
    have z3_S3 := hF3.1 3 (by decide)
    have z4_S3 := hF3.1 4 (by decide)
    have z6_S3 := hF3.1 6 (by decide)
    have f1_S3 := hF3.2.1 1 (by decide)
    have f1a_S3 := Fr_fa hF3 1 (by decide)
    have f2_S3 := hF3.2.1 2 (by decide)
    have f2a_S3 := Fr_fa hF3 2 (by decide)
    have g3_S3 := hF3.2.2 3 (by decide)
    have g3a_S3 := Fr_ga hF3 3 (by decide)
    have g4_S3 := hF3.2.2 4 (by decide)
    have g4a_S3 := Fr_ga hF3 4 (by decide)
    clear hF3
    refine ⟨fun c4 => ?_, fun c4 => ?_⟩
    · grind [PI, LG, TK, CE, ix_int, q_zz, q_za, q_zga, q_fza, q_fx, q_fga, q_gza, q_gfa, q_gx, q_zf1, q_zg1, q_ff, q_fg1, q_gf1, q_gg, ti_link]
    · refine fm_isWord _ _ _ _ (fun S5 r5 hF5 pS5 => ?_) (sg_isWord (nx := nx) (n := n) (so := so) (pl := pl) (wo := wo) (ws := ws) _ (by grind [PI, LG, TK, CE, ix_int, q_zz, q_za, q_zga, q_fza, q_fx, q_fga, q_gza, q_gfa, q_gx, q_zf1, q_zg1, q_ff, q_fg1, q_gf1, q_gg, ti_link]) (by grind [PI, LG, TK, CE, ix_int, q_zz, q_za, q_zga, q_fza, q_fx, q_fga, q_gza, q_gfa, q_gx, q_zf1, q_zg1, q_ff, q_fg1, q_gf1, q_gg, ti_link]))
      have z3_S5 := hF5.1 3 (by decide)
      have z4_S5 := hF5.1 4 (by decide)
      have z6_S5 := hF5.1 6 (by decide)
      have f1_S5 := hF5.2.1 1 (by decide)
      have f1a_S5 := Fr_fa hF5 1 (by decide)
      have f2_S5 := hF5.2.1 2 (by decide)
      have f2a_S5 := Fr_fa hF5 2 (by decide)
      have g3_S5 := hF5.2.2 3 (by decide)
      have g3a_S5 := Fr_ga hF5 3 (by decide)
      have g4_S5 := hF5.2.2 4 (by decide)
      have g4a_S5 := Fr_ga hF5 4 (by decide)
      clear hF5
      refine ⟨fun c6 => ?_, fun c6 => ?_⟩
      · grind [PI, LG, TK, CE, ix_int, q_zz, q_za, q_zga, q_fza, q_fx, q_fga, q_gza, q_gfa, q_gx, q_zf1, q_zg1, q_ff, q_fg1, q_gf1, q_gg, ti_link]
      · refine fm_isWord _ _ _ _ (fun S7 r7 hF7 pS7 => ?_) (sg_isWord (nx := nx) (n := n) (so := so) (pl := pl) (wo := wo) (ws := ws) _ (by grind [PI, LG, TK, CE, ix_int, q_zz, q_za, q_zga, q_fza, q_fx, q_fga, q_gza, q_gfa, q_gx, q_zf1, q_zg1, q_ff, q_fg1, q_gf1, q_gg, ti_link]) (by grind [PI, LG, TK, CE, ix_int, q_zz, q_za, q_zga, q_fza, q_fx, q_fga, q_gza, q_gfa, q_gx, q_zf1, q_zg1, q_ff, q_fg1, q_gf1, q_gg, ti_link]))
        have z3_S7 := hF7.1 3 (by decide)
        have z4_S7 := hF7.1 4 (by decide)
        have z6_S7 := hF7.1 6 (by decide)
        have f1_S7 := hF7.2.1 1 (by decide)
        have f1a_S7 := Fr_fa hF7 1 (by decide)
        have f2_S7 := hF7.2.1 2 (by decide)
        have f2a_S7 := Fr_fa hF7 2 (by decide)
        have g3_S7 := hF7.2.2 3 (by decide)
        have g3a_S7 := Fr_ga hF7 3 (by decide)
        have g4_S7 := hF7.2.2 4 (by decide)
        have g4a_S7 := Fr_ga hF7 4 (by decide)
        clear hF7
        refine ⟨fun c8 => ?_, fun c8 => ?_⟩
        · grind [PI, LG, TK, CE, ix_int, q_zz, q_za, q_zga, q_fza, q_fx, q_fga, q_gza, q_gfa, q_gx, q_zf1, q_zg1, q_ff, q_fg1, q_gf1, q_gg, ti_link]
        · refine fm_isWord _ _ _ _ (fun S9 r9 hF9 pS9 => ?_) (sg_isWord (nx := nx) (n := n) (so := so) (pl := pl) (wo := wo) (ws := ws) _ (by grind [PI, LG, TK, CE, ix_int, q_zz, q_za, q_zga, q_fza, q_fx, q_fga, q_gza, q_gfa, q_gx, q_zf1, q_zg1, q_ff, q_fg1, q_gf1, q_gg, ti_link]) (by grind [PI, LG, TK, CE, ix_int, q_zz, q_za, q_zga, q_fza, q_fx, q_fga, q_gza, q_gfa, q_gx, q_zf1, q_zg1, q_ff, q_fg1, q_gf1, q_gg, ti_link]))
          have z3_S9 := hF9.1 3 (by decide)
          have z4_S9 := hF9.1 4 (by decide)
          have z6_S9 := hF9.1 6 (by decide)
          have f1_S9 := hF9.2.1 1 (by decide)
          have f1a_S9 := Fr_fa hF9 1 (by decide)
          have f2_S9 := hF9.2.1 2 (by decide)
          have f2a_S9 := Fr_fa hF9 2 (by decide)
          have g3_S9 := hF9.2.2 3 (by decide)
          have g3a_S9 := Fr_ga hF9 3 (by decide)
          have g4_S9 := hF9.2.2 4 (by decide)
          have g4a_S9 := Fr_ga hF9 4 (by decide)
          clear hF9
          refine ⟨fun c10 => ?_, fun c10 => ?_⟩
          · grind [PI, LG, TK, CE, ix_int, q_zz, q_za, q_zga, q_fza, q_fx, q_fga, q_gza, q_gfa, q_gx, q_zf1, q_zg1, q_ff, q_fg1, q_gf1, q_gg, ti_link]
          · refine fm_isWord _ _ _ _ (fun S11 r11 hF11 pS11 => ?_) (sg_isWord (nx := nx) (n := n) (so := so) (pl := pl) (wo := wo) (ws := ws) _ (by grind [PI, LG, TK, CE, ix_int, q_zz, q_za, q_zga, q_fza, q_fx, q_fga, q_gza, q_gfa, q_gx, q_zf1, q_zg1, q_ff, q_fg1, q_gf1, q_gg, ti_link]) (by grind [PI, LG, TK, CE, ix_int, q_zz, q_za, q_zga, q_fza, q_fx, q_fga, q_gza, q_gfa, q_gx, q_zf1, q_zg1, q_ff, q_fg1, q_gf1, q_gg, ti_link]))
            have z3_S11 := hF11.1 3 (by decide)
            have z4_S11 := hF11.1 4 (by decide)
            have z6_S11 := hF11.1 6 (by decide)
            have f1_S11 := hF11.2.1 1 (by decide)
            have f1a_S11 := Fr_fa hF11 1 (by decide)
            have f2_S11 := hF11.2.1 2 (by decide)
            have f2a_S11 := Fr_fa hF11 2 (by decide)
            have g3_S11 := hF11.2.2 3 (by decide)
            have g3a_S11 := Fr_ga hF11 3 (by decide)
            have g4_S11 := hF11.2.2 4 (by decide)
            have g4a_S11 := Fr_ga hF11 4 (by decide)
            clear hF11
            refine ⟨fun c12 => ?_, fun c12 => ?_⟩
            · grind [PI, LG, TK, CE, ix_int, q_zz, q_za, q_zga, q_fza, q_fx, q_fga, q_gza, q_gfa, q_gx, q_zf1, q_zg1, q_ff, q_fg1, q_gf1, q_gg, ti_link]
            · refine fm_isWord _ _ _ _ (fun S13 r13 hF13 pS13 => ?_) (sg_isWord (nx := nx) (n := n) (so := so) (pl := pl) (wo := wo) (ws := ws) _ (by grind [PI, LG, TK, CE, ix_int, q_zz, q_za, q_zga, q_fza, q_fx, q_fga, q_gza, q_gfa, q_gx, q_zf1, q_zg1, q_ff, q_fg1, q_gf1, q_gg, ti_link]) (by grind [PI, LG, TK, CE, ix_int, q_zz, q_za, q_zga, q_fza, q_fx, q_fga, q_gza, q_gfa, q_gx, q_zf1, q_zg1, q_ff, q_fg1, q_gf1, q_gg, ti_link]))
              have z3_S13 := hF13.1 3 (by decide)
              have z4_S13 := hF13.1 4 (by decide)
              have z6_S13 := hF13.1 6 (by decide)
              have f1_S13 := hF13.2.1 1 (by decide)
              have f1a_S13 := Fr_fa hF13 1 (by decide)
              have f2_S13 := hF13.2.1 2 (by decide)
              have f2a_S13 := Fr_fa hF13 2 (by decide)
              have g3_S13 := hF13.2.2 3 (by decide)
              have g3a_S13 := Fr_ga hF13 3 (by decide)
              have g4_S13 := hF13.2.2 4 (by decide)
              have g4a_S13 := Fr_ga hF13 4 (by decide)
              clear hF13
              refine ⟨fun c14 => ?_, fun c14 => ?_⟩
              · grind [PI, LG, TK, CE, ix_int, q_zz, q_za, q_zga, q_fza, q_fx, q_fga, q_gza, q_gfa, q_gx, q_zf1, q_zg1, q_ff, q_fg1, q_gf1, q_gg, ti_link]
              · grind [PI, LG, TK, CE, ix_int, q_zz, q_za, q_zga, q_fza, q_fx, q_fga, q_gza, q_gfa, q_gx, q_zf1, q_zg1, q_ff, q_fg1, q_gf1, q_gg, ti_link]
