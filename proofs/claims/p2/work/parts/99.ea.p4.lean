
set_option maxHeartbeats 4000000 in
theorem sg_isWait {nx n : Nat} {so pl : Nat → Int32} {wo ws : Nat → Int64} {S : mS} (h : PI nx n so pl wo ws S) : wp_isWait S (fun S1 r => S1 = S ∧ (r = 0 ∨ (r = 1 ∧ (S.1 4) = 0 ∧ (S.1 3).toInt < n))) := by
  unfold wp_isWait
  refine fm_isWord _ _ _ _ (fun S1 r1 hF1 p2 => ?_) (sg_isWord (nx := nx) (n := n) (so := so) (pl := pl) (wo := wo) (ws := ws) _ (by grind (ematch := 12) (splits := 16) [PI, LG, ix_int, q_zz, q_za, q_zga, q_fza, q_fx, q_fga, q_gza, q_gfa, q_gx, ti_link]) (by grind (ematch := 12) (splits := 16) [PI, LG, ix_int, q_zz, q_za, q_zga, q_fza, q_fx, q_fga, q_gza, q_gfa, q_gx, ti_link]))
  have z3_S1 := hF1.1 3 (by decide)
  have z4_S1 := hF1.1 4 (by decide)
  have z6_S1 := hF1.1 6 (by decide)
  have f1_S1 := Fr_fa hF1 1 (by decide)
  have f2_S1 := Fr_fa hF1 2 (by decide)
  have g3_S1 := Fr_ga hF1 3 (by decide)
  have g4_S1 := Fr_ga hF1 4 (by decide)
  clear hF1
  refine ⟨fun c3 => ?_, fun c3 => ?_⟩
  · grind (ematch := 12) (splits := 16) [PI, LG, ix_int, q_zz, q_za, q_zga, q_fza, q_fx, q_fga, q_gza, q_gfa, q_gx, ti_link]
  · refine fm_isWord _ _ _ _ (fun S3 r3 hF4 p5 => ?_) (sg_isWord (nx := nx) (n := n) (so := so) (pl := pl) (wo := wo) (ws := ws) _ (by grind (ematch := 12) (splits := 16) [PI, LG, ix_int, q_zz, q_za, q_zga, q_fza, q_fx, q_fga, q_gza, q_gfa, q_gx, ti_link]) (by grind (ematch := 12) (splits := 16) [PI, LG, ix_int, q_zz, q_za, q_zga, q_fza, q_fx, q_fga, q_gza, q_gfa, q_gx, ti_link]))
    have z3_S3 := hF4.1 3 (by decide)
    have z4_S3 := hF4.1 4 (by decide)
    have z6_S3 := hF4.1 6 (by decide)
    have f1_S3 := Fr_fa hF4 1 (by decide)
    have f2_S3 := Fr_fa hF4 2 (by decide)
    have g3_S3 := Fr_ga hF4 3 (by decide)
    have g4_S3 := Fr_ga hF4 4 (by decide)
    clear hF4
    refine ⟨fun c6 => ?_, fun c6 => ?_⟩
    · grind (ematch := 12) (splits := 16) [PI, LG, ix_int, q_zz, q_za, q_zga, q_fza, q_fx, q_fga, q_gza, q_gfa, q_gx, ti_link]
    · refine fm_isWord _ _ _ _ (fun S5 r5 hF7 p8 => ?_) (sg_isWord (nx := nx) (n := n) (so := so) (pl := pl) (wo := wo) (ws := ws) _ (by grind (ematch := 12) (splits := 16) [PI, LG, ix_int, q_zz, q_za, q_zga, q_fza, q_fx, q_fga, q_gza, q_gfa, q_gx, ti_link]) (by grind (ematch := 12) (splits := 16) [PI, LG, ix_int, q_zz, q_za, q_zga, q_fza, q_fx, q_fga, q_gza, q_gfa, q_gx, ti_link]))
      have z3_S5 := hF7.1 3 (by decide)
      have z4_S5 := hF7.1 4 (by decide)
      have z6_S5 := hF7.1 6 (by decide)
      have f1_S5 := Fr_fa hF7 1 (by decide)
      have f2_S5 := Fr_fa hF7 2 (by decide)
      have g3_S5 := Fr_ga hF7 3 (by decide)
      have g4_S5 := Fr_ga hF7 4 (by decide)
      clear hF7
      refine ⟨fun c9 => ?_, fun c9 => ?_⟩
      · grind (ematch := 12) (splits := 16) [PI, LG, ix_int, q_zz, q_za, q_zga, q_fza, q_fx, q_fga, q_gza, q_gfa, q_gx, ti_link]
      · refine fm_isWord _ _ _ _ (fun S7 r7 hF10 p11 => ?_) (sg_isWord (nx := nx) (n := n) (so := so) (pl := pl) (wo := wo) (ws := ws) _ (by grind (ematch := 12) (splits := 16) [PI, LG, ix_int, q_zz, q_za, q_zga, q_fza, q_fx, q_fga, q_gza, q_gfa, q_gx, ti_link]) (by grind (ematch := 12) (splits := 16) [PI, LG, ix_int, q_zz, q_za, q_zga, q_fza, q_fx, q_fga, q_gza, q_gfa, q_gx, ti_link]))
        have z3_S7 := hF10.1 3 (by decide)
        have z4_S7 := hF10.1 4 (by decide)
        have z6_S7 := hF10.1 6 (by decide)
        have f1_S7 := Fr_fa hF10 1 (by decide)
        have f2_S7 := Fr_fa hF10 2 (by decide)
        have g3_S7 := Fr_ga hF10 3 (by decide)
        have g4_S7 := Fr_ga hF10 4 (by decide)
        clear hF10
        refine ⟨fun c12 => ?_, fun c12 => ?_⟩
        · grind (ematch := 12) (splits := 16) [PI, LG, ix_int, q_zz, q_za, q_zga, q_fza, q_fx, q_fga, q_gza, q_gfa, q_gx, ti_link]
        · refine fm_isWord _ _ _ _ (fun S9 r9 hF13 p14 => ?_) (sg_isWord (nx := nx) (n := n) (so := so) (pl := pl) (wo := wo) (ws := ws) _ (by grind (ematch := 12) (splits := 16) [PI, LG, ix_int, q_zz, q_za, q_zga, q_fza, q_fx, q_fga, q_gza, q_gfa, q_gx, ti_link]) (by grind (ematch := 12) (splits := 16) [PI, LG, ix_int, q_zz, q_za, q_zga, q_fza, q_fx, q_fga, q_gza, q_gfa, q_gx, ti_link]))
          have z3_S9 := hF13.1 3 (by decide)
          have z4_S9 := hF13.1 4 (by decide)
          have z6_S9 := hF13.1 6 (by decide)
          have f1_S9 := Fr_fa hF13 1 (by decide)
          have f2_S9 := Fr_fa hF13 2 (by decide)
          have g3_S9 := Fr_ga hF13 3 (by decide)
          have g4_S9 := Fr_ga hF13 4 (by decide)
          clear hF13
          refine ⟨fun c15 => ?_, fun c15 => ?_⟩
          · grind (ematch := 12) (splits := 16) [PI, LG, ix_int, q_zz, q_za, q_zga, q_fza, q_fx, q_fga, q_gza, q_gfa, q_gx, ti_link]
          · refine fm_isWord _ _ _ _ (fun S11 r11 hF16 p17 => ?_) (sg_isWord (nx := nx) (n := n) (so := so) (pl := pl) (wo := wo) (ws := ws) _ (by grind (ematch := 12) (splits := 16) [PI, LG, ix_int, q_zz, q_za, q_zga, q_fza, q_fx, q_fga, q_gza, q_gfa, q_gx, ti_link]) (by grind (ematch := 12) (splits := 16) [PI, LG, ix_int, q_zz, q_za, q_zga, q_fza, q_fx, q_fga, q_gza, q_gfa, q_gx, ti_link]))
            have z3_S11 := hF16.1 3 (by decide)
            have z4_S11 := hF16.1 4 (by decide)
            have z6_S11 := hF16.1 6 (by decide)
            have f1_S11 := Fr_fa hF16 1 (by decide)
            have f2_S11 := Fr_fa hF16 2 (by decide)
            have g3_S11 := Fr_ga hF16 3 (by decide)
            have g4_S11 := Fr_ga hF16 4 (by decide)
            clear hF16
            refine ⟨fun c18 => ?_, fun c18 => ?_⟩
            · grind (ematch := 12) (splits := 16) [PI, LG, ix_int, q_zz, q_za, q_zga, q_fza, q_fx, q_fga, q_gza, q_gfa, q_gx, ti_link]
            · refine fm_isWord _ _ _ _ (fun S13 r13 hF19 p20 => ?_) (sg_isWord (nx := nx) (n := n) (so := so) (pl := pl) (wo := wo) (ws := ws) _ (by grind (ematch := 12) (splits := 16) [PI, LG, ix_int, q_zz, q_za, q_zga, q_fza, q_fx, q_fga, q_gza, q_gfa, q_gx, ti_link]) (by grind (ematch := 12) (splits := 16) [PI, LG, ix_int, q_zz, q_za, q_zga, q_fza, q_fx, q_fga, q_gza, q_gfa, q_gx, ti_link]))
              have z3_S13 := hF19.1 3 (by decide)
              have z4_S13 := hF19.1 4 (by decide)
              have z6_S13 := hF19.1 6 (by decide)
              have f1_S13 := Fr_fa hF19 1 (by decide)
              have f2_S13 := Fr_fa hF19 2 (by decide)
              have g3_S13 := Fr_ga hF19 3 (by decide)
              have g4_S13 := Fr_ga hF19 4 (by decide)
              clear hF19
              refine ⟨fun c21 => ?_, fun c21 => ?_⟩
              · grind (ematch := 12) (splits := 16) [PI, LG, ix_int, q_zz, q_za, q_zga, q_fza, q_fx, q_fga, q_gza, q_gfa, q_gx, ti_link]
              · grind (ematch := 12) (splits := 16) [PI, LG, ix_int, q_zz, q_za, q_zga, q_fza, q_fx, q_fga, q_gza, q_gfa, q_gx, ti_link]
set_option maxHeartbeats 4000000 in
theorem sg_takeWord {nx n : Nat} {so pl : Nat → Int32} {wo ws : Nat → Int64} (a0 : Int32) {S : mS} (h : PI nx n so pl wo ws S) (hw : 0 ≤ a0 ∧ a0 < 22) : wp_takeWord a0 S (fun S1 => PI nx n so pl wo ws S1 ∧ ((0 < (S1.1 4).toInt ∧ (S1.1 3) = (S.1 3)) ∨ ((S1.1 4) = 0 ∧ (S.1 4) = 0 ∧ (S.1 3).toInt < n ∧ (S1.1 3).toInt = (S.1 3).toInt + 1))) := by
  unfold wp_takeWord
  refine fm_hasWord _ _ _ _ (fun S1 r1 hF1 p2 => ?_) (sg_hasWord (nx := nx) (n := n) (so := so) (pl := pl) (wo := wo) (ws := ws) _ (by grind (ematch := 12) (splits := 16) [PI, LG, ix_int, q_zz, q_za, q_zga, q_fza, q_fx, q_fga, q_gza, q_gfa, q_gx, ti_link]) (by grind (ematch := 12) (splits := 16) [PI, LG, ix_int, q_zz, q_za, q_zga, q_fza, q_fx, q_fga, q_gza, q_gfa, q_gx, ti_link]))
  have z4_S1 := hF1.1 4 (by decide)
  have z6_S1 := hF1.1 6 (by decide)
  have f1_S1 := Fr_fa hF1 1 (by decide)
  have f2_S1 := Fr_fa hF1 2 (by decide)
  have g3_S1 := Fr_ga hF1 3 (by decide)
  have g4_S1 := Fr_ga hF1 4 (by decide)
  clear hF1
  refine ⟨fun c3 => ?_, fun c3 => ?_⟩
  · grind (ematch := 12) (splits := 16) [PI, LG, ix_int, q_zz, q_za, q_zga, q_fza, q_fx, q_fga, q_gza, q_gfa, q_gx, ti_link]
  · refine fm_wrong _ _ _ _ (fun S3 hF4 p5 => ?_) (sg_wrong (nx := nx) (n := n) (so := so) (pl := pl) (wo := wo) (ws := ws) _ (by grind (ematch := 12) (splits := 16) [PI, LG, ix_int, q_zz, q_za, q_zga, q_fza, q_fx, q_fga, q_gza, q_gfa, q_gx, ti_link]) (by grind (ematch := 12) (splits := 16) [PI, LG, ix_int, q_zz, q_za, q_zga, q_fza, q_fx, q_fga, q_gza, q_gfa, q_gx, ti_link]))
    have z3_S3 := hF4.1 3 (by decide)
    have z6_S3 := hF4.1 6 (by decide)
    have f1_S3 := Fr_fa hF4 1 (by decide)
    have f2_S3 := Fr_fa hF4 2 (by decide)
    have g3_S3 := Fr_ga hF4 3 (by decide)
    have g4_S3 := Fr_ga hF4 4 (by decide)
    clear hF4
    grind (ematch := 12) (splits := 16) [PI, LG, ix_int, q_zz, q_za, q_zga, q_fza, q_fx, q_fga, q_gza, q_gfa, q_gx, ti_link]
set_option maxHeartbeats 4000000 in
theorem sg_child {nx n : Nat} {so pl : Nat → Int32} {wo ws : Nat → Int64} {S0 : mS} {d : Nat} {G GA X Y : Int} {S : mS} (hL : LV d G GA X Y) (h : XI nx n so pl wo ws S0 d G GA X Y S) (hl : (S.1 4) = 0 → 4 * (S.1 11).toInt + 1 ≤ (S.1 3).toInt) : wp_child S (fun S1 => XI nx n so pl wo ws S0 d (G - 5) GA (X + 8) (Y + 1) S1 ∧ ((S1.1 4) = 0 → (S.1 4) = 0 ∧ (S.1 3).toInt < (S1.1 3).toInt)) := by
  unfold wp_child
  have j77 : ∀ (x1 : Int32) (x2 : Int32) (Sx : mS), (XI nx n so pl wo ws S0 d (G - 10) GA (X + 6) (Y + 1) Sx ∧ ((Sx.1 4) = 0 → (S.1 4) = 0 ∧ (S.1 3).toInt + 2 ≤ (Sx.1 3).toInt) ∧ (Sx.1 11) = (S.1 11) ∧ x1 = (S.1 3)) → wp_child_77 (fun S1 => XI nx n so pl wo ws S0 d (G - 5) GA (X + 8) (Y + 1) S1 ∧ ((S1.1 4) = 0 → (S.1 4) = 0 ∧ (S.1 3).toInt < (S1.1 3).toInt)) x1 x2 Sx := by
    intro x1 x2 Sx hJ77
    unfold wp_child_77
    refine fm_takeSign _ _ _ _ (fun S15 hF1 p2 => ?_) (sg_takeSign (nx := nx) (n := n) (so := so) (pl := pl) (wo := wo) (ws := ws) _ (by grind (ematch := 12) (splits := 16) [XI, PI, PJ, BU, LV, LG, OH, HH, HL, ix_int, q_zz, q_za, q_zga, q_fza, q_fx, q_fga, q_gza, q_gfa, q_gx, ti_link, in1000]))
    have fa_S15 := Fr_faa hF1
    have ga_S15 := Fr_gaa hF1
    have z6_S15 := hF1.1 6 (by decide)
    have z7_S15 := hF1.1 7 (by decide)
    have z8_S15 := hF1.1 8 (by decide)
    have z11_S15 := hF1.1 11 (by decide)
    have z12_S15 := hF1.1 12 (by decide)
    have z18_S15 := hF1.1 18 (by decide)
    have z19_S15 := hF1.1 19 (by decide)
    have f1_S15 := Fr_fa hF1 1 (by decide)
    have f2_S15 := Fr_fa hF1 2 (by decide)
    have f8_S15 := Fr_fa hF1 8 (by decide)
    have f46_S15 := Fr_fa hF1 46 (by decide)
    have f48_S15 := Fr_fa hF1 48 (by decide)
    have g3_S15 := Fr_ga hF1 3 (by decide)
    have g4_S15 := Fr_ga hF1 4 (by decide)
    clear hF1
    refine fm_emit _ _ _ _ _ _ (fun S16 r16 hF3 p4 => ?_) (sg_emit _ _ _ (by grind (ematch := 12) (splits := 16) [XI, PI, PJ, BU, LV, LG, OH, HH, HL, ix_int, q_zz, q_za, q_zga, q_fza, q_fx, q_fga, q_gza, q_gfa, q_gx, ti_link, in1000]))
    have ga_S16 := Fr_gaa hF3
    have z3_S16 := hF3.1 3 (by decide)
    have z4_S16 := hF3.1 4 (by decide)
    have z6_S16 := hF3.1 6 (by decide)
    have z8_S16 := hF3.1 8 (by decide)
    have z11_S16 := hF3.1 11 (by decide)
    have z12_S16 := hF3.1 12 (by decide)
    have z18_S16 := hF3.1 18 (by decide)
    have z19_S16 := hF3.1 19 (by decide)
    have f1_S16 := Fr_fa hF3 1 (by decide)
    have f2_S16 := Fr_fa hF3 2 (by decide)
    have f8_S16 := Fr_fa hF3 8 (by decide)
    have f46_S16 := Fr_fa hF3 46 (by decide)
    have f48_S16 := Fr_fa hF3 48 (by decide)
    have g3_S16 := Fr_ga hF3 3 (by decide)
    have g4_S16 := Fr_ga hF3 4 (by decide)
    clear hF3
    refine ⟨fun c5 => ?_, fun c5 => ?_⟩
    · grind (ematch := 12) (splits := 16) [XI, PI, PJ, BU, LV, LG, OH, HH, HL, ix_int, q_zz, q_za, q_zga, q_fza, q_fx, q_fga, q_gza, q_gfa, q_gx, ti_link, in1000]
    · refine ⟨by grind (ematch := 12) (splits := 16) [XI, PI, PJ, BU, LV, LG, OH, HH, HL, ix_int, q_zz, q_za, q_zga, q_fza, q_fx, q_fga, q_gza, q_gfa, q_gx, ti_link, in1000], ?_⟩
      intro S18 eS18
      refine ⟨by grind (ematch := 12) (splits := 16) [XI, PI, PJ, BU, LV, LG, OH, HH, HL, ix_int, q_zz, q_za, q_zga, q_fza, q_fx, q_fga, q_gza, q_gfa, q_gx, ti_link, in1000], ?_⟩
      intro S19 eS19
      refine ⟨by grind (ematch := 12) (splits := 16) [XI, PI, PJ, BU, LV, LG, OH, HH, HL, ix_int, q_zz, q_za, q_zga, q_fza, q_fx, q_fga, q_gza, q_gfa, q_gx, ti_link, in1000], ?_⟩
      intro S20 eS20
      intro z21 ez21
      intro S22 eS22
      grind (ematch := 12) (splits := 16) [XI, PI, PJ, BU, LV, LG, OH, HH, HL, ix_int, q_zz, q_za, q_zga, q_fza, q_fx, q_fga, q_gza, q_gfa, q_gx, ti_link, in1000]
  have j19 : ∀ (Sx : mS), (XI nx n so pl wo ws S0 d G GA X Y Sx ∧ (Sx.1 11) = (S.1 11) ∧ (Sx.1 3) = (S.1 3) ∧ ((Sx.1 4) = 0 → (S.1 4) = 0 ∧ (S.1 3).toInt < n)) → wp_child_19 (fun S1 => XI nx n so pl wo ws S0 d (G - 5) GA (X + 8) (Y + 1) S1 ∧ ((S1.1 4) = 0 → (S.1 4) = 0 ∧ (S.1 3).toInt < (S1.1 3).toInt)) Sx := by
    intro Sx hJ19
    unfold wp_child_19
    intro z5 ez5
    intro S6 eS6
    refine fm_takeSign _ _ _ _ (fun S7 hF6 p7 => ?_) (sg_takeSign (nx := nx) (n := n) (so := so) (pl := pl) (wo := wo) (ws := ws) _ (by grind (ematch := 12) (splits := 16) [XI, PI, PJ, BU, LV, LG, OH, HH, HL, ix_int, q_zz, q_za, q_zga, q_fza, q_fx, q_fga, q_gza, q_gfa, q_gx, ti_link, in1000]))
    have fa_S7 := Fr_faa hF6
    have ga_S7 := Fr_gaa hF6
    have z6_S7 := hF6.1 6 (by decide)
    have z7_S7 := hF6.1 7 (by decide)
    have z8_S7 := hF6.1 8 (by decide)
    have z11_S7 := hF6.1 11 (by decide)
    have z12_S7 := hF6.1 12 (by decide)
    have z18_S7 := hF6.1 18 (by decide)
    have z19_S7 := hF6.1 19 (by decide)
    have f1_S7 := Fr_fa hF6 1 (by decide)
    have f2_S7 := Fr_fa hF6 2 (by decide)
    have f8_S7 := Fr_fa hF6 8 (by decide)
    have f46_S7 := Fr_fa hF6 46 (by decide)
    have f48_S7 := Fr_fa hF6 48 (by decide)
    have g3_S7 := Fr_ga hF6 3 (by decide)
    have g4_S7 := Fr_ga hF6 4 (by decide)
    clear hF6
    refine fm_isSign _ _ _ _ (fun S8 r8 hF8 p9 => ?_) (sg_isSign (nx := nx) (n := n) (so := so) (pl := pl) (wo := wo) (ws := ws) _ (by grind (ematch := 12) (splits := 16) [XI, PI, PJ, BU, LV, LG, OH, HH, HL, ix_int, q_zz, q_za, q_zga, q_fza, q_fx, q_fga, q_gza, q_gfa, q_gx, ti_link, in1000]))
    have fa_S8 := Fr_faa hF8
    have ga_S8 := Fr_gaa hF8
    have z3_S8 := hF8.1 3 (by decide)
    have z4_S8 := hF8.1 4 (by decide)
    have z6_S8 := hF8.1 6 (by decide)
    have z7_S8 := hF8.1 7 (by decide)
    have z8_S8 := hF8.1 8 (by decide)
    have z11_S8 := hF8.1 11 (by decide)
    have z12_S8 := hF8.1 12 (by decide)
    have z18_S8 := hF8.1 18 (by decide)
    have z19_S8 := hF8.1 19 (by decide)
    have f1_S8 := Fr_fa hF8 1 (by decide)
    have f2_S8 := Fr_fa hF8 2 (by decide)
    have f8_S8 := Fr_fa hF8 8 (by decide)
    have f46_S8 := Fr_fa hF8 46 (by decide)
    have f48_S8 := Fr_fa hF8 48 (by decide)
    have g3_S8 := Fr_ga hF8 3 (by decide)
    have g4_S8 := Fr_ga hF8 4 (by decide)
    clear hF8
    refine ⟨fun c10 => ?_, fun c10 => ?_⟩
    · exact j77 _ _ _ (by grind (ematch := 12) (splits := 16) [XI, PI, PJ, BU, LV, LG, OH, HH, HL, ix_int, q_zz, q_za, q_zga, q_fza, q_fx, q_fga, q_gza, q_gfa, q_gx, ti_link, in1000])
    · refine fq_expression _ _ _ (fun S10 hF11 p12 => ?_) (sq_expression (nx := nx) (n := n) (so := so) (pl := pl) (wo := wo) (ws := ws) (S0 := S0) (d := d) (G := (G - 10)) (GA := GA) (X := X) (Y := Y) (by grind (ematch := 12) (splits := 16) [XI, PI, PJ, BU, LV, LG, OH, HH, HL, ix_int, q_zz, q_za, q_zga, q_fza, q_fx, q_fga, q_gza, q_gfa, q_gx, ti_link, in1000]) (by grind (ematch := 12) (splits := 16) [XI, PI, PJ, BU, LV, LG, OH, HH, HL, ix_int, q_zz, q_za, q_zga, q_fza, q_fx, q_fga, q_gza, q_gfa, q_gx, ti_link, in1000]))
      have z6_S10 := hF11.1 6 (by decide)
      have z11_S10 := hF11.1 11 (by decide)
      have z12_S10 := hF11.1 12 (by decide)
      have f1_S10 := Fr_fa hF11 1 (by decide)
      have f2_S10 := Fr_fa hF11 2 (by decide)
      have f46_S10 := Fr_fa hF11 46 (by decide)
      have f48_S10 := Fr_fa hF11 48 (by decide)
      have g3_S10 := Fr_ga hF11 3 (by decide)
      have g4_S10 := Fr_ga hF11 4 (by decide)
      clear hF11
      refine it_rule (fun u : Int32 × Int32 × mS => XI nx n so pl wo ws S0 d (G - 10) GA (X + 6) (Y + 1) u.2.2 ∧ ((u.2.2.1 4) = 0 → (S.1 4) = 0 ∧ (S.1 3).toInt + 3 ≤ (u.2.2.1 3).toInt) ∧ (u.2.2.1 11) = (S.1 11) ∧ u.1 = (S.1 3)) (fun u => (if (u.2.2.1 4) = 0 then (n : Int) - (u.2.2.1 3).toInt + 1 else 0).toNat) ?_ (by grind (ematch := 12) (splits := 16) [XI, PI, PJ, BU, LV, LG, OH, HH, HL, ix_int, q_zz, q_za, q_zga, q_fza, q_fx, q_fga, q_gza, q_gfa, q_gx, ti_link, in1000])
      rintro ⟨x1, x2, Sl58⟩ k58 hI58 hk58
      replace hI58 : XI nx n so pl wo ws S0 d (G - 10) GA (X + 6) (Y + 1) Sl58 ∧ ((Sl58.1 4) = 0 → (S.1 4) = 0 ∧ (S.1 3).toInt + 3 ≤ (Sl58.1 3).toInt) ∧ (Sl58.1 11) = (S.1 11) ∧ x1 = (S.1 3) := hI58
      replace hk58 : ∀ v : Int32 × Int32 × mS, XI nx n so pl wo ws S0 d (G - 10) GA (X + 6) (Y + 1) v.2.2 ∧ ((v.2.2.1 4) = 0 → (S.1 4) = 0 ∧ (S.1 3).toInt + 3 ≤ (v.2.2.1 3).toInt) ∧ (v.2.2.1 11) = (S.1 11) ∧ v.1 = (S.1 3) → (if (v.2.2.1 4) = 0 then (n : Int) - (v.2.2.1 3).toInt + 1 else 0).toNat < (if (Sl58.1 4) = 0 then (n : Int) - (Sl58.1 3).toInt + 1 else 0).toNat → k58 v := hk58
      show wp_child_58 _ k58 x1 x2 Sl58
      unfold wp_child_58
      refine fm_hasSign _ _ _ _ (fun S11 r11 hF13 p14 => ?_) (sg_hasSign (nx := nx) (n := n) (so := so) (pl := pl) (wo := wo) (ws := ws) _ (by grind (ematch := 12) (splits := 16) [XI, PI, PJ, BU, LV, LG, OH, HH, HL, ix_int, q_zz, q_za, q_zga, q_fza, q_fx, q_fga, q_gza, q_gfa, q_gx, ti_link, in1000]))
      have fa_S11 := Fr_faa hF13
      have ga_S11 := Fr_gaa hF13
      have z4_S11 := hF13.1 4 (by decide)
      have z6_S11 := hF13.1 6 (by decide)
      have z7_S11 := hF13.1 7 (by decide)
      have z8_S11 := hF13.1 8 (by decide)
      have z11_S11 := hF13.1 11 (by decide)
      have z12_S11 := hF13.1 12 (by decide)
      have z18_S11 := hF13.1 18 (by decide)
      have z19_S11 := hF13.1 19 (by decide)
      have f1_S11 := Fr_fa hF13 1 (by decide)
      have f2_S11 := Fr_fa hF13 2 (by decide)
      have f8_S11 := Fr_fa hF13 8 (by decide)
      have f46_S11 := Fr_fa hF13 46 (by decide)
      have f48_S11 := Fr_fa hF13 48 (by decide)
      have g3_S11 := Fr_ga hF13 3 (by decide)
      have g4_S11 := Fr_ga hF13 4 (by decide)
      clear hF13
      refine ⟨fun c15 => ?_, fun c15 => ?_⟩
      · exact j77 _ _ _ (by grind (ematch := 12) (splits := 16) [XI, PI, PJ, BU, LV, LG, OH, HH, HL, ix_int, q_zz, q_za, q_zga, q_fza, q_fx, q_fga, q_gza, q_gfa, q_gx, ti_link, in1000])
      · refine fq_expression _ _ _ (fun S13 hF16 p17 => ?_) (sq_expression (nx := nx) (n := n) (so := so) (pl := pl) (wo := wo) (ws := ws) (S0 := S0) (d := d) (G := (G - 15)) (GA := GA) (X := X) (Y := Y) (by grind (ematch := 12) (splits := 16) [XI, PI, PJ, BU, LV, LG, OH, HH, HL, ix_int, q_zz, q_za, q_zga, q_fza, q_fx, q_fga, q_gza, q_gfa, q_gx, ti_link, in1000]) (by grind (ematch := 12) (splits := 16) [XI, PI, PJ, BU, LV, LG, OH, HH, HL, ix_int, q_zz, q_za, q_zga, q_fza, q_fx, q_fga, q_gza, q_gfa, q_gx, ti_link, in1000]))
        have z6_S13 := hF16.1 6 (by decide)
        have z11_S13 := hF16.1 11 (by decide)
        have z12_S13 := hF16.1 12 (by decide)
        have f1_S13 := Fr_fa hF16 1 (by decide)
        have f2_S13 := Fr_fa hF16 2 (by decide)
        have f46_S13 := Fr_fa hF16 46 (by decide)
        have f48_S13 := Fr_fa hF16 48 (by decide)
        have g3_S13 := Fr_ga hF16 3 (by decide)
        have g4_S13 := Fr_ga hF16 4 (by decide)
        clear hF16
        intro z14 ez14
        exact hk58 _ (by grind (ematch := 12) (splits := 16) [XI, PI, PJ, BU, LV, LG, OH, HH, HL, ix_int, q_zz, q_za, q_zga, q_fza, q_fx, q_fga, q_gza, q_gfa, q_gx, ti_link, in1000]) (by grind (ematch := 12) (splits := 16) [XI, PI, PJ, BU, LV, LG, OH, HH, HL, ix_int, q_zz, q_za, q_zga, q_fza, q_fx, q_fga, q_gza, q_gfa, q_gx, ti_link, in1000])
  refine ⟨fun c18 => ?_, fun c18 => ?_⟩
  · exact j19 _ (by grind (ematch := 12) (splits := 16) [XI, PI, PJ, BU, LV, LG, OH, HH, HL, ix_int, q_zz, q_za, q_zga, q_fza, q_fx, q_fga, q_gza, q_gfa, q_gx, ti_link, in1000])
  · refine fm_isName _ _ _ (fun S2 r2 hF19 p20 => ?_) (sg_isName (nx := nx) (n := n) (so := so) (pl := pl) (wo := wo) (ws := ws) (by grind (ematch := 12) (splits := 16) [XI, PI, PJ, BU, LV, LG, OH, HH, HL, ix_int, q_zz, q_za, q_zga, q_fza, q_fx, q_fga, q_gza, q_gfa, q_gx, ti_link, in1000]))
    have fa_S2 := Fr_faa hF19
    have ga_S2 := Fr_gaa hF19
    have z3_S2 := hF19.1 3 (by decide)
    have z4_S2 := hF19.1 4 (by decide)
    have z6_S2 := hF19.1 6 (by decide)
    have z7_S2 := hF19.1 7 (by decide)
    have z8_S2 := hF19.1 8 (by decide)
    have z11_S2 := hF19.1 11 (by decide)
    have z12_S2 := hF19.1 12 (by decide)
    have z18_S2 := hF19.1 18 (by decide)
    have z19_S2 := hF19.1 19 (by decide)
    have f1_S2 := Fr_fa hF19 1 (by decide)
    have f2_S2 := Fr_fa hF19 2 (by decide)
    have f8_S2 := Fr_fa hF19 8 (by decide)
    have f46_S2 := Fr_fa hF19 46 (by decide)
    have f48_S2 := Fr_fa hF19 48 (by decide)
    have g3_S2 := Fr_ga hF19 3 (by decide)
    have g4_S2 := Fr_ga hF19 4 (by decide)
    clear hF19
    refine ⟨fun c21 => ?_, fun c21 => ?_⟩
    · exact j19 _ (by grind (ematch := 12) (splits := 16) [XI, PI, PJ, BU, LV, LG, OH, HH, HL, ix_int, q_zz, q_za, q_zga, q_fza, q_fx, q_fga, q_gza, q_gfa, q_gx, ti_link, in1000])
    · refine fm_wrong _ _ _ _ (fun S4 hF22 p23 => ?_) (sg_wrong (nx := nx) (n := n) (so := so) (pl := pl) (wo := wo) (ws := ws) _ (by grind (ematch := 12) (splits := 16) [XI, PI, PJ, BU, LV, LG, OH, HH, HL, ix_int, q_zz, q_za, q_zga, q_fza, q_fx, q_fga, q_gza, q_gfa, q_gx, ti_link, in1000]) (by grind (ematch := 12) (splits := 16) [XI, PI, PJ, BU, LV, LG, OH, HH, HL, ix_int, q_zz, q_za, q_zga, q_fza, q_fx, q_fga, q_gza, q_gfa, q_gx, ti_link, in1000]))
      have fa_S4 := Fr_faa hF22
      have ga_S4 := Fr_gaa hF22
      have z3_S4 := hF22.1 3 (by decide)
      have z6_S4 := hF22.1 6 (by decide)
      have z7_S4 := hF22.1 7 (by decide)
      have z8_S4 := hF22.1 8 (by decide)
      have z11_S4 := hF22.1 11 (by decide)
      have z12_S4 := hF22.1 12 (by decide)
      have z18_S4 := hF22.1 18 (by decide)
      have z19_S4 := hF22.1 19 (by decide)
      have f1_S4 := Fr_fa hF22 1 (by decide)
      have f2_S4 := Fr_fa hF22 2 (by decide)
      have f8_S4 := Fr_fa hF22 8 (by decide)
      have f46_S4 := Fr_fa hF22 46 (by decide)
      have f48_S4 := Fr_fa hF22 48 (by decide)
      have g3_S4 := Fr_ga hF22 3 (by decide)
      have g4_S4 := Fr_ga hF22 4 (by decide)
      clear hF22
      exact j19 _ (by grind (ematch := 12) (splits := 16) [XI, PI, PJ, BU, LV, LG, OH, HH, HL, ix_int, q_zz, q_za, q_zga, q_fza, q_fx, q_fga, q_gza, q_gfa, q_gx, ti_link, in1000])
set_option maxHeartbeats 4000000 in
theorem sg_waitTree {r_waitTree : mS → (mS → Prop) → Prop} (hf_waitTree : FmV [3, 4, 7, 8, 11, 18, 19] [8, 12, 13, 14, 15, 16, 17, 18, 19, 20, 21, 46, 47, 48] [9] (r_waitTree)) (hr_waitTree : ∀ (d : Nat) (G GA X Y : Int) (S : mS), D ≤ d → LV d G GA X Y → XI nx n so pl wo ws S0 d G GA X Y S → r_waitTree S (fun S1 => XI nx n so pl wo ws S0 d G GA X Y S1 ∧ ((S1.1 4) = 0 → (S.1 4) = 0 ∧ (S.1 3).toInt < (S1.1 3).toInt))) {nx n : Nat} {so pl : Nat → Int32} {wo ws : Nat → Int64} {S0 : mS} {D d : Nat} {G GA X Y : Int} {S : mS} (hL : LV d G GA X Y) (h : XI nx n so pl wo ws S0 d G GA X Y S) (hD : D ≤ d + 1) : wp_waitTree r_waitTree S (fun S1 => XI nx n so pl wo ws S0 d G GA X Y S1 ∧ ((S1.1 4) = 0 → (S.1 4) = 0 ∧ (S.1 3).toInt < (S1.1 3).toInt)) := by
  unfold wp_waitTree
  have j180 : ∀ (x2 : Int32) (y1 : Int32) (y2 : Int32) (Sx : mS), (XI nx n so pl wo ws S0 (d + 1) (G - 3) GA (1000 - 40 * (d + 1)) (400 - 20 * (d + 1)) Sx ∧ ((Sx.1 4) = 0 → (S.1 4) = 0 ∧ (S.1 3).toInt < (Sx.1 3).toInt) ∧ d + 1 ≤ 10) → wp_waitTree_180 r_waitTree (fun S1 => XI nx n so pl wo ws S0 d G GA X Y S1 ∧ ((S1.1 4) = 0 → (S.1 4) = 0 ∧ (S.1 3).toInt < (S1.1 3).toInt)) x2 y1 y2 Sx := by
    intro x2 y1 y2 Sx hJ180
    unfold wp_waitTree_180
    refine fm_emit _ _ _ _ _ _ (fun S31 r31 hF1 p2 => ?_) (sg_emit _ _ _ (by grind (ematch := 12) (splits := 16) [XI, PI, PJ, BU, LV, LG, OH, HH, HL, ix_int, q_zz, q_za, q_zga, q_fza, q_fx, q_fga, q_gza, q_gfa, q_gx, ti_link]))
    have ga_S31 := Fr_gaa hF1
    have z3_S31 := hF1.1 3 (by decide)
    have z4_S31 := hF1.1 4 (by decide)
    have z6_S31 := hF1.1 6 (by decide)
    have z8_S31 := hF1.1 8 (by decide)
    have z11_S31 := hF1.1 11 (by decide)
    have z12_S31 := hF1.1 12 (by decide)
    have z18_S31 := hF1.1 18 (by decide)
    have z19_S31 := hF1.1 19 (by decide)
    have f1_S31 := Fr_fa hF1 1 (by decide)
    have f2_S31 := Fr_fa hF1 2 (by decide)
    have f8_S31 := Fr_fa hF1 8 (by decide)
    have f46_S31 := Fr_fa hF1 46 (by decide)
    have f48_S31 := Fr_fa hF1 48 (by decide)
    have g3_S31 := Fr_ga hF1 3 (by decide)
    have g4_S31 := Fr_ga hF1 4 (by decide)
    clear hF1
    refine fm_takeSign _ _ _ _ (fun S32 hF3 p4 => ?_) (sg_takeSign (nx := nx) (n := n) (so := so) (pl := pl) (wo := wo) (ws := ws) _ (by grind (ematch := 12) (splits := 16) [XI, PI, PJ, BU, LV, LG, OH, HH, HL, ix_int, q_zz, q_za, q_zga, q_fza, q_fx, q_fga, q_gza, q_gfa, q_gx, ti_link]))
    have fa_S32 := Fr_faa hF3
    have ga_S32 := Fr_gaa hF3
    have z6_S32 := hF3.1 6 (by decide)
    have z7_S32 := hF3.1 7 (by decide)
    have z8_S32 := hF3.1 8 (by decide)
    have z11_S32 := hF3.1 11 (by decide)
    have z12_S32 := hF3.1 12 (by decide)
    have z18_S32 := hF3.1 18 (by decide)
    have z19_S32 := hF3.1 19 (by decide)
    have f1_S32 := Fr_fa hF3 1 (by decide)
    have f2_S32 := Fr_fa hF3 2 (by decide)
    have f8_S32 := Fr_fa hF3 8 (by decide)
    have f46_S32 := Fr_fa hF3 46 (by decide)
    have f48_S32 := Fr_fa hF3 48 (by decide)
    have g3_S32 := Fr_ga hF3 3 (by decide)
    have g4_S32 := Fr_ga hF3 4 (by decide)
    clear hF3
    refine hf_waitTree _ _ _ (fun S33 hF5 p6 => ?_) (hr_waitTree (d + 1) (G - 6) GA (1000 - 40 * (d + 1)) (400 - 20 * (d + 1)) _ (by grind (ematch := 12) (splits := 16) [XI, PI, PJ, BU, LV, LG, OH, HH, HL, ix_int, q_zz, q_za, q_zga, q_fza, q_fx, q_fga, q_gza, q_gfa, q_gx, ti_link]) (by grind (ematch := 12) (splits := 16) [XI, PI, PJ, BU, LV, LG, OH, HH, HL, ix_int, q_zz, q_za, q_zga, q_fza, q_fx, q_fga, q_gza, q_gfa, q_gx, ti_link]) (by grind (ematch := 12) (splits := 16) [XI, PI, PJ, BU, LV, LG, OH, HH, HL, ix_int, q_zz, q_za, q_zga, q_fza, q_fx, q_fga, q_gza, q_gfa, q_gx, ti_link]))
    have z6_S33 := hF5.1 6 (by decide)
    have z12_S33 := hF5.1 12 (by decide)
    have f1_S33 := Fr_fa hF5 1 (by decide)
    have f2_S33 := Fr_fa hF5 2 (by decide)
    have g3_S33 := Fr_ga hF5 3 (by decide)
    have g4_S33 := Fr_ga hF5 4 (by decide)
    clear hF5
    refine it_rule (fun u : Int32 × Int32 × mS => XI nx n so pl wo ws S0 (d + 1) (G - 6) GA (1000 - 40 * (d + 1)) (400 - 20 * (d + 1)) u.2.2 ∧ ((u.2.2.1 4) = 0 → (S.1 4) = 0 ∧ (S.1 3).toInt < (u.2.2.1 3).toInt)) (fun u => (if (u.2.2.1 4) = 0 then (n : Int) - (u.2.2.1 3).toInt + 1 else 0).toNat) ?_ (by grind (ematch := 12) (splits := 16) [XI, PI, PJ, BU, LV, LG, OH, HH, HL, ix_int, q_zz, q_za, q_zga, q_fza, q_fx, q_fga, q_gza, q_gfa, q_gx, ti_link])
    rintro ⟨x2, x3, Sl197⟩ k197 hI197 hk197
    replace hI197 : XI nx n so pl wo ws S0 (d + 1) (G - 6) GA (1000 - 40 * (d + 1)) (400 - 20 * (d + 1)) Sl197 ∧ ((Sl197.1 4) = 0 → (S.1 4) = 0 ∧ (S.1 3).toInt < (Sl197.1 3).toInt) := hI197
    replace hk197 : ∀ v : Int32 × Int32 × mS, XI nx n so pl wo ws S0 (d + 1) (G - 6) GA (1000 - 40 * (d + 1)) (400 - 20 * (d + 1)) v.2.2 ∧ ((v.2.2.1 4) = 0 → (S.1 4) = 0 ∧ (S.1 3).toInt < (v.2.2.1 3).toInt) → (if (v.2.2.1 4) = 0 then (n : Int) - (v.2.2.1 3).toInt + 1 else 0).toNat < (if (Sl197.1 4) = 0 then (n : Int) - (Sl197.1 3).toInt + 1 else 0).toNat → k197 v := hk197
    show wp_waitTree_197 r_waitTree _ k197 x2 x3 Sl197
    unfold wp_waitTree_197
    refine fm_hasSign _ _ _ _ (fun S34 r34 hF7 p8 => ?_) (sg_hasSign (nx := nx) (n := n) (so := so) (pl := pl) (wo := wo) (ws := ws) _ (by grind (ematch := 12) (splits := 16) [XI, PI, PJ, BU, LV, LG, OH, HH, HL, ix_int, q_zz, q_za, q_zga, q_fza, q_fx, q_fga, q_gza, q_gfa, q_gx, ti_link]))
    have fa_S34 := Fr_faa hF7
    have ga_S34 := Fr_gaa hF7
    have z4_S34 := hF7.1 4 (by decide)
    have z6_S34 := hF7.1 6 (by decide)
    have z7_S34 := hF7.1 7 (by decide)
    have z8_S34 := hF7.1 8 (by decide)
    have z11_S34 := hF7.1 11 (by decide)
    have z12_S34 := hF7.1 12 (by decide)
    have z18_S34 := hF7.1 18 (by decide)
    have z19_S34 := hF7.1 19 (by decide)
    have f1_S34 := Fr_fa hF7 1 (by decide)
    have f2_S34 := Fr_fa hF7 2 (by decide)
    have f8_S34 := Fr_fa hF7 8 (by decide)
    have f46_S34 := Fr_fa hF7 46 (by decide)
    have f48_S34 := Fr_fa hF7 48 (by decide)
    have g3_S34 := Fr_ga hF7 3 (by decide)
    have g4_S34 := Fr_ga hF7 4 (by decide)
    clear hF7
    refine ⟨fun c9 => ?_, fun c9 => ?_⟩
    · refine fm_takeSign _ _ _ _ (fun S36 hF10 p11 => ?_) (sg_takeSign (nx := nx) (n := n) (so := so) (pl := pl) (wo := wo) (ws := ws) _ (by grind (ematch := 12) (splits := 16) [XI, PI, PJ, BU, LV, LG, OH, HH, HL, ix_int, q_zz, q_za, q_zga, q_fza, q_fx, q_fga, q_gza, q_gfa, q_gx, ti_link]))
      have fa_S36 := Fr_faa hF10
      have ga_S36 := Fr_gaa hF10
      have z6_S36 := hF10.1 6 (by decide)
      have z7_S36 := hF10.1 7 (by decide)
      have z8_S36 := hF10.1 8 (by decide)
      have z11_S36 := hF10.1 11 (by decide)
      have z12_S36 := hF10.1 12 (by decide)
      have z18_S36 := hF10.1 18 (by decide)
      have z19_S36 := hF10.1 19 (by decide)
      have f1_S36 := Fr_fa hF10 1 (by decide)
      have f2_S36 := Fr_fa hF10 2 (by decide)
      have f8_S36 := Fr_fa hF10 8 (by decide)
      have f46_S36 := Fr_fa hF10 46 (by decide)
      have f48_S36 := Fr_fa hF10 48 (by decide)
      have g3_S36 := Fr_ga hF10 3 (by decide)
      have g4_S36 := Fr_ga hF10 4 (by decide)
      clear hF10
      refine ⟨fun c12 => ?_, fun c12 => ?_⟩
      · unfold wp_waitTree_251
        refine fm_emit _ _ _ _ _ _ (fun S44 r44 hF13 p14 => ?_) (sg_emit _ _ _ (by grind (ematch := 12) (splits := 16) [XI, PI, PJ, BU, LV, LG, OH, HH, HL, ix_int, q_zz, q_za, q_zga, q_fza, q_fx, q_fga, q_gza, q_gfa, q_gx, ti_link]))
        have ga_S44 := Fr_gaa hF13
        have z3_S44 := hF13.1 3 (by decide)
        have z4_S44 := hF13.1 4 (by decide)
        have z6_S44 := hF13.1 6 (by decide)
        have z8_S44 := hF13.1 8 (by decide)
        have z11_S44 := hF13.1 11 (by decide)
        have z12_S44 := hF13.1 12 (by decide)
        have z18_S44 := hF13.1 18 (by decide)
        have z19_S44 := hF13.1 19 (by decide)
        have f1_S44 := Fr_fa hF13 1 (by decide)
        have f2_S44 := Fr_fa hF13 2 (by decide)
        have f8_S44 := Fr_fa hF13 8 (by decide)
        have f46_S44 := Fr_fa hF13 46 (by decide)
        have f48_S44 := Fr_fa hF13 48 (by decide)
        have g3_S44 := Fr_ga hF13 3 (by decide)
        have g4_S44 := Fr_ga hF13 4 (by decide)
        clear hF13
        unfold wp_waitTree_256
        intro z28 ez28
        intro S29 eS29
        grind (ematch := 12) (splits := 16) [XI, PI, PJ, BU, LV, LG, OH, HH, HL, ix_int, q_zz, q_za, q_zga, q_fza, q_fx, q_fga, q_gza, q_gfa, q_gx, ti_link]
      · unfold wp_waitTree_251
        refine fm_emit _ _ _ _ _ _ (fun S44 r44 hF15 p16 => ?_) (sg_emit _ _ _ (by grind (ematch := 12) (splits := 16) [XI, PI, PJ, BU, LV, LG, OH, HH, HL, ix_int, q_zz, q_za, q_zga, q_fza, q_fx, q_fga, q_gza, q_gfa, q_gx, ti_link]))
        have ga_S44 := Fr_gaa hF15
        have z3_S44 := hF15.1 3 (by decide)
        have z4_S44 := hF15.1 4 (by decide)
        have z6_S44 := hF15.1 6 (by decide)
        have z8_S44 := hF15.1 8 (by decide)
        have z11_S44 := hF15.1 11 (by decide)
        have z12_S44 := hF15.1 12 (by decide)
        have z18_S44 := hF15.1 18 (by decide)
        have z19_S44 := hF15.1 19 (by decide)
        have f1_S44 := Fr_fa hF15 1 (by decide)
        have f2_S44 := Fr_fa hF15 2 (by decide)
        have f8_S44 := Fr_fa hF15 8 (by decide)
        have f46_S44 := Fr_fa hF15 46 (by decide)
        have f48_S44 := Fr_fa hF15 48 (by decide)
        have g3_S44 := Fr_ga hF15 3 (by decide)
        have g4_S44 := Fr_ga hF15 4 (by decide)
        clear hF15
        unfold wp_waitTree_256
        intro z28 ez28
        intro S29 eS29
        grind (ematch := 12) (splits := 16) [XI, PI, PJ, BU, LV, LG, OH, HH, HL, ix_int, q_zz, q_za, q_zga, q_fza, q_fx, q_fga, q_gza, q_gfa, q_gx, ti_link]
    · refine ⟨fun c17 => ?_, fun c17 => ?_⟩
      · exact j223 _ _ _ (by grind (ematch := 12) (splits := 16) [XI, PI, PJ, BU, LV, LG, OH, HH, HL, ix_int, q_zz, q_za, q_zga, q_fza, q_fx, q_fga, q_gza, q_gfa, q_gx, ti_link])
      · refine fm_isWait _ _ _ (fun S39 r39 hF18 p19 => ?_) (sg_isWait (nx := nx) (n := n) (so := so) (pl := pl) (wo := wo) (ws := ws) (by grind (ematch := 12) (splits := 16) [XI, PI, PJ, BU, LV, LG, OH, HH, HL, ix_int, q_zz, q_za, q_zga, q_fza, q_fx, q_fga, q_gza, q_gfa, q_gx, ti_link]))
        have fa_S39 := Fr_faa hF18
        have ga_S39 := Fr_gaa hF18
        have z3_S39 := hF18.1 3 (by decide)
        have z4_S39 := hF18.1 4 (by decide)
        have z6_S39 := hF18.1 6 (by decide)
        have z7_S39 := hF18.1 7 (by decide)
        have z8_S39 := hF18.1 8 (by decide)
        have z11_S39 := hF18.1 11 (by decide)
        have z12_S39 := hF18.1 12 (by decide)
        have z18_S39 := hF18.1 18 (by decide)
        have z19_S39 := hF18.1 19 (by decide)
        have f1_S39 := Fr_fa hF18 1 (by decide)
        have f2_S39 := Fr_fa hF18 2 (by decide)
        have f8_S39 := Fr_fa hF18 8 (by decide)
        have f46_S39 := Fr_fa hF18 46 (by decide)
        have f48_S39 := Fr_fa hF18 48 (by decide)
        have g3_S39 := Fr_ga hF18 3 (by decide)
        have g4_S39 := Fr_ga hF18 4 (by decide)
        clear hF18
        refine ⟨fun c20 => ?_, fun c20 => ?_⟩
        · exact j223 _ _ _ (by grind (ematch := 12) (splits := 16) [XI, PI, PJ, BU, LV, LG, OH, HH, HL, ix_int, q_zz, q_za, q_zga, q_fza, q_fx, q_fga, q_gza, q_gfa, q_gx, ti_link])
        · refine fm_wrong _ _ _ _ (fun S41 hF21 p22 => ?_) (sg_wrong (nx := nx) (n := n) (so := so) (pl := pl) (wo := wo) (ws := ws) _ (by grind (ematch := 12) (splits := 16) [XI, PI, PJ, BU, LV, LG, OH, HH, HL, ix_int, q_zz, q_za, q_zga, q_fza, q_fx, q_fga, q_gza, q_gfa, q_gx, ti_link]) (by grind (ematch := 12) (splits := 16) [XI, PI, PJ, BU, LV, LG, OH, HH, HL, ix_int, q_zz, q_za, q_zga, q_fza, q_fx, q_fga, q_gza, q_gfa, q_gx, ti_link]))
          have fa_S41 := Fr_faa hF21
          have ga_S41 := Fr_gaa hF21
          have z3_S41 := hF21.1 3 (by decide)
          have z6_S41 := hF21.1 6 (by decide)
          have z7_S41 := hF21.1 7 (by decide)
          have z8_S41 := hF21.1 8 (by decide)
          have z11_S41 := hF21.1 11 (by decide)
          have z12_S41 := hF21.1 12 (by decide)
          have z18_S41 := hF21.1 18 (by decide)
          have z19_S41 := hF21.1 19 (by decide)
          have f1_S41 := Fr_fa hF21 1 (by decide)
          have f2_S41 := Fr_fa hF21 2 (by decide)
          have f8_S41 := Fr_fa hF21 8 (by decide)
          have f46_S41 := Fr_fa hF21 46 (by decide)
          have f48_S41 := Fr_fa hF21 48 (by decide)
          have g3_S41 := Fr_ga hF21 3 (by decide)
          have g4_S41 := Fr_ga hF21 4 (by decide)
          clear hF21
          exact j223 _ _ _ (by grind (ematch := 12) (splits := 16) [XI, PI, PJ, BU, LV, LG, OH, HH, HL, ix_int, q_zz, q_za, q_zga, q_fza, q_fx, q_fga, q_gza, q_gfa, q_gx, ti_link])
  have j168 : ∀ (x2 : Int32) (Sx : mS), (XI nx n so pl wo ws S0 (d + 1) (G - 3) GA (1000 - 40 * (d + 1)) (400 - 20 * (d + 1)) Sx ∧ ((Sx.1 4) = 0 → (S.1 4) = 0 ∧ (S.1 3).toInt < (Sx.1 3).toInt) ∧ d + 1 ≤ 10) → wp_waitTree_168 r_waitTree (fun S1 => XI nx n so pl wo ws S0 d G GA X Y S1 ∧ ((S1.1 4) = 0 → (S.1 4) = 0 ∧ (S.1 3).toInt < (S1.1 3).toInt)) x2 Sx := by
    intro x2 Sx hJ168
    unfold wp_waitTree_168
    refine ⟨fun c23 => ?_, fun c23 => ?_⟩
    · exact j180 _ _ _ _ (by grind (ematch := 12) (splits := 16) [XI, PI, PJ, BU, LV, LG, OH, HH, HL, ix_int, q_zz, q_za, q_zga, q_fza, q_fx, q_fga, q_gza, q_gfa, q_gx, ti_link])
    · exact j180 _ _ _ _ (by grind (ematch := 12) (splits := 16) [XI, PI, PJ, BU, LV, LG, OH, HH, HL, ix_int, q_zz, q_za, q_zga, q_fza, q_fx, q_fga, q_gza, q_gfa, q_gx, ti_link])
  refine fm_isWait _ _ _ (fun S1 r1 hF24 p25 => ?_) (sg_isWait (nx := nx) (n := n) (so := so) (pl := pl) (wo := wo) (ws := ws) (by grind (ematch := 12) (splits := 16) [XI, PI, PJ, BU, LV, LG, OH, HH, HL, ix_int, q_zz, q_za, q_zga, q_fza, q_fx, q_fga, q_gza, q_gfa, q_gx, ti_link]))
  have fa_S1 := Fr_faa hF24
  have ga_S1 := Fr_gaa hF24
  have z3_S1 := hF24.1 3 (by decide)
  have z4_S1 := hF24.1 4 (by decide)
  have z6_S1 := hF24.1 6 (by decide)
  have z7_S1 := hF24.1 7 (by decide)
  have z8_S1 := hF24.1 8 (by decide)
  have z11_S1 := hF24.1 11 (by decide)
  have z12_S1 := hF24.1 12 (by decide)
  have z18_S1 := hF24.1 18 (by decide)
  have z19_S1 := hF24.1 19 (by decide)
  have f1_S1 := Fr_fa hF24 1 (by decide)
  have f2_S1 := Fr_fa hF24 2 (by decide)
  have f8_S1 := Fr_fa hF24 8 (by decide)
  have f46_S1 := Fr_fa hF24 46 (by decide)
  have f48_S1 := Fr_fa hF24 48 (by decide)
  have g3_S1 := Fr_ga hF24 3 (by decide)
  have g4_S1 := Fr_ga hF24 4 (by decide)
  clear hF24
  refine fm_within _ _ _ _ (fun S2 hF26 p27 => ?_) (sg_within (nx := nx) (n := n) (so := so) (pl := pl) (wo := wo) (ws := ws) _ (by grind (ematch := 12) (splits := 16) [XI, PI, PJ, BU, LV, LG, OH, HH, HL, ix_int, q_zz, q_za, q_zga, q_fza, q_fx, q_fga, q_gza, q_gfa, q_gx, ti_link]) (by grind (ematch := 12) (splits := 16) [XI, PI, PJ, BU, LV, LG, OH, HH, HL, ix_int, q_zz, q_za, q_zga, q_fza, q_fx, q_fga, q_gza, q_gfa, q_gx, ti_link]))
  have fa_S2 := Fr_faa hF26
  have ga_S2 := Fr_gaa hF26
  have z3_S2 := hF26.1 3 (by decide)
  have z6_S2 := hF26.1 6 (by decide)
  have z7_S2 := hF26.1 7 (by decide)
  have z8_S2 := hF26.1 8 (by decide)
  have z11_S2 := hF26.1 11 (by decide)
  have z12_S2 := hF26.1 12 (by decide)
  have z19_S2 := hF26.1 19 (by decide)
  have f1_S2 := Fr_fa hF26 1 (by decide)
  have f2_S2 := Fr_fa hF26 2 (by decide)
  have f8_S2 := Fr_fa hF26 8 (by decide)
  have f46_S2 := Fr_fa hF26 46 (by decide)
  have f48_S2 := Fr_fa hF26 48 (by decide)
  have g3_S2 := Fr_ga hF26 3 (by decide)
  have g4_S2 := Fr_ga hF26 4 (by decide)
  clear hF26
  refine ⟨fun c28 => ?_, fun c28 => ?_⟩
  · refine fm_emit _ _ _ _ _ _ (fun S4 r4 hF29 p30 => ?_) (sg_emit _ _ _ (by grind (ematch := 12) (splits := 16) [XI, PI, PJ, BU, LV, LG, OH, HH, HL, ix_int, q_zz, q_za, q_zga, q_fza, q_fx, q_fga, q_gza, q_gfa, q_gx, ti_link]))
    have ga_S4 := Fr_gaa hF29
    have z3_S4 := hF29.1 3 (by decide)
    have z4_S4 := hF29.1 4 (by decide)
    have z6_S4 := hF29.1 6 (by decide)
    have z8_S4 := hF29.1 8 (by decide)
    have z11_S4 := hF29.1 11 (by decide)
    have z12_S4 := hF29.1 12 (by decide)
    have z18_S4 := hF29.1 18 (by decide)
    have z19_S4 := hF29.1 19 (by decide)
    have f1_S4 := Fr_fa hF29 1 (by decide)
    have f2_S4 := Fr_fa hF29 2 (by decide)
    have f8_S4 := Fr_fa hF29 8 (by decide)
    have f46_S4 := Fr_fa hF29 46 (by decide)
    have f48_S4 := Fr_fa hF29 48 (by decide)
    have g3_S4 := Fr_ga hF29 3 (by decide)
    have g4_S4 := Fr_ga hF29 4 (by decide)
    clear hF29
    refine fm_hasWord _ _ _ _ (fun S5 r5 hF31 p32 => ?_) (sg_hasWord (nx := nx) (n := n) (so := so) (pl := pl) (wo := wo) (ws := ws) _ (by grind (ematch := 12) (splits := 16) [XI, PI, PJ, BU, LV, LG, OH, HH, HL, ix_int, q_zz, q_za, q_zga, q_fza, q_fx, q_fga, q_gza, q_gfa, q_gx, ti_link]) (by grind (ematch := 12) (splits := 16) [XI, PI, PJ, BU, LV, LG, OH, HH, HL, ix_int, q_zz, q_za, q_zga, q_fza, q_fx, q_fga, q_gza, q_gfa, q_gx, ti_link]))
    have fa_S5 := Fr_faa hF31
    have ga_S5 := Fr_gaa hF31
    have z4_S5 := hF31.1 4 (by decide)
    have z6_S5 := hF31.1 6 (by decide)
    have z7_S5 := hF31.1 7 (by decide)
    have z8_S5 := hF31.1 8 (by decide)
    have z11_S5 := hF31.1 11 (by decide)
    have z12_S5 := hF31.1 12 (by decide)
    have z18_S5 := hF31.1 18 (by decide)
    have z19_S5 := hF31.1 19 (by decide)
    have f1_S5 := Fr_fa hF31 1 (by decide)
    have f2_S5 := Fr_fa hF31 2 (by decide)
    have f8_S5 := Fr_fa hF31 8 (by decide)
    have f46_S5 := Fr_fa hF31 46 (by decide)
    have f48_S5 := Fr_fa hF31 48 (by decide)
    have g3_S5 := Fr_ga hF31 3 (by decide)
    have g4_S5 := Fr_ga hF31 4 (by decide)
    clear hF31
    refine ⟨fun c33 => ?_, fun c33 => ?_⟩
    · refine fm_hasWord _ _ _ _ (fun S7 r7 hF34 p35 => ?_) (sg_hasWord (nx := nx) (n := n) (so := so) (pl := pl) (wo := wo) (ws := ws) _ (by grind (ematch := 12) (splits := 16) [XI, PI, PJ, BU, LV, LG, OH, HH, HL, ix_int, q_zz, q_za, q_zga, q_fza, q_fx, q_fga, q_gza, q_gfa, q_gx, ti_link]) (by grind (ematch := 12) (splits := 16) [XI, PI, PJ, BU, LV, LG, OH, HH, HL, ix_int, q_zz, q_za, q_zga, q_fza, q_fx, q_fga, q_gza, q_gfa, q_gx, ti_link]))
      have fa_S7 := Fr_faa hF34
      have ga_S7 := Fr_gaa hF34
      have z4_S7 := hF34.1 4 (by decide)
      have z6_S7 := hF34.1 6 (by decide)
      have z7_S7 := hF34.1 7 (by decide)
      have z8_S7 := hF34.1 8 (by decide)
      have z11_S7 := hF34.1 11 (by decide)
      have z12_S7 := hF34.1 12 (by decide)
      have z18_S7 := hF34.1 18 (by decide)
      have z19_S7 := hF34.1 19 (by decide)
      have f1_S7 := Fr_fa hF34 1 (by decide)
      have f2_S7 := Fr_fa hF34 2 (by decide)
      have f8_S7 := Fr_fa hF34 8 (by decide)
      have f46_S7 := Fr_fa hF34 46 (by decide)
      have f48_S7 := Fr_fa hF34 48 (by decide)
      have g3_S7 := Fr_ga hF34 3 (by decide)
      have g4_S7 := Fr_ga hF34 4 (by decide)
      clear hF34
      refine ⟨fun c36 => ?_, fun c36 => ?_⟩
      · refine fm_hasWord _ _ _ _ (fun S9 r9 hF37 p38 => ?_) (sg_hasWord (nx := nx) (n := n) (so := so) (pl := pl) (wo := wo) (ws := ws) _ (by grind (ematch := 12) (splits := 16) [XI, PI, PJ, BU, LV, LG, OH, HH, HL, ix_int, q_zz, q_za, q_zga, q_fza, q_fx, q_fga, q_gza, q_gfa, q_gx, ti_link]) (by grind (ematch := 12) (splits := 16) [XI, PI, PJ, BU, LV, LG, OH, HH, HL, ix_int, q_zz, q_za, q_zga, q_fza, q_fx, q_fga, q_gza, q_gfa, q_gx, ti_link]))
        have fa_S9 := Fr_faa hF37
        have ga_S9 := Fr_gaa hF37
        have z4_S9 := hF37.1 4 (by decide)
        have z6_S9 := hF37.1 6 (by decide)
        have z7_S9 := hF37.1 7 (by decide)
        have z8_S9 := hF37.1 8 (by decide)
        have z11_S9 := hF37.1 11 (by decide)
        have z12_S9 := hF37.1 12 (by decide)
        have z18_S9 := hF37.1 18 (by decide)
        have z19_S9 := hF37.1 19 (by decide)
        have f1_S9 := Fr_fa hF37 1 (by decide)
        have f2_S9 := Fr_fa hF37 2 (by decide)
        have f8_S9 := Fr_fa hF37 8 (by decide)
        have f46_S9 := Fr_fa hF37 46 (by decide)
        have f48_S9 := Fr_fa hF37 48 (by decide)
        have g3_S9 := Fr_ga hF37 3 (by decide)
        have g4_S9 := Fr_ga hF37 4 (by decide)
        clear hF37
        refine ⟨fun c39 => ?_, fun c39 => ?_⟩
        · refine fm_hasWord _ _ _ _ (fun S11 r11 hF40 p41 => ?_) (sg_hasWord (nx := nx) (n := n) (so := so) (pl := pl) (wo := wo) (ws := ws) _ (by grind (ematch := 12) (splits := 16) [XI, PI, PJ, BU, LV, LG, OH, HH, HL, ix_int, q_zz, q_za, q_zga, q_fza, q_fx, q_fga, q_gza, q_gfa, q_gx, ti_link]) (by grind (ematch := 12) (splits := 16) [XI, PI, PJ, BU, LV, LG, OH, HH, HL, ix_int, q_zz, q_za, q_zga, q_fza, q_fx, q_fga, q_gza, q_gfa, q_gx, ti_link]))
          have fa_S11 := Fr_faa hF40
          have ga_S11 := Fr_gaa hF40
          have z4_S11 := hF40.1 4 (by decide)
          have z6_S11 := hF40.1 6 (by decide)
          have z7_S11 := hF40.1 7 (by decide)
          have z8_S11 := hF40.1 8 (by decide)
          have z11_S11 := hF40.1 11 (by decide)
          have z12_S11 := hF40.1 12 (by decide)
          have z18_S11 := hF40.1 18 (by decide)
          have z19_S11 := hF40.1 19 (by decide)
          have f1_S11 := Fr_fa hF40 1 (by decide)
          have f2_S11 := Fr_fa hF40 2 (by decide)
          have f8_S11 := Fr_fa hF40 8 (by decide)
          have f46_S11 := Fr_fa hF40 46 (by decide)
          have f48_S11 := Fr_fa hF40 48 (by decide)
          have g3_S11 := Fr_ga hF40 3 (by decide)
          have g4_S11 := Fr_ga hF40 4 (by decide)
          clear hF40
          refine ⟨fun c42 => ?_, fun c42 => ?_⟩
          · refine fm_hasWord _ _ _ _ (fun S13 r13 hF43 p44 => ?_) (sg_hasWord (nx := nx) (n := n) (so := so) (pl := pl) (wo := wo) (ws := ws) _ (by grind (ematch := 12) (splits := 16) [XI, PI, PJ, BU, LV, LG, OH, HH, HL, ix_int, q_zz, q_za, q_zga, q_fza, q_fx, q_fga, q_gza, q_gfa, q_gx, ti_link]) (by grind (ematch := 12) (splits := 16) [XI, PI, PJ, BU, LV, LG, OH, HH, HL, ix_int, q_zz, q_za, q_zga, q_fza, q_fx, q_fga, q_gza, q_gfa, q_gx, ti_link]))
            have fa_S13 := Fr_faa hF43
            have ga_S13 := Fr_gaa hF43
            have z4_S13 := hF43.1 4 (by decide)
            have z6_S13 := hF43.1 6 (by decide)
            have z7_S13 := hF43.1 7 (by decide)
            have z8_S13 := hF43.1 8 (by decide)
            have z11_S13 := hF43.1 11 (by decide)
            have z12_S13 := hF43.1 12 (by decide)
            have z18_S13 := hF43.1 18 (by decide)
            have z19_S13 := hF43.1 19 (by decide)
            have f1_S13 := Fr_fa hF43 1 (by decide)
            have f2_S13 := Fr_fa hF43 2 (by decide)
            have f8_S13 := Fr_fa hF43 8 (by decide)
            have f46_S13 := Fr_fa hF43 46 (by decide)
            have f48_S13 := Fr_fa hF43 48 (by decide)
            have g3_S13 := Fr_ga hF43 3 (by decide)
            have g4_S13 := Fr_ga hF43 4 (by decide)
            clear hF43
            refine ⟨fun c45 => ?_, fun c45 => ?_⟩
            · refine fm_hasWord _ _ _ _ (fun S15 r15 hF46 p47 => ?_) (sg_hasWord (nx := nx) (n := n) (so := so) (pl := pl) (wo := wo) (ws := ws) _ (by grind (ematch := 12) (splits := 16) [XI, PI, PJ, BU, LV, LG, OH, HH, HL, ix_int, q_zz, q_za, q_zga, q_fza, q_fx, q_fga, q_gza, q_gfa, q_gx, ti_link]) (by grind (ematch := 12) (splits := 16) [XI, PI, PJ, BU, LV, LG, OH, HH, HL, ix_int, q_zz, q_za, q_zga, q_fza, q_fx, q_fga, q_gza, q_gfa, q_gx, ti_link]))
              have fa_S15 := Fr_faa hF46
              have ga_S15 := Fr_gaa hF46
              have z4_S15 := hF46.1 4 (by decide)
              have z6_S15 := hF46.1 6 (by decide)
              have z7_S15 := hF46.1 7 (by decide)
              have z8_S15 := hF46.1 8 (by decide)
              have z11_S15 := hF46.1 11 (by decide)
              have z12_S15 := hF46.1 12 (by decide)
              have z18_S15 := hF46.1 18 (by decide)
              have z19_S15 := hF46.1 19 (by decide)
              have f1_S15 := Fr_fa hF46 1 (by decide)
              have f2_S15 := Fr_fa hF46 2 (by decide)
              have f8_S15 := Fr_fa hF46 8 (by decide)
              have f46_S15 := Fr_fa hF46 46 (by decide)
              have f48_S15 := Fr_fa hF46 48 (by decide)
              have g3_S15 := Fr_ga hF46 3 (by decide)
              have g4_S15 := Fr_ga hF46 4 (by decide)
              clear hF46
              refine ⟨fun c48 => ?_, fun c48 => ?_⟩
              · exact j168 _ _ (by grind (ematch := 12) (splits := 16) [XI, PI, PJ, BU, LV, LG, OH, HH, HL, ix_int, q_zz, q_za, q_zga, q_fza, q_fx, q_fga, q_gza, q_gfa, q_gx, ti_link])
              · refine fm_takeWord _ _ _ _ (fun S17 hF49 p50 => ?_) (sg_takeWord (nx := nx) (n := n) (so := so) (pl := pl) (wo := wo) (ws := ws) _ (by grind (ematch := 12) (splits := 16) [XI, PI, PJ, BU, LV, LG, OH, HH, HL, ix_int, q_zz, q_za, q_zga, q_fza, q_fx, q_fga, q_gza, q_gfa, q_gx, ti_link]) (by grind (ematch := 12) (splits := 16) [XI, PI, PJ, BU, LV, LG, OH, HH, HL, ix_int, q_zz, q_za, q_zga, q_fza, q_fx, q_fga, q_gza, q_gfa, q_gx, ti_link]))
                have fa_S17 := Fr_faa hF49
                have ga_S17 := Fr_gaa hF49
                have z6_S17 := hF49.1 6 (by decide)
                have z7_S17 := hF49.1 7 (by decide)
                have z8_S17 := hF49.1 8 (by decide)
                have z11_S17 := hF49.1 11 (by decide)
                have z12_S17 := hF49.1 12 (by decide)
                have z18_S17 := hF49.1 18 (by decide)
                have z19_S17 := hF49.1 19 (by decide)
                have f1_S17 := Fr_fa hF49 1 (by decide)
                have f2_S17 := Fr_fa hF49 2 (by decide)
                have f8_S17 := Fr_fa hF49 8 (by decide)
                have f46_S17 := Fr_fa hF49 46 (by decide)
                have f48_S17 := Fr_fa hF49 48 (by decide)
                have g3_S17 := Fr_ga hF49 3 (by decide)
                have g4_S17 := Fr_ga hF49 4 (by decide)
                clear hF49
                exact j168 _ _ (by grind (ematch := 12) (splits := 16) [XI, PI, PJ, BU, LV, LG, OH, HH, HL, ix_int, q_zz, q_za, q_zga, q_fza, q_fx, q_fga, q_gza, q_gfa, q_gx, ti_link])
            · refine fq_expression _ _ _ (fun S18 hF51 p52 => ?_) (sq_expression (nx := nx) (n := n) (so := so) (pl := pl) (wo := wo) (ws := ws) (S0 := S0) (d := (d + 1)) (G := (G - 3)) (GA := GA) (X := (1000 - 40 * (d + 1))) (Y := (400 - 20 * (d + 1))) (by grind (ematch := 12) (splits := 16) [XI, PI, PJ, BU, LV, LG, OH, HH, HL, ix_int, q_zz, q_za, q_zga, q_fza, q_fx, q_fga, q_gza, q_gfa, q_gx, ti_link]) (by grind (ematch := 12) (splits := 16) [XI, PI, PJ, BU, LV, LG, OH, HH, HL, ix_int, q_zz, q_za, q_zga, q_fza, q_fx, q_fga, q_gza, q_gfa, q_gx, ti_link]))
              have z6_S18 := hF51.1 6 (by decide)
              have z11_S18 := hF51.1 11 (by decide)
              have z12_S18 := hF51.1 12 (by decide)
              have f1_S18 := Fr_fa hF51 1 (by decide)
              have f2_S18 := Fr_fa hF51 2 (by decide)
              have f46_S18 := Fr_fa hF51 46 (by decide)
              have f48_S18 := Fr_fa hF51 48 (by decide)
              have g3_S18 := Fr_ga hF51 3 (by decide)
              have g4_S18 := Fr_ga hF51 4 (by decide)
              clear hF51
              refine fm_emit _ _ _ _ _ _ (fun S19 r19 hF53 p54 => ?_) (sg_emit _ _ _ (by grind (ematch := 12) (splits := 16) [XI, PI, PJ, BU, LV, LG, OH, HH, HL, ix_int, q_zz, q_za, q_zga, q_fza, q_fx, q_fga, q_gza, q_gfa, q_gx, ti_link]))
              have ga_S19 := Fr_gaa hF53
              have z3_S19 := hF53.1 3 (by decide)
              have z4_S19 := hF53.1 4 (by decide)
              have z6_S19 := hF53.1 6 (by decide)
              have z8_S19 := hF53.1 8 (by decide)
              have z11_S19 := hF53.1 11 (by decide)
              have z12_S19 := hF53.1 12 (by decide)
              have z18_S19 := hF53.1 18 (by decide)
              have z19_S19 := hF53.1 19 (by decide)
              have f1_S19 := Fr_fa hF53 1 (by decide)
              have f2_S19 := Fr_fa hF53 2 (by decide)
              have f8_S19 := Fr_fa hF53 8 (by decide)
              have f46_S19 := Fr_fa hF53 46 (by decide)
              have f48_S19 := Fr_fa hF53 48 (by decide)
              have g3_S19 := Fr_ga hF53 3 (by decide)
              have g4_S19 := Fr_ga hF53 4 (by decide)
              clear hF53
              refine hf_waitTree _ _ _ (fun S20 hF55 p56 => ?_) (hr_waitTree (d + 1) (G - 2) GA ((1000 - 40 * (d + 1)) + 8) ((400 - 20 * (d + 1)) + 1) _ (by grind (ematch := 12) (splits := 16) [XI, PI, PJ, BU, LV, LG, OH, HH, HL, ix_int, q_zz, q_za, q_zga, q_fza, q_fx, q_fga, q_gza, q_gfa, q_gx, ti_link]) (by grind (ematch := 12) (splits := 16) [XI, PI, PJ, BU, LV, LG, OH, HH, HL, ix_int, q_zz, q_za, q_zga, q_fza, q_fx, q_fga, q_gza, q_gfa, q_gx, ti_link]) (by grind (ematch := 12) (splits := 16) [XI, PI, PJ, BU, LV, LG, OH, HH, HL, ix_int, q_zz, q_za, q_zga, q_fza, q_fx, q_fga, q_gza, q_gfa, q_gx, ti_link]))
              have z6_S20 := hF55.1 6 (by decide)
              have z12_S20 := hF55.1 12 (by decide)
              have f1_S20 := Fr_fa hF55 1 (by decide)
              have f2_S20 := Fr_fa hF55 2 (by decide)
              have g3_S20 := Fr_ga hF55 3 (by decide)
              have g4_S20 := Fr_ga hF55 4 (by decide)
              clear hF55
              refine fm_emit _ _ _ _ _ _ (fun S21 r21 hF57 p58 => ?_) (sg_emit _ _ _ (by grind (ematch := 12) (splits := 16) [XI, PI, PJ, BU, LV, LG, OH, HH, HL, ix_int, q_zz, q_za, q_zga, q_fza, q_fx, q_fga, q_gza, q_gfa, q_gx, ti_link]))
              have ga_S21 := Fr_gaa hF57
              have z3_S21 := hF57.1 3 (by decide)
              have z4_S21 := hF57.1 4 (by decide)
              have z6_S21 := hF57.1 6 (by decide)
              have z8_S21 := hF57.1 8 (by decide)
              have z11_S21 := hF57.1 11 (by decide)
              have z12_S21 := hF57.1 12 (by decide)
              have z18_S21 := hF57.1 18 (by decide)
              have z19_S21 := hF57.1 19 (by decide)
              have f1_S21 := Fr_fa hF57 1 (by decide)
              have f2_S21 := Fr_fa hF57 2 (by decide)
              have f8_S21 := Fr_fa hF57 8 (by decide)
              have f46_S21 := Fr_fa hF57 46 (by decide)
              have f48_S21 := Fr_fa hF57 48 (by decide)
              have g3_S21 := Fr_ga hF57 3 (by decide)
              have g4_S21 := Fr_ga hF57 4 (by decide)
              clear hF57
              unfold wp_waitTree_256
              intro z28 ez28
              intro S29 eS29
              grind (ematch := 12) (splits := 16) [XI, PI, PJ, BU, LV, LG, OH, HH, HL, ix_int, q_zz, q_za, q_zga, q_fza, q_fx, q_fga, q_gza, q_gfa, q_gx, ti_link]
          · refine fm_child _ _ _ (fun S22 hF59 p60 => ?_) (sg_child (nx := nx) (n := n) (so := so) (pl := pl) (wo := wo) (ws := ws) (S0 := S0) (d := (d + 1)) (G := (G - 3)) (GA := GA) (X := (1000 - 40 * (d + 1))) (Y := (400 - 20 * (d + 1))) (by grind (ematch := 12) (splits := 16) [XI, PI, PJ, BU, LV, LG, OH, HH, HL, ix_int, q_zz, q_za, q_zga, q_fza, q_fx, q_fga, q_gza, q_gfa, q_gx, ti_link]) (by grind (ematch := 12) (splits := 16) [XI, PI, PJ, BU, LV, LG, OH, HH, HL, ix_int, q_zz, q_za, q_zga, q_fza, q_fx, q_fga, q_gza, q_gfa, q_gx, ti_link]) (by grind (ematch := 12) (splits := 16) [XI, PI, PJ, BU, LV, LG, OH, HH, HL, ix_int, q_zz, q_za, q_zga, q_fza, q_fx, q_fga, q_gza, q_gfa, q_gx, ti_link]))
            have z6_S22 := hF59.1 6 (by decide)
            have z12_S22 := hF59.1 12 (by decide)
            have f1_S22 := Fr_fa hF59 1 (by decide)
            have f2_S22 := Fr_fa hF59 2 (by decide)
            have g3_S22 := Fr_ga hF59 3 (by decide)
            have g4_S22 := Fr_ga hF59 4 (by decide)
            clear hF59
            unfold wp_waitTree_256
            intro z28 ez28
            intro S29 eS29
            grind (ematch := 12) (splits := 16) [XI, PI, PJ, BU, LV, LG, OH, HH, HL, ix_int, q_zz, q_za, q_zga, q_fza, q_fx, q_fga, q_gza, q_gfa, q_gx, ti_link]
        · refine fm_emit _ _ _ _ _ _ (fun S23 r23 hF61 p62 => ?_) (sg_emit _ _ _ (by grind (ematch := 12) (splits := 16) [XI, PI, PJ, BU, LV, LG, OH, HH, HL, ix_int, q_zz, q_za, q_zga, q_fza, q_fx, q_fga, q_gza, q_gfa, q_gx, ti_link]))
          have ga_S23 := Fr_gaa hF61
          have z3_S23 := hF61.1 3 (by decide)
          have z4_S23 := hF61.1 4 (by decide)
          have z6_S23 := hF61.1 6 (by decide)
          have z8_S23 := hF61.1 8 (by decide)
          have z11_S23 := hF61.1 11 (by decide)
          have z12_S23 := hF61.1 12 (by decide)
          have z18_S23 := hF61.1 18 (by decide)
          have z19_S23 := hF61.1 19 (by decide)
          have f1_S23 := Fr_fa hF61 1 (by decide)
          have f2_S23 := Fr_fa hF61 2 (by decide)
          have f8_S23 := Fr_fa hF61 8 (by decide)
          have f46_S23 := Fr_fa hF61 46 (by decide)
          have f48_S23 := Fr_fa hF61 48 (by decide)
          have g3_S23 := Fr_ga hF61 3 (by decide)
          have g4_S23 := Fr_ga hF61 4 (by decide)
          clear hF61
          unfold wp_waitTree_256
          intro z28 ez28
          intro S29 eS29
          grind (ematch := 12) (splits := 16) [XI, PI, PJ, BU, LV, LG, OH, HH, HL, ix_int, q_zz, q_za, q_zga, q_fza, q_fx, q_fga, q_gza, q_gfa, q_gx, ti_link]
      · refine fq_expression _ _ _ (fun S24 hF63 p64 => ?_) (sq_expression (nx := nx) (n := n) (so := so) (pl := pl) (wo := wo) (ws := ws) (S0 := S0) (d := (d + 1)) (G := (G - 3)) (GA := GA) (X := (1000 - 40 * (d + 1))) (Y := (400 - 20 * (d + 1))) (by grind (ematch := 12) (splits := 16) [XI, PI, PJ, BU, LV, LG, OH, HH, HL, ix_int, q_zz, q_za, q_zga, q_fza, q_fx, q_fga, q_gza, q_gfa, q_gx, ti_link]) (by grind (ematch := 12) (splits := 16) [XI, PI, PJ, BU, LV, LG, OH, HH, HL, ix_int, q_zz, q_za, q_zga, q_fza, q_fx, q_fga, q_gza, q_gfa, q_gx, ti_link]))
        have z6_S24 := hF63.1 6 (by decide)
        have z11_S24 := hF63.1 11 (by decide)
        have z12_S24 := hF63.1 12 (by decide)
        have f1_S24 := Fr_fa hF63 1 (by decide)
        have f2_S24 := Fr_fa hF63 2 (by decide)
        have f46_S24 := Fr_fa hF63 46 (by decide)
        have f48_S24 := Fr_fa hF63 48 (by decide)
        have g3_S24 := Fr_ga hF63 3 (by decide)
        have g4_S24 := Fr_ga hF63 4 (by decide)
        clear hF63
        refine fm_emit _ _ _ _ _ _ (fun S25 r25 hF65 p66 => ?_) (sg_emit _ _ _ (by grind (ematch := 12) (splits := 16) [XI, PI, PJ, BU, LV, LG, OH, HH, HL, ix_int, q_zz, q_za, q_zga, q_fza, q_fx, q_fga, q_gza, q_gfa, q_gx, ti_link]))
        have ga_S25 := Fr_gaa hF65
        have z3_S25 := hF65.1 3 (by decide)
        have z4_S25 := hF65.1 4 (by decide)
        have z6_S25 := hF65.1 6 (by decide)
        have z8_S25 := hF65.1 8 (by decide)
        have z11_S25 := hF65.1 11 (by decide)
        have z12_S25 := hF65.1 12 (by decide)
        have z18_S25 := hF65.1 18 (by decide)
        have z19_S25 := hF65.1 19 (by decide)
        have f1_S25 := Fr_fa hF65 1 (by decide)
        have f2_S25 := Fr_fa hF65 2 (by decide)
        have f8_S25 := Fr_fa hF65 8 (by decide)
        have f46_S25 := Fr_fa hF65 46 (by decide)
        have f48_S25 := Fr_fa hF65 48 (by decide)
        have g3_S25 := Fr_ga hF65 3 (by decide)
        have g4_S25 := Fr_ga hF65 4 (by decide)
        clear hF65
        unfold wp_waitTree_256
        intro z28 ez28
        intro S29 eS29
        grind (ematch := 12) (splits := 16) [XI, PI, PJ, BU, LV, LG, OH, HH, HL, ix_int, q_zz, q_za, q_zga, q_fza, q_fx, q_fga, q_gza, q_gfa, q_gx, ti_link]
    · refine fm_takeNumber _ _ _ _ _ (fun S26 r26 hF67 p68 => ?_) (sg_takeNumber (nx := nx) (n := n) (so := so) (pl := pl) (wo := wo) (ws := ws) _ _ (by grind (ematch := 12) (splits := 16) [XI, PI, PJ, BU, LV, LG, OH, HH, HL, ix_int, q_zz, q_za, q_zga, q_fza, q_fx, q_fga, q_gza, q_gfa, q_gx, ti_link]))
      have fa_S26 := Fr_faa hF67
      have ga_S26 := Fr_gaa hF67
      have z6_S26 := hF67.1 6 (by decide)
      have z7_S26 := hF67.1 7 (by decide)
      have z8_S26 := hF67.1 8 (by decide)
      have z11_S26 := hF67.1 11 (by decide)
      have z12_S26 := hF67.1 12 (by decide)
      have z18_S26 := hF67.1 18 (by decide)
      have z19_S26 := hF67.1 19 (by decide)
      have f1_S26 := Fr_fa hF67 1 (by decide)
      have f2_S26 := Fr_fa hF67 2 (by decide)
      have f8_S26 := Fr_fa hF67 8 (by decide)
      have f46_S26 := Fr_fa hF67 46 (by decide)
      have f48_S26 := Fr_fa hF67 48 (by decide)
      have g3_S26 := Fr_ga hF67 3 (by decide)
      have g4_S26 := Fr_ga hF67 4 (by decide)
      clear hF67
      refine fm_emit _ _ _ _ _ _ (fun S27 r27 hF69 p70 => ?_) (sg_emit _ _ _ (by grind (ematch := 12) (splits := 16) [XI, PI, PJ, BU, LV, LG, OH, HH, HL, ix_int, q_zz, q_za, q_zga, q_fza, q_fx, q_fga, q_gza, q_gfa, q_gx, ti_link]))
      have ga_S27 := Fr_gaa hF69
      have z3_S27 := hF69.1 3 (by decide)
      have z4_S27 := hF69.1 4 (by decide)
      have z6_S27 := hF69.1 6 (by decide)
      have z8_S27 := hF69.1 8 (by decide)
      have z11_S27 := hF69.1 11 (by decide)
      have z12_S27 := hF69.1 12 (by decide)
      have z18_S27 := hF69.1 18 (by decide)
      have z19_S27 := hF69.1 19 (by decide)
      have f1_S27 := Fr_fa hF69 1 (by decide)
      have f2_S27 := Fr_fa hF69 2 (by decide)
      have f8_S27 := Fr_fa hF69 8 (by decide)
      have f46_S27 := Fr_fa hF69 46 (by decide)
      have f48_S27 := Fr_fa hF69 48 (by decide)
      have g3_S27 := Fr_ga hF69 3 (by decide)
      have g4_S27 := Fr_ga hF69 4 (by decide)
      clear hF69
      unfold wp_waitTree_256
      intro z28 ez28
      intro S29 eS29
      grind (ematch := 12) (splits := 16) [XI, PI, PJ, BU, LV, LG, OH, HH, HL, ix_int, q_zz, q_za, q_zga, q_fza, q_fx, q_fga, q_gza, q_gfa, q_gx, ti_link]
  · grind (ematch := 12) (splits := 16) [XI, PI, PJ, BU, LV, LG, OH, HH, HL, ix_int, q_zz, q_za, q_zga, q_fza, q_fx, q_fga, q_gza, q_gfa, q_gx, ti_link]
theorem rp_waitTree {nx n : Nat} {so pl : Nat → Int32} {wo ws : Nat → Int64} {S0 : mS} : ∀ (m D : Nat), 11 ≤ m + D → ∀ (d : Nat) (G GA X Y : Int) (S : mS), D ≤ d → LV d G GA X Y → XI nx n so pl wo ws S0 d G GA X Y S → wr_waitTree m S (fun S1 => XI nx n so pl wo ws S0 d G GA X Y S1 ∧ ((S1.1 4) = 0 → (S.1 4) = 0 ∧ (S.1 3).toInt < (S1.1 3).toInt)) := by
  intro m
  induction m with
  | zero => intro D hD d G GA X Y S h1 h2 h3; exact absurd h2.1 (by omega)
  | succ m ih => intro D hD d G GA X Y S h1 h2 h3; exact sg_waitTree (D := D + 1) (fr_waitTree m) (ih (D + 1) (by omega)) h2 h3 (by omega)
theorem sq_waitTree {nx n : Nat} {so pl : Nat → Int32} {wo ws : Nat → Int64} {S0 : mS} {d : Nat} {G GA X Y : Int} {S : mS} (hL : LV d G GA X Y) (h : XI nx n so pl wo ws S0 d G GA X Y S) : wq_waitTree S (fun S1 => XI nx n so pl wo ws S0 d G GA X Y S1 ∧ ((S1.1 4) = 0 → (S.1 4) = 0 ∧ (S.1 3).toInt < (S1.1 3).toInt)) := rp_waitTree 12 0 (by omega) d G GA X Y S (Nat.zero_le _) hL h
set_option maxHeartbeats 4000000 in
theorem sg_wait {nx n : Nat} {so pl : Nat → Int32} {wo ws : Nat → Int64} {S0 : mS} {d : Nat} {G GA X Y : Int} (a0 : Int32) {S : mS} (hL : LV d G GA X Y) (h : XI nx n so pl wo ws S0 d G GA X Y S) (hw : ((S.1 4) = 0 → 0 ≤ ((S.2.1 10) (ix (S.1 12))).toInt ∧ ((S.2.1 10) (ix (S.1 12))).toInt ≤ 16)) (hr : a0.toInt < 12) : wp_wait a0 S (fun S1 => XI nx n so pl wo ws S0 d G GA (X + 4) (Y + 2) S1 ∧ ((S1.1 4) = 0 → (S.1 4) = 0 ∧ (S.1 3).toInt < (S1.1 3).toInt) ∧ ((S1.1 4) = 0 → 0 ≤ ((S1.2.1 10) (ix (S1.1 12))).toInt ∧ ((S1.2.1 10) (ix (S1.1 12))).toInt ≤ 16)) := by
  unfold wp_wait
  have j19 : ∀ (x1 : Int32) (Sx : mS), (XI nx n so pl wo ws S0 d G GA X Y Sx ∧ ((Sx.1 4) = 0 → 0 ≤ ((Sx.2.1 10) (ix (Sx.1 12))).toInt ∧ ((Sx.2.1 10) (ix (Sx.1 12))).toInt ≤ 16) ∧ (Sx.1 3) = (S.1 3) ∧ x1 = a0 ∧ ((Sx.1 4) = 0 → (S.1 4) = 0 ∧ ((Sx.2.1 10) (ix (Sx.1 12))).toInt < 16)) → wp_wait_19 (fun S1 => XI nx n so pl wo ws S0 d G GA (X + 4) (Y + 2) S1 ∧ ((S1.1 4) = 0 → (S.1 4) = 0 ∧ (S.1 3).toInt < (S1.1 3).toInt) ∧ ((S1.1 4) = 0 → 0 ≤ ((S1.2.1 10) (ix (S1.1 12))).toInt ∧ ((S1.2.1 10) (ix (S1.1 12))).toInt ≤ 16)) x1 Sx := by
    intro x1 Sx hJ19
    unfold wp_wait_19
    intro z4 ez4
    intro S5 eS5
    refine ⟨by grind (ematch := 12) (splits := 16) [XI, PI, PJ, BU, LV, LG, OH, HH, HL, ix_int, q_zz, q_za, q_zga, q_fza, q_fx, q_fga, q_gza, q_gfa, q_gx, ti_link, in24, in24000, in408], ?_⟩
    intro z6 ez6
    refine ⟨by grind (ematch := 12) (splits := 16) [XI, PI, PJ, BU, LV, LG, OH, HH, HL, ix_int, q_zz, q_za, q_zga, q_fza, q_fx, q_fga, q_gza, q_gfa, q_gx, ti_link, in24, in24000, in408], ?_⟩
    intro z7 ez7
    intro z8 ez8
    refine ⟨by grind (ematch := 12) (splits := 16) [XI, PI, PJ, BU, LV, LG, OH, HH, HL, ix_int, q_zz, q_za, q_zga, q_fza, q_fx, q_fga, q_gza, q_gfa, q_gx, ti_link, in24, in24000, in408], ?_⟩
    intro S9 eS9
    refine fm_emit _ _ _ _ _ _ (fun S10 r10 hF1 p2 => ?_) (sg_emit _ _ _ (by grind (ematch := 12) (splits := 16) [XI, PI, PJ, BU, LV, LG, OH, HH, HL, ix_int, q_zz, q_za, q_zga, q_fza, q_fx, q_fga, q_gza, q_gfa, q_gx, ti_link, in24, in24000, in408]))
    have ga_S10 := Fr_gaa hF1
    have z3_S10 := hF1.1 3 (by decide)
    have z4_S10 := hF1.1 4 (by decide)
    have z6_S10 := hF1.1 6 (by decide)
    have z8_S10 := hF1.1 8 (by decide)
    have z11_S10 := hF1.1 11 (by decide)
    have z12_S10 := hF1.1 12 (by decide)
    have z18_S10 := hF1.1 18 (by decide)
    have z19_S10 := hF1.1 19 (by decide)
    have f1_S10 := Fr_fa hF1 1 (by decide)
    have f2_S10 := Fr_fa hF1 2 (by decide)
    have f8_S10 := Fr_fa hF1 8 (by decide)
    have f46_S10 := Fr_fa hF1 46 (by decide)
    have f48_S10 := Fr_fa hF1 48 (by decide)
    have f10_S10 := Fr_fa hF1 10 (by decide)
    have g3_S10 := Fr_ga hF1 3 (by decide)
    have g4_S10 := Fr_ga hF1 4 (by decide)
    clear hF1
    refine fq_waitTree _ _ _ (fun S11 hF3 p4 => ?_) (sq_waitTree (nx := nx) (n := n) (so := so) (pl := pl) (wo := wo) (ws := ws) (S0 := S0) (d := d) (G := (G - 3)) (GA := GA) (X := (X + 2)) (Y := Y) (by grind (ematch := 12) (splits := 16) [XI, PI, PJ, BU, LV, LG, OH, HH, HL, ix_int, q_zz, q_za, q_zga, q_fza, q_fx, q_fga, q_gza, q_gfa, q_gx, ti_link, in24, in24000, in408]) (by grind (ematch := 12) (splits := 16) [XI, PI, PJ, BU, LV, LG, OH, HH, HL, ix_int, q_zz, q_za, q_zga, q_fza, q_fx, q_fga, q_gza, q_gfa, q_gx, ti_link, in24, in24000, in408]))
    have z6_S11 := hF3.1 6 (by decide)
    have z12_S11 := hF3.1 12 (by decide)
    have f1_S11 := Fr_fa hF3 1 (by decide)
    have f2_S11 := Fr_fa hF3 2 (by decide)
    have f10_S11 := Fr_fa hF3 10 (by decide)
    have g3_S11 := Fr_ga hF3 3 (by decide)
    have g4_S11 := Fr_ga hF3 4 (by decide)
    clear hF3
    refine fm_emit _ _ _ _ _ _ (fun S12 r12 hF5 p6 => ?_) (sg_emit _ _ _ (by grind (ematch := 12) (splits := 16) [XI, PI, PJ, BU, LV, LG, OH, HH, HL, ix_int, q_zz, q_za, q_zga, q_fza, q_fx, q_fga, q_gza, q_gfa, q_gx, ti_link, in24, in24000, in408]))
    have ga_S12 := Fr_gaa hF5
    have z3_S12 := hF5.1 3 (by decide)
    have z4_S12 := hF5.1 4 (by decide)
    have z6_S12 := hF5.1 6 (by decide)
    have z8_S12 := hF5.1 8 (by decide)
    have z11_S12 := hF5.1 11 (by decide)
    have z12_S12 := hF5.1 12 (by decide)
    have z18_S12 := hF5.1 18 (by decide)
    have z19_S12 := hF5.1 19 (by decide)
    have f1_S12 := Fr_fa hF5 1 (by decide)
    have f2_S12 := Fr_fa hF5 2 (by decide)
    have f8_S12 := Fr_fa hF5 8 (by decide)
    have f46_S12 := Fr_fa hF5 46 (by decide)
    have f48_S12 := Fr_fa hF5 48 (by decide)
    have f10_S12 := Fr_fa hF5 10 (by decide)
    have g3_S12 := Fr_ga hF5 3 (by decide)
    have g4_S12 := Fr_ga hF5 4 (by decide)
    clear hF5
    refine ⟨by grind (ematch := 12) (splits := 16) [XI, PI, PJ, BU, LV, LG, OH, HH, HL, ix_int, q_zz, q_za, q_zga, q_fza, q_fx, q_fga, q_gza, q_gfa, q_gx, ti_link, in24, in24000, in408], ?_⟩
    intro S13 eS13
    refine ⟨by grind (ematch := 12) (splits := 16) [XI, PI, PJ, BU, LV, LG, OH, HH, HL, ix_int, q_zz, q_za, q_zga, q_fza, q_fx, q_fga, q_gza, q_gfa, q_gx, ti_link, in24, in24000, in408], ?_⟩
    intro S14 eS14
    refine fm_then _ _ _ _ _ (fun S15 r15 hF7 p8 => ?_) (sg_then _ _ (by grind (ematch := 12) (splits := 16) [XI, PI, PJ, BU, LV, LG, OH, HH, HL, ix_int, q_zz, q_za, q_zga, q_fza, q_fx, q_fga, q_gza, q_gfa, q_gx, ti_link, in24, in24000, in408]))
    have ga_S15 := Fr_gaa hF7
    have z3_S15 := hF7.1 3 (by decide)
    have z4_S15 := hF7.1 4 (by decide)
    have z6_S15 := hF7.1 6 (by decide)
    have z7_S15 := hF7.1 7 (by decide)
    have z11_S15 := hF7.1 11 (by decide)
    have z12_S15 := hF7.1 12 (by decide)
    have z18_S15 := hF7.1 18 (by decide)
    have f1_S15 := Fr_fa hF7 1 (by decide)
    have f2_S15 := Fr_fa hF7 2 (by decide)
    have f8_S15 := Fr_fa hF7 8 (by decide)
    have f46_S15 := Fr_fa hF7 46 (by decide)
    have f48_S15 := Fr_fa hF7 48 (by decide)
    have f10_S15 := Fr_fa hF7 10 (by decide)
    have g3_S15 := Fr_ga hF7 3 (by decide)
    have g4_S15 := Fr_ga hF7 4 (by decide)
    clear hF7
    refine ⟨fun c9 => ?_, fun c9 => ?_⟩
    · unfold wp_wait_124
      refine ⟨fun c10 => ?_, fun c10 => ?_⟩
      · grind (ematch := 12) (splits := 16) [XI, PI, PJ, BU, LV, LG, OH, HH, HL, ix_int, q_zz, q_za, q_zga, q_fza, q_fx, q_fga, q_gza, q_gfa, q_gx, ti_link, in24, in24000, in408]
      · refine fm_then _ _ _ _ _ (fun S21 r21 hF11 p12 => ?_) (sg_then _ _ (by grind (ematch := 12) (splits := 16) [XI, PI, PJ, BU, LV, LG, OH, HH, HL, ix_int, q_zz, q_za, q_zga, q_fza, q_fx, q_fga, q_gza, q_gfa, q_gx, ti_link, in24, in24000, in408]))
        have ga_S21 := Fr_gaa hF11
        have z3_S21 := hF11.1 3 (by decide)
        have z4_S21 := hF11.1 4 (by decide)
        have z6_S21 := hF11.1 6 (by decide)
        have z7_S21 := hF11.1 7 (by decide)
        have z11_S21 := hF11.1 11 (by decide)
        have z12_S21 := hF11.1 12 (by decide)
        have z18_S21 := hF11.1 18 (by decide)
        have f1_S21 := Fr_fa hF11 1 (by decide)
        have f2_S21 := Fr_fa hF11 2 (by decide)
        have f8_S21 := Fr_fa hF11 8 (by decide)
        have f46_S21 := Fr_fa hF11 46 (by decide)
        have f48_S21 := Fr_fa hF11 48 (by decide)
        have f10_S21 := Fr_fa hF11 10 (by decide)
        have g3_S21 := Fr_ga hF11 3 (by decide)
        have g4_S21 := Fr_ga hF11 4 (by decide)
        clear hF11
        grind (ematch := 12) (splits := 16) [XI, PI, PJ, BU, LV, LG, OH, HH, HL, ix_int, q_zz, q_za, q_zga, q_fza, q_fx, q_fga, q_gza, q_gfa, q_gx, ti_link, in24, in24000, in408]
    · intro z17 ez17
      intro z18 ez18
      refine ⟨by grind (ematch := 12) (splits := 16) [XI, PI, PJ, BU, LV, LG, OH, HH, HL, ix_int, q_zz, q_za, q_zga, q_fza, q_fx, q_fga, q_gza, q_gfa, q_gx, ti_link, in24, in24000, in408], ?_⟩
      intro S19 eS19
      unfold wp_wait_124
      refine ⟨fun c13 => ?_, fun c13 => ?_⟩
      · grind (ematch := 12) (splits := 16) [XI, PI, PJ, BU, LV, LG, OH, HH, HL, ix_int, q_zz, q_za, q_zga, q_fza, q_fx, q_fga, q_gza, q_gfa, q_gx, ti_link, in24, in24000, in408]
      · refine fm_then _ _ _ _ _ (fun S21 r21 hF14 p15 => ?_) (sg_then _ _ (by grind (ematch := 12) (splits := 16) [XI, PI, PJ, BU, LV, LG, OH, HH, HL, ix_int, q_zz, q_za, q_zga, q_fza, q_fx, q_fga, q_gza, q_gfa, q_gx, ti_link, in24, in24000, in408]))
        have ga_S21 := Fr_gaa hF14
        have z3_S21 := hF14.1 3 (by decide)
        have z4_S21 := hF14.1 4 (by decide)
        have z6_S21 := hF14.1 6 (by decide)
        have z7_S21 := hF14.1 7 (by decide)
        have z11_S21 := hF14.1 11 (by decide)
        have z12_S21 := hF14.1 12 (by decide)
        have z18_S21 := hF14.1 18 (by decide)
        have f1_S21 := Fr_fa hF14 1 (by decide)
        have f2_S21 := Fr_fa hF14 2 (by decide)
        have f8_S21 := Fr_fa hF14 8 (by decide)
        have f46_S21 := Fr_fa hF14 46 (by decide)
        have f48_S21 := Fr_fa hF14 48 (by decide)
        have f10_S21 := Fr_fa hF14 10 (by decide)
        have g3_S21 := Fr_ga hF14 3 (by decide)
        have g4_S21 := Fr_ga hF14 4 (by decide)
        clear hF14
        grind (ematch := 12) (splits := 16) [XI, PI, PJ, BU, LV, LG, OH, HH, HL, ix_int, q_zz, q_za, q_zga, q_fza, q_fx, q_fga, q_gza, q_gfa, q_gx, ti_link, in24, in24000, in408]
  refine ⟨by grind (ematch := 12) (splits := 16) [XI, PI, PJ, BU, LV, LG, OH, HH, HL, ix_int, q_zz, q_za, q_zga, q_fza, q_fx, q_fga, q_gza, q_gfa, q_gx, ti_link, in24, in24000, in408], ?_⟩
  intro z1 ez1
  refine ⟨fun c16 => ?_, fun c16 => ?_⟩
  · exact j19 _ _ (by grind (ematch := 12) (splits := 16) [XI, PI, PJ, BU, LV, LG, OH, HH, HL, ix_int, q_zz, q_za, q_zga, q_fza, q_fx, q_fga, q_gza, q_gfa, q_gx, ti_link, in24, in24000, in408])
  · refine fm_wrong _ _ _ _ (fun S3 hF17 p18 => ?_) (sg_wrong (nx := nx) (n := n) (so := so) (pl := pl) (wo := wo) (ws := ws) _ (by grind (ematch := 12) (splits := 16) [XI, PI, PJ, BU, LV, LG, OH, HH, HL, ix_int, q_zz, q_za, q_zga, q_fza, q_fx, q_fga, q_gza, q_gfa, q_gx, ti_link, in24, in24000, in408]) (by grind (ematch := 12) (splits := 16) [XI, PI, PJ, BU, LV, LG, OH, HH, HL, ix_int, q_zz, q_za, q_zga, q_fza, q_fx, q_fga, q_gza, q_gfa, q_gx, ti_link, in24, in24000, in408]))
    have fa_S3 := Fr_faa hF17
    have ga_S3 := Fr_gaa hF17
    have z3_S3 := hF17.1 3 (by decide)
    have z6_S3 := hF17.1 6 (by decide)
    have z7_S3 := hF17.1 7 (by decide)
    have z8_S3 := hF17.1 8 (by decide)
    have z11_S3 := hF17.1 11 (by decide)
    have z12_S3 := hF17.1 12 (by decide)
    have z18_S3 := hF17.1 18 (by decide)
    have z19_S3 := hF17.1 19 (by decide)
    have f1_S3 := Fr_fa hF17 1 (by decide)
    have f2_S3 := Fr_fa hF17 2 (by decide)
    have f8_S3 := Fr_fa hF17 8 (by decide)
    have f46_S3 := Fr_fa hF17 46 (by decide)
    have f48_S3 := Fr_fa hF17 48 (by decide)
    have f10_S3 := Fr_fa hF17 10 (by decide)
    have g3_S3 := Fr_ga hF17 3 (by decide)
    have g4_S3 := Fr_ga hF17 4 (by decide)
    clear hF17
    exact j19 _ _ (by grind (ematch := 12) (splits := 16) [XI, PI, PJ, BU, LV, LG, OH, HH, HL, ix_int, q_zz, q_za, q_zga, q_fza, q_fx, q_fga, q_gza, q_gfa, q_gx, ti_link, in24, in24000, in408])
