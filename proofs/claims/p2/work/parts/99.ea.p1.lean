
set_option maxHeartbeats 4000000 in
theorem sg_wrong {nx n : Nat} {so pl : Nat → Int32} {wo ws : Nat → Int64} (a0 : Int32) {S : mS} (h : PI nx n so pl wo ws S) (hw : 1 ≤ a0.toInt ∧ a0.toInt ≤ 6) : wp_wrong a0 S (fun S1 => PI nx n so pl wo ws S1 ∧ 0 < (S1.1 4).toInt ∧ (S1.1 3) = (S.1 3)) := by
  unfold wp_wrong
  refine ⟨fun c1 => ?_, fun c1 => ?_⟩
  · grind (ematch := 12) (splits := 16) [PI, LG, ix_int, q_zz, q_za, q_zga, q_fza, q_fx, q_fga, q_gza, q_gfa, q_gx, ti_link, in4002]
  · refine ⟨by grind (ematch := 12) (splits := 16) [PI, LG, ix_int, q_zz, q_za, q_zga, q_fza, q_fx, q_fga, q_gza, q_gfa, q_gx, ti_link, in4002], ?_⟩
    intro z2 ez2
    intro z3 ez3
    intro z4 ez4
    intro S5 eS5
    grind (ematch := 12) (splits := 16) [PI, LG, ix_int, q_zz, q_za, q_zga, q_fza, q_fx, q_fga, q_gza, q_gfa, q_gx, ti_link, in4002]
set_option maxHeartbeats 4000000 in
theorem sg_isSign {nx n : Nat} {so pl : Nat → Int32} {wo ws : Nat → Int64} (a0 : Int32) {S : mS} (h : PI nx n so pl wo ws S) : wp_isSign a0 S (fun S1 r => S1 = S ∧ (r = 0 ∨ (r = 1 ∧ (S.1 4) = 0 ∧ (S.1 3).toInt < n))) := by
  unfold wp_isSign
  refine ⟨fun c1 => ?_, fun c1 => ?_⟩
  · grind (ematch := 12) (splits := 16) [PI, LG, ix_int, q_zz, q_za, q_zga, q_fza, q_fx, q_fga, q_gza, q_gfa, q_gx, ti_link, in4002]
  · refine ⟨by grind (ematch := 12) (splits := 16) [PI, LG, ix_int, q_zz, q_za, q_zga, q_fza, q_fx, q_fga, q_gza, q_gfa, q_gx, ti_link, in4002], ?_⟩
    intro z2 ez2
    refine ⟨fun c2 => ?_, fun c2 => ?_⟩
    · grind (ematch := 12) (splits := 16) [PI, LG, ix_int, q_zz, q_za, q_zga, q_fza, q_fx, q_fga, q_gza, q_gfa, q_gx, ti_link, in4002]
    · refine ⟨by grind (ematch := 12) (splits := 16) [PI, LG, ix_int, q_zz, q_za, q_zga, q_fza, q_fx, q_fga, q_gza, q_gfa, q_gx, ti_link, in4002], ?_⟩
      intro z4 ez4
      intro z5 ez5
      intro z6 ez6
      refine ⟨fun c3 => ?_, fun c3 => ?_⟩
      · grind (ematch := 12) (splits := 16) [PI, LG, ix_int, q_zz, q_za, q_zga, q_fza, q_fx, q_fga, q_gza, q_gfa, q_gx, ti_link, in4002]
      · grind (ematch := 12) (splits := 16) [PI, LG, ix_int, q_zz, q_za, q_zga, q_fza, q_fx, q_fga, q_gza, q_gfa, q_gx, ti_link, in4002]
set_option maxHeartbeats 4000000 in
theorem sg_isWord {nx n : Nat} {so pl : Nat → Int32} {wo ws : Nat → Int64} (a0 : Int32) {S : mS} (h : PI nx n so pl wo ws S) (hw : 0 ≤ a0 ∧ a0 < 22) : wp_isWord a0 S (fun S1 r => S1 = S ∧ (r = 0 ∨ (r = 1 ∧ (S.1 4) = 0 ∧ (S.1 3).toInt < n ∧ so (ix (S.1 3)) = 1 ∧ wo (ix (S.1 3)) = ws (ix a0)))) := by
  unfold wp_isWord
  refine ⟨fun c1 => ?_, fun c1 => ?_⟩
  · grind (ematch := 12) (splits := 16) [PI, LG, ix_int, lgc0, q_zz, q_za, q_zga, q_fza, q_fx, q_fga, q_gza, q_gfa, q_gx, ti_link, in22, in4002]
  · refine ⟨by grind (ematch := 12) (splits := 16) [PI, LG, ix_int, lgc0, q_zz, q_za, q_zga, q_fza, q_fx, q_fga, q_gza, q_gfa, q_gx, ti_link, in22, in4002], ?_⟩
    intro z2 ez2
    refine ⟨fun c2 => ?_, fun c2 => ?_⟩
    · grind (ematch := 12) (splits := 16) [PI, LG, ix_int, lgc0, q_zz, q_za, q_zga, q_fza, q_fx, q_fga, q_gza, q_gfa, q_gx, ti_link, in22, in4002]
    · refine ⟨by grind (ematch := 12) (splits := 16) [PI, LG, ix_int, lgc0, q_zz, q_za, q_zga, q_fza, q_fx, q_fga, q_gza, q_gfa, q_gx, ti_link, in22, in4002], ?_⟩
      intro z4 ez4
      refine ⟨by grind (ematch := 12) (splits := 16) [PI, LG, ix_int, lgc0, q_zz, q_za, q_zga, q_fza, q_fx, q_fga, q_gza, q_gfa, q_gx, ti_link, in22, in4002], ?_⟩
      intro z5 ez5
      intro z6 ez6
      refine ⟨fun c3 => ?_, fun c3 => ?_⟩
      · grind (ematch := 12) (splits := 16) [PI, LG, ix_int, lgc0, q_zz, q_za, q_zga, q_fza, q_fx, q_fga, q_gza, q_gfa, q_gx, ti_link, in22, in4002]
      · grind (ematch := 12) (splits := 16) [PI, LG, ix_int, lgc0, q_zz, q_za, q_zga, q_fza, q_fx, q_fga, q_gza, q_gfa, q_gx, ti_link, in22, in4002]
set_option maxHeartbeats 4000000 in
theorem sg_takeSign {nx n : Nat} {so pl : Nat → Int32} {wo ws : Nat → Int64} (a0 : Int32) {S : mS} (h : PI nx n so pl wo ws S) : wp_takeSign a0 S (fun S1 => PI nx n so pl wo ws S1 ∧ ((0 < (S1.1 4).toInt ∧ (S1.1 3) = (S.1 3)) ∨ ((S1.1 4) = 0 ∧ (S.1 4) = 0 ∧ (S.1 3).toInt < n ∧ (S1.1 3).toInt = (S.1 3).toInt + 1))) := by
  unfold wp_takeSign
  refine fm_isSign _ _ _ _ (fun S1 r1 hF1 p2 => ?_) (sg_isSign (nx := nx) (n := n) (so := so) (pl := pl) (wo := wo) (ws := ws) _ (by grind (ematch := 12) (splits := 16) [PI, LG, ix_int, q_zz, q_za, q_zga, q_fza, q_fx, q_fga, q_gza, q_gfa, q_gx, ti_link]))
  have z3_S1 := hF1.1 3 (by decide)
  have z4_S1 := hF1.1 4 (by decide)
  have z6_S1 := hF1.1 6 (by decide)
  have f1_S1 := Fr_fa hF1 1 (by decide)
  have f2_S1 := Fr_fa hF1 2 (by decide)
  have g3_S1 := Fr_ga hF1 3 (by decide)
  have g4_S1 := Fr_ga hF1 4 (by decide)
  clear hF1
  refine ⟨fun c3 => ?_, fun c3 => ?_⟩
  · refine fm_wrong _ _ _ _ (fun S3 hF4 p5 => ?_) (sg_wrong (nx := nx) (n := n) (so := so) (pl := pl) (wo := wo) (ws := ws) _ (by grind (ematch := 12) (splits := 16) [PI, LG, ix_int, q_zz, q_za, q_zga, q_fza, q_fx, q_fga, q_gza, q_gfa, q_gx, ti_link]) (by grind (ematch := 12) (splits := 16) [PI, LG, ix_int, q_zz, q_za, q_zga, q_fza, q_fx, q_fga, q_gza, q_gfa, q_gx, ti_link]))
    have z3_S3 := hF4.1 3 (by decide)
    have z6_S3 := hF4.1 6 (by decide)
    have f1_S3 := Fr_fa hF4 1 (by decide)
    have f2_S3 := Fr_fa hF4 2 (by decide)
    have g3_S3 := Fr_ga hF4 3 (by decide)
    have g4_S3 := Fr_ga hF4 4 (by decide)
    clear hF4
    grind (ematch := 12) (splits := 16) [PI, LG, ix_int, q_zz, q_za, q_zga, q_fza, q_fx, q_fga, q_gza, q_gfa, q_gx, ti_link]
  · intro z4 ez4
    intro S5 eS5
    grind (ematch := 12) (splits := 16) [PI, LG, ix_int, q_zz, q_za, q_zga, q_fza, q_fx, q_fga, q_gza, q_gfa, q_gx, ti_link]
set_option maxHeartbeats 4000000 in
theorem sg_hasSign {nx n : Nat} {so pl : Nat → Int32} {wo ws : Nat → Int64} (a0 : Int32) {S : mS} (h : PI nx n so pl wo ws S) : wp_hasSign a0 S (fun S1 r => PI nx n so pl wo ws S1 ∧ (S1.1 4) = (S.1 4) ∧ ((r = 0 ∧ (S1.1 3) = (S.1 3)) ∨ (r = 1 ∧ (S.1 4) = 0 ∧ (S.1 3).toInt < n ∧ (S1.1 3).toInt = (S.1 3).toInt + 1))) := by
  unfold wp_hasSign
  refine fm_isSign _ _ _ _ (fun S1 r1 hF1 p2 => ?_) (sg_isSign (nx := nx) (n := n) (so := so) (pl := pl) (wo := wo) (ws := ws) _ (by grind (ematch := 12) (splits := 16) [PI, LG, ix_int, q_zz, q_za, q_zga, q_fza, q_fx, q_fga, q_gza, q_gfa, q_gx, ti_link]))
  have z3_S1 := hF1.1 3 (by decide)
  have z4_S1 := hF1.1 4 (by decide)
  have z6_S1 := hF1.1 6 (by decide)
  have f1_S1 := Fr_fa hF1 1 (by decide)
  have f2_S1 := Fr_fa hF1 2 (by decide)
  have g3_S1 := Fr_ga hF1 3 (by decide)
  have g4_S1 := Fr_ga hF1 4 (by decide)
  clear hF1
  refine ⟨fun c3 => ?_, fun c3 => ?_⟩
  · intro z3 ez3
    intro S4 eS4
    refine ⟨by grind (ematch := 12) (splits := 16) [PI, LG, ix_int, q_zz, q_za, q_zga, q_fza, q_fx, q_fga, q_gza, q_gfa, q_gx, ti_link], ?_⟩
    grind (ematch := 12) (splits := 16) [PI, LG, ix_int, q_zz, q_za, q_zga, q_fza, q_fx, q_fga, q_gza, q_gfa, q_gx, ti_link]
  · intro z5 ez5
    intro S6 eS6
    refine ⟨by grind (ematch := 12) (splits := 16) [PI, LG, ix_int, q_zz, q_za, q_zga, q_fza, q_fx, q_fga, q_gza, q_gfa, q_gx, ti_link], ?_⟩
    grind (ematch := 12) (splits := 16) [PI, LG, ix_int, q_zz, q_za, q_zga, q_fza, q_fx, q_fga, q_gza, q_gfa, q_gx, ti_link]
set_option maxHeartbeats 4000000 in
theorem sg_hasWord {nx n : Nat} {so pl : Nat → Int32} {wo ws : Nat → Int64} (a0 : Int32) {S : mS} (h : PI nx n so pl wo ws S) (hw : 0 ≤ a0 ∧ a0 < 22) : wp_hasWord a0 S (fun S1 r => PI nx n so pl wo ws S1 ∧ (S1.1 4) = (S.1 4) ∧ ((r = 0 ∧ (S1.1 3) = (S.1 3)) ∨ (r = 1 ∧ (S.1 4) = 0 ∧ (S.1 3).toInt < n ∧ (S1.1 3).toInt = (S.1 3).toInt + 1 ∧ so (ix (S.1 3)) = 1 ∧ wo (ix (S.1 3)) = ws (ix a0)))) := by
  unfold wp_hasWord
  refine fm_isWord _ _ _ _ (fun S1 r1 hF1 p2 => ?_) (sg_isWord (nx := nx) (n := n) (so := so) (pl := pl) (wo := wo) (ws := ws) _ (by grind (ematch := 12) (splits := 16) [PI, LG, ix_int, q_zz, q_za, q_zga, q_fza, q_fx, q_fga, q_gza, q_gfa, q_gx, ti_link]) (by grind (ematch := 12) (splits := 16) [PI, LG, ix_int, q_zz, q_za, q_zga, q_fza, q_fx, q_fga, q_gza, q_gfa, q_gx, ti_link]))
  have z3_S1 := hF1.1 3 (by decide)
  have z4_S1 := hF1.1 4 (by decide)
  have z6_S1 := hF1.1 6 (by decide)
  have f1_S1 := Fr_fa hF1 1 (by decide)
  have f2_S1 := Fr_fa hF1 2 (by decide)
  have g3_S1 := Fr_ga hF1 3 (by decide)
  have g4_S1 := Fr_ga hF1 4 (by decide)
  clear hF1
  refine ⟨fun c3 => ?_, fun c3 => ?_⟩
  · intro z3 ez3
    intro S4 eS4
    refine ⟨by grind (ematch := 12) (splits := 16) [PI, LG, ix_int, q_zz, q_za, q_zga, q_fza, q_fx, q_fga, q_gza, q_gfa, q_gx, ti_link], ?_⟩
    grind (ematch := 12) (splits := 16) [PI, LG, ix_int, q_zz, q_za, q_zga, q_fza, q_fx, q_fga, q_gza, q_gfa, q_gx, ti_link]
  · intro z5 ez5
    intro S6 eS6
    refine ⟨by grind (ematch := 12) (splits := 16) [PI, LG, ix_int, q_zz, q_za, q_zga, q_fza, q_fx, q_fga, q_gza, q_gfa, q_gx, ti_link], ?_⟩
    grind (ematch := 12) (splits := 16) [PI, LG, ix_int, q_zz, q_za, q_zga, q_fza, q_fx, q_fga, q_gza, q_gfa, q_gx, ti_link]
