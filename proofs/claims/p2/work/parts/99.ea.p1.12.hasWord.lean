
set_option maxHeartbeats 4000000 in
theorem sg_hasWord {nx n : Nat} {so pl : Nat → Int32} {wo ws : Nat → Int64} (a0 : Int32) {S : mS} (h : PI nx n so pl wo ws S) (hw : 0 ≤ a0 ∧ a0 < 22) : wp_hasWord a0 S (fun S1 r => PI nx n so pl wo ws S1 ∧ (S1.1 4) = (S.1 4) ∧ ((r = 0 ∧ (S1.1 3) = (S.1 3)) ∨ (r = 1 ∧ (S.1 4) = 0 ∧ (S.1 3).toInt < n ∧ (S1.1 3).toInt = (S.1 3).toInt + 1 ∧ so (ix (S.1 3)) = 1 ∧ wo (ix (S.1 3)) = ws (ix a0)))) := by
  unfold wp_hasWord
  refine fm_isWord _ _ _ _ (fun S1 r1 hF1 pS1 => ?_) (sg_isWord (nx := nx) (n := n) (so := so) (pl := pl) (wo := wo) (ws := ws) _ (by grind [PI, LG, TK, CE, ix_int, q_zz, q_za, q_zga, q_fza, q_fx, q_fga, q_gza, q_gfa, q_gx, q_zf1, q_zg1, q_ff, q_fg1, q_gf1, q_gg, ti_link]) (by grind [PI, LG, TK, CE, ix_int, q_zz, q_za, q_zga, q_fza, q_fx, q_fga, q_gza, q_gfa, q_gx, q_zf1, q_zg1, q_ff, q_fg1, q_gf1, q_gg, ti_link]))
  have z3_S1 := hF1.1 3 (by decide)
  have z4_S1 := hF1.1 4 (by decide)
  have z6_S1 := hF1.1 6 (by decide)
  have f1_S1 := hF1.2.1 1 (by decide)
  have f1a_S1 := Fr_fa hF1 1 (by decide)
  have f2_S1 := hF1.2.1 2 (by decide)
  have f2a_S1 := Fr_fa hF1 2 (by decide)
  have g3_S1 := hF1.2.2 3 (by decide)
  have g3a_S1 := Fr_ga hF1 3 (by decide)
  have g4_S1 := hF1.2.2 4 (by decide)
  have g4a_S1 := Fr_ga hF1 4 (by decide)
  clear hF1
  refine ⟨fun c2 => ?_, fun c2 => ?_⟩
  · intro z3 ez3
    intro S4 eS4
    refine ⟨by grind [PI, LG, TK, CE, ix_int, q_zz, q_za, q_zga, q_fza, q_fx, q_fga, q_gza, q_gfa, q_gx, q_zf1, q_zg1, q_ff, q_fg1, q_gf1, q_gg, ti_link], ?_⟩
    grind [PI, LG, TK, CE, ix_int, q_zz, q_za, q_zga, q_fza, q_fx, q_fga, q_gza, q_gfa, q_gx, q_zf1, q_zg1, q_ff, q_fg1, q_gf1, q_gg, ti_link]
  · intro z5 ez5
    intro S6 eS6
    refine ⟨by grind [PI, LG, TK, CE, ix_int, q_zz, q_za, q_zga, q_fza, q_fx, q_fga, q_gza, q_gfa, q_gx, q_zf1, q_zg1, q_ff, q_fg1, q_gf1, q_gg, ti_link], ?_⟩
    grind [PI, LG, TK, CE, ix_int, q_zz, q_za, q_zga, q_fza, q_fx, q_fga, q_gza, q_gfa, q_gx, q_zf1, q_zg1, q_ff, q_fg1, q_gf1, q_gg, ti_link]
