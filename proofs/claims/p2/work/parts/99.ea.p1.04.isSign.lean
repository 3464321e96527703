
set_option maxHeartbeats 4000000 in
theorem sg_isSign {nx n : Nat} {so pl : Nat → Int32} {wo ws : Nat → Int64} (a0 : Int32) {S : mS} (h : PI nx n so pl wo ws S) : wp_isSign a0 S (fun S1 r => S1 = S ∧ (r = 0 ∨ (r = 1 ∧ (S.1 4) = 0 ∧ (S.1 3).toInt < n))) := by
  unfold wp_isSign
  refine ⟨fun c1 => ?_, fun c1 => ?_⟩
  · grind [PI, LG, TK, CE, ix_int, q_zz, q_za, q_zga, q_fza, q_fx, q_fga, q_gza, q_gfa, q_gx, q_zf1, q_zg1, q_ff, q_fg1, q_gf1, q_gg, ti_link, in4002]
  · refine ⟨by grind [PI, LG, TK, CE, ix_int, q_zz, q_za, q_zga, q_fza, q_fx, q_fga, q_gza, q_gfa, q_gx, q_zf1, q_zg1, q_ff, q_fg1, q_gf1, q_gg, ti_link, in4002], ?_⟩
    intro z2 ez2
    refine ⟨fun c2 => ?_, fun c2 => ?_⟩
    · grind [PI, LG, TK, CE, ix_int, q_zz, q_za, q_zga, q_fza, q_fx, q_fga, q_gza, q_gfa, q_gx, q_zf1, q_zg1, q_ff, q_fg1, q_gf1, q_gg, ti_link, in4002]
    · refine ⟨by grind [PI, LG, TK, CE, ix_int, q_zz, q_za, q_zga, q_fza, q_fx, q_fga, q_gza, q_gfa, q_gx, q_zf1, q_zg1, q_ff, q_fg1, q_gf1, q_gg, ti_link, in4002], ?_⟩
      intro z4 ez4
      intro z5 ez5
      intro z6 ez6
      refine ⟨fun c3 => ?_, fun c3 => ?_⟩
      · grind [PI, LG, TK, CE, ix_int, q_zz, q_za, q_zga, q_fza, q_fx, q_fga, q_gza, q_gfa, q_gx, q_zf1, q_zg1, q_ff, q_fg1, q_gf1, q_gg, ti_link, in4002]
      · grind [PI, LG, TK, CE, ix_int, q_zz, q_za, q_zga, q_fza, q_fx, q_fga, q_gza, q_gfa, q_gx, q_zf1, q_zg1, q_ff, q_fg1, q_gf1, q_gg, ti_link, in4002]
