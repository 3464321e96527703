
set_option maxHeartbeats 4000000 in
theorem sg_wrong {nx n : Nat} {so pl : Nat → Int32} {wo ws : Nat → Int64} (a0 : Int32) {S : mS} (h : PI nx n so pl wo ws S) (hw : 1 ≤ a0.toInt ∧ a0.toInt ≤ 6) : wp_wrong a0 S (fun S1 => PI nx n so pl wo ws S1 ∧ 0 < (S1.1 4).toInt ∧ (S1.1 3) = (S.1 3)) := by
  unfold wp_wrong
  refine ⟨fun c1 => ?_, fun c1 => ?_⟩
  · grind [PI, LG, TK, CE, ix_int, q_zz, q_za, q_zga, q_fza, q_fx, q_fga, q_gza, q_gfa, q_gx, q_zf1, q_zg1, q_ff, q_fg1, q_gf1, q_gg, ti_link, in4002]
  · refine ⟨by grind [PI, LG, TK, CE, ix_int, q_zz, q_za, q_zga, q_fza, q_fx, q_fga, q_gza, q_gfa, q_gx, q_zf1, q_zg1, q_ff, q_fg1, q_gf1, q_gg, ti_link, in4002], ?_⟩
    intro z2 ez2
    intro z3 ez3
    intro z4 ez4
    intro S5 eS5
    grind [PI, LG, TK, CE, ix_int, q_zz, q_za, q_zga, q_fza, q_fx, q_fga, q_gza, q_gfa, q_gx, q_zf1, q_zg1, q_ff, q_fg1, q_gf1, q_gg, ti_link, in4002]
