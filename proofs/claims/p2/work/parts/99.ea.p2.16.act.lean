
set_option maxHeartbeats 4000000 in
theorem sg_act (a0 : Int32) (a1 : Int32) {S : mS} (h : 0 ≤ (S.1 8).toInt ∧ (S.1 8).toInt < 24000) : wp_act a0 a1 S (fun S1 r => r = (S.1 8) ∧ (S1.1 8).toInt = (S.1 8).toInt + 1) := by
  unfold wp_act
  refine ⟨by grind [q_zz, q_za, q_zga, q_fza, q_fx, q_fga, q_gza, q_gfa, q_gx, q_zf1, q_zg1, q_ff, q_fg1, q_gf1, q_gg, ti_link, in24000], ?_⟩
  intro S1 eS1
  refine ⟨by grind [q_zz, q_za, q_zga, q_fza, q_fx, q_fga, q_gza, q_gfa, q_gx, q_zf1, q_zg1, q_ff, q_fg1, q_gf1, q_gg, ti_link, in24000], ?_⟩
  intro S2 eS2
  refine ⟨by grind [q_zz, q_za, q_zga, q_fza, q_fx, q_fga, q_gza, q_gfa, q_gx, q_zf1, q_zg1, q_ff, q_fg1, q_gf1, q_gg, ti_link, in24000], ?_⟩
  intro S3 eS3
  refine ⟨by grind [q_zz, q_za, q_zga, q_fza, q_fx, q_fga, q_gza, q_gfa, q_gx, q_zf1, q_zg1, q_ff, q_fg1, q_gf1, q_gg, ti_link, in24000], ?_⟩
  intro S4 eS4
  refine ⟨by grind [q_zz, q_za, q_zga, q_fza, q_fx, q_fga, q_gza, q_gfa, q_gx, q_zf1, q_zg1, q_ff, q_fg1, q_gf1, q_gg, ti_link, in24000], ?_⟩
  intro S5 eS5
  refine ⟨by grind [q_zz, q_za, q_zga, q_fza, q_fx, q_fga, q_gza, q_gfa, q_gx, q_zf1, q_zg1, q_ff, q_fg1, q_gf1, q_gg, ti_link, in24000], ?_⟩
  intro S6 eS6
  refine ⟨by grind [q_zz, q_za, q_zga, q_fza, q_fx, q_fga, q_gza, q_gfa, q_gx, q_zf1, q_zg1, q_ff, q_fg1, q_gf1, q_gg, ti_link, in24000], ?_⟩
  intro S7 eS7
  intro z8 ez8
  intro S9 eS9
  intro z10 ez10
  grind [q_zz, q_za, q_zga, q_fza, q_fx, q_fga, q_gza, q_gfa, q_gx, q_zf1, q_zg1, q_ff, q_fg1, q_gf1, q_gg, ti_link, in24000]
