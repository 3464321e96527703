
set_option maxHeartbeats 4000000 in
theorem sg_lead (a0 : Int32) {S : mS} (h : (S.1 19).toInt < 24000) : wp_lead a0 S (fun S1 => True) := by
  unfold wp_lead
  refine ⟨fun c1 => ?_, fun c1 => ?_⟩
  · refine ⟨by grind [q_zz, q_za, q_zga, q_fza, q_fx, q_fga, q_gza, q_gfa, q_gx, q_zf1, q_zg1, q_ff, q_fg1, q_gf1, q_gg, ti_link, in24000], ?_⟩
    intro z2 ez2
    refine ⟨fun c2 => ?_, fun c2 => ?_⟩
    · refine ⟨by grind [q_zz, q_za, q_zga, q_fza, q_fx, q_fga, q_gza, q_gfa, q_gx, q_zf1, q_zg1, q_ff, q_fg1, q_gf1, q_gg, ti_link, in24000], ?_⟩
      intro S4 eS4
      grind [q_zz, q_za, q_zga, q_fza, q_fx, q_fga, q_gza, q_gfa, q_gx, q_zf1, q_zg1, q_ff, q_fg1, q_gf1, q_gg, ti_link, in24000]
    · refine ⟨by grind [q_zz, q_za, q_zga, q_fza, q_fx, q_fga, q_gza, q_gfa, q_gx, q_zf1, q_zg1, q_ff, q_fg1, q_gf1, q_gg, ti_link, in24000], ?_⟩
      intro S5 eS5
      grind [q_zz, q_za, q_zga, q_fza, q_fx, q_fga, q_gza, q_gfa, q_gx, q_zf1, q_zg1, q_ff, q_fg1, q_gf1, q_gg, ti_link, in24000]
  · grind [q_zz, q_za, q_zga, q_fza, q_fx, q_fga, q_gza, q_gfa, q_gx, q_zf1, q_zg1, q_ff, q_fg1, q_gf1, q_gg, ti_link, in24000]
