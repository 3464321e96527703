
set_option maxHeartbeats 4000000 in
theorem sg_row (a0 : Int32) {S : mS} (h : (S.1 23).toInt ≤ 200) : wp_row a0 S (fun S1 r => True) := by
  unfold wp_row
  intro S1 eS1
  refine ⟨fun c1 => ?_, fun c1 => ?_⟩
  · grind [q_zz, q_za, q_zga, q_fza, q_fx, q_fga, q_gza, q_gfa, q_gx, q_zf1, q_zg1, q_ff, q_fg1, q_gf1, q_gg, ti_link, in200]
  · refine ⟨fun c2 => ?_, fun c2 => ?_⟩
    · refine ⟨by grind [q_zz, q_za, q_zga, q_fza, q_fx, q_fga, q_gza, q_gfa, q_gx, q_zf1, q_zg1, q_ff, q_fg1, q_gf1, q_gg, ti_link, in200], ?_⟩
      intro z4 ez4
      grind [q_zz, q_za, q_zga, q_fza, q_fx, q_fga, q_gza, q_gfa, q_gx, q_zf1, q_zg1, q_ff, q_fg1, q_gf1, q_gg, ti_link, in200]
    · grind [q_zz, q_za, q_zga, q_fza, q_fx, q_fga, q_gza, q_gfa, q_gx, q_zf1, q_zg1, q_ff, q_fg1, q_gf1, q_gg, ti_link, in200]
