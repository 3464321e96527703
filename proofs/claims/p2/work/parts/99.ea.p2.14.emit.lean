
set_option maxHeartbeats 4000000 in
theorem sg_emit (a0 : Int32) (a1 : Int32) (a2 : Int32) {S : mS} (h : 0 ≤ (S.1 7).toInt ∧ (S.1 7).toInt < 24000) : wp_emit a0 a1 a2 S (fun S1 r => r = (S.1 7) ∧ (S1.1 7).toInt = (S.1 7).toInt + 1) := by
  unfold wp_emit
  refine ⟨by grind [q_zz, q_za, q_zga, q_fza, q_fx, q_fga, q_gza, q_gfa, q_gx, q_zf1, q_zg1, q_ff, q_fg1, q_gf1, q_gg, ti_link, in24000], ?_⟩
  intro S1 eS1
  refine ⟨by grind [q_zz, q_za, q_zga, q_fza, q_fx, q_fga, q_gza, q_gfa, q_gx, q_zf1, q_zg1, q_ff, q_fg1, q_gf1, q_gg, ti_link, in24000], ?_⟩
  intro S2 eS2
  refine ⟨by grind [q_zz, q_za, q_zga, q_fza, q_fx, q_fga, q_gza, q_gfa, q_gx, q_zf1, q_zg1, q_ff, q_fg1, q_gf1, q_gg, ti_link, in24000], ?_⟩
  intro S3 eS3
  intro z4 ez4
  intro S5 eS5
  intro z6 ez6
  grind [q_zz, q_za, q_zga, q_fza, q_fx, q_fga, q_gza, q_gfa, q_gx, q_zf1, q_zg1, q_ff, q_fg1, q_gf1, q_gg, ti_link, in24000]
