
set_option maxHeartbeats 4000000 in
theorem sg_then (a0 : Int32) (a1 : Int32) {S : mS} (h : 0 ≤ (S.1 8).toInt ∧ (S.1 8).toInt < 24000 ∧ (S.1 19).toInt < 24000) : wp_then a0 a1 S (fun S1 r => r = (S.1 8) ∧ (S1.1 8).toInt = (S.1 8).toInt + 1 ∧ (S1.1 19) = (S.1 8)) := by
  unfold wp_then
  refine fm_act _ _ _ _ _ (fun S1 r1 hF1 pS1 => ?_) (sg_act _ _ (by grind [q_zz, q_za, q_zga, q_fza, q_fx, q_fga, q_gza, q_gfa, q_gx, q_zf1, q_zg1, q_ff, q_fg1, q_gf1, q_gg, ti_link]))
  have z19_S1 := hF1.1 19 (by decide)
  clear hF1
  refine fm_lead _ _ _ _ (fun S2 hF2 pS2 => ?_) (sg_lead _ (by grind [q_zz, q_za, q_zga, q_fza, q_fx, q_fga, q_gza, q_gfa, q_gx, q_zf1, q_zg1, q_ff, q_fg1, q_gf1, q_gg, ti_link]))
  have z8_S2 := hF2.1 8 (by decide)
  have z19_S2 := hF2.1 19 (by decide)
  clear hF2
  intro S3 eS3
  grind [q_zz, q_za, q_zga, q_fza, q_fx, q_fga, q_gza, q_gfa, q_gx, q_zf1, q_zg1, q_ff, q_fg1, q_gf1, q_gg, ti_link]
