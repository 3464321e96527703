
set_option maxHeartbeats 4000000 in
theorem sg_isTask (a0 : Int32) {S : mS} : wp_isTask a0 S (fun S1 r => S1 = S ∧ (r = 0 ∨ (r = 1 ∧ 0 ≤ a0.toInt ∧ a0.toInt < (S.1 22).toInt))) := by
  unfold wp_isTask
  refine ⟨fun c1 => ?_, fun c1 => ?_⟩
  · grind [q_zz, q_za, q_zga, q_fza, q_fx, q_fga, q_gza, q_gfa, q_gx, q_zf1, q_zg1, q_ff, q_fg1, q_gf1, q_gg, ti_link]
  · refine ⟨fun c2 => ?_, fun c2 => ?_⟩
    · grind [q_zz, q_za, q_zga, q_fza, q_fx, q_fga, q_gza, q_gfa, q_gx, q_zf1, q_zg1, q_ff, q_fg1, q_gf1, q_gg, ti_link]
    · grind [q_zz, q_za, q_zga, q_fza, q_fx, q_fga, q_gza, q_gfa, q_gx, q_zf1, q_zg1, q_ff, q_fg1, q_gf1, q_gg, ti_link]
