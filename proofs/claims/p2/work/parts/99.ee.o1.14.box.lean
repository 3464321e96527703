
set_option maxHeartbeats 4000000 in
theorem sg_box (a0 : Int32) (a1 : Int32) {S : mS} (h : LTR ((S.2.1 78))) : wp_box a0 a1 S (fun S1 r => True) := by
  unfold wp_box
  intro S1 eS1
  refine ⟨fun c1 => ?_, fun c1 => ?_⟩
  · grind [q_zz, q_za, q_zga, q_fza, q_fx, q_fga, q_gza, q_gfa, q_gx, q_zf1, q_zg1, q_ff, q_fg1, q_gf1, q_gg, ti_link, in400, in8]
  · refine ⟨fun c2 => ?_, fun c2 => ?_⟩
    · grind [q_zz, q_za, q_zga, q_fza, q_fx, q_fga, q_gza, q_gfa, q_gx, q_zf1, q_zg1, q_ff, q_fg1, q_gf1, q_gg, ti_link, in400, in8]
    · refine ⟨fun c3 => ?_, fun c3 => ?_⟩
      · grind [q_zz, q_za, q_zga, q_fza, q_fx, q_fga, q_gza, q_gfa, q_gx, q_zf1, q_zg1, q_ff, q_fg1, q_gf1, q_gg, ti_link, in400, in8]
      · refine ⟨by grind [q_zz, q_za, q_zga, q_fza, q_fx, q_fga, q_gza, q_gfa, q_gx, q_zf1, q_zg1, q_ff, q_fg1, q_gf1, q_gg, ti_link, in400, in8], ?_⟩
        intro z5 ez5
        have  q5 : 0 ≤ z5.toInt ∧ z5.toInt ≤ 50 := by
              rw [ez5, eS1]
              exact LTR_in h (by grind [q_zz, q_za, q_zga, q_fza, q_fx, q_fga, q_gza, q_gfa, q_gx, q_zf1, q_zg1, q_ff, q_fg1, q_gf1, q_gg, ti_link, in400, in8]) (by grind [q_zz, q_za, q_zga, q_fza, q_fx, q_fga, q_gza, q_gfa, q_gx, q_zf1, q_zg1, q_ff, q_fg1, q_gf1, q_gg, ti_link, in400, in8])
        refine ⟨fun c4 => ?_, fun c4 => ?_⟩
        · intro z7 ez7
          intro z8 ez8
          refine ⟨by grind [q_zz, q_za, q_zga, q_fza, q_fx, q_fga, q_gza, q_gfa, q_gx, q_zf1, q_zg1, q_ff, q_fg1, q_gf1, q_gg, ti_link, in400, in8], ?_⟩
          intro z9 ez9
          grind [q_zz, q_za, q_zga, q_fza, q_fx, q_fga, q_gza, q_gfa, q_gx, q_zf1, q_zg1, q_ff, q_fg1, q_gf1, q_gg, ti_link, in400, in8]
        · grind [q_zz, q_za, q_zga, q_fza, q_fx, q_fga, q_gza, q_gfa, q_gx, q_zf1, q_zg1, q_ff, q_fg1, q_gf1, q_gg, ti_link, in400, in8]
