
set_option maxHeartbeats 4000000 in
theorem sg_routine (a0 : Int32) (a1 : Int32) {S : mS} (hn : 0 ≤ (S.1 5).toInt ∧ (S.1 5).toInt ≤ 1) (hr : ((S.2.1 5) (ix (S.1 5))).toInt ≤ 12) : wp_routine a0 a1 S (fun S1 r => True) := by
  unfold wp_routine
  have j32 : ∀ (x1 : Int32) (x2 : Int32) (y1 : Int32) (Sx : mS), (Sx = S ∧ x1 = a0 ∧ (y1 = 1 ∨ (y1 = 0 ∧ 0 ≤ a0.toInt ∧ a0.toInt < 12))) → wp_routine_32 (fun S1 r => True) x1 x2 y1 Sx := by
    intro x1 x2 y1 Sx hJ32
    unfold wp_routine_32
    intro S6 eS6
    refine ⟨fun c1 => ?_, fun c1 => ?_⟩
    · intro z8 ez8
      intro z9 ez9
      refine ⟨fun c2 => ?_, fun c2 => ?_⟩
      · refine ⟨fun c3 => ?_, fun c3 => ?_⟩
        · refine ⟨by (try clear j32); (try clear j31); grind [q_zz, q_za, q_zga, q_fza, q_fx, q_fga, q_gza, q_gfa, q_gx, q_zf1, q_zg1, q_ff, q_fg1, q_gf1, q_gg, ti_link, in2, in24], ?_⟩
          intro z12 ez12
          intro z13 ez13
          (try clear j32); (try clear j31); grind [q_zz, q_za, q_zga, q_fza, q_fx, q_fga, q_gza, q_gfa, q_gx, q_zf1, q_zg1, q_ff, q_fg1, q_gf1, q_gg, ti_link, in2, in24]
        · refine ⟨by (try clear j32); (try clear j31); grind [q_zz, q_za, q_zga, q_fza, q_fx, q_fga, q_gza, q_gfa, q_gx, q_zf1, q_zg1, q_ff, q_fg1, q_gf1, q_gg, ti_link, in2, in24], ?_⟩
          intro z14 ez14
          (try clear j32); (try clear j31); grind [q_zz, q_za, q_zga, q_fza, q_fx, q_fga, q_gza, q_gfa, q_gx, q_zf1, q_zg1, q_ff, q_fg1, q_gf1, q_gg, ti_link, in2, in24]
      · refine ⟨by (try clear j32); (try clear j31); grind [q_zz, q_za, q_zga, q_fza, q_fx, q_fga, q_gza, q_gfa, q_gx, q_zf1, q_zg1, q_ff, q_fg1, q_gf1, q_gg, ti_link, in2, in24], ?_⟩
        intro z15 ez15
        (try clear j32); (try clear j31); grind [q_zz, q_za, q_zga, q_fza, q_fx, q_fga, q_gza, q_gfa, q_gx, q_zf1, q_zg1, q_ff, q_fg1, q_gf1, q_gg, ti_link, in2, in24]
    · (try clear j32); (try clear j31); grind [q_zz, q_za, q_zga, q_fza, q_fx, q_fga, q_gza, q_gfa, q_gx, q_zf1, q_zg1, q_ff, q_fg1, q_gf1, q_gg, ti_link, in2, in24]
  have j31 : ∀ (x1 : Int32) (x2 : Int32) (Sx : mS), (Sx = S ∧ x1 = a0) → wp_routine_31 (fun S1 r => True) x1 x2 Sx := by
    intro x1 x2 Sx hJ31
    unfold wp_routine_31
    exact j32 _ _ _ _ (by (try clear j32); (try clear j31); grind [q_zz, q_za, q_zga, q_fza, q_fx, q_fga, q_gza, q_gfa, q_gx, q_zf1, q_zg1, q_ff, q_fg1, q_gf1, q_gg, ti_link, in2, in24])
  refine ⟨fun c4 => ?_, fun c4 => ?_⟩
  · exact j31 _ _ _ (by (try clear j32); (try clear j31); grind [q_zz, q_za, q_zga, q_fza, q_fx, q_fga, q_gza, q_gfa, q_gx, q_zf1, q_zg1, q_ff, q_fg1, q_gf1, q_gg, ti_link, in2, in24])
  · refine ⟨by (try clear j32); (try clear j31); grind [q_zz, q_za, q_zga, q_fza, q_fx, q_fga, q_gza, q_gfa, q_gx, q_zf1, q_zg1, q_ff, q_fg1, q_gf1, q_gg, ti_link, in2, in24], ?_⟩
    intro z2 ez2
    refine ⟨fun c5 => ?_, fun c5 => ?_⟩
    · exact j31 _ _ _ (by (try clear j32); (try clear j31); grind [q_zz, q_za, q_zga, q_fza, q_fx, q_fga, q_gza, q_gfa, q_gx, q_zf1, q_zg1, q_ff, q_fg1, q_gf1, q_gg, ti_link, in2, in24])
    · refine ⟨fun c6 => ?_, fun c6 => ?_⟩
      · exact j31 _ _ _ (by (try clear j32); (try clear j31); grind [q_zz, q_za, q_zga, q_fza, q_fx, q_fga, q_gza, q_gfa, q_gx, q_zf1, q_zg1, q_ff, q_fg1, q_gf1, q_gg, ti_link, in2, in24])
      · refine ⟨fun c7 => ?_, fun c7 => ?_⟩
        · exact j31 _ _ _ (by (try clear j32); (try clear j31); grind [q_zz, q_za, q_zga, q_fza, q_fx, q_fga, q_gza, q_gfa, q_gx, q_zf1, q_zg1, q_ff, q_fg1, q_gf1, q_gg, ti_link, in2, in24])
        · exact j32 _ _ _ _ (by (try clear j32); (try clear j31); grind [q_zz, q_za, q_zga, q_fza, q_fx, q_fga, q_gza, q_gfa, q_gx, q_zf1, q_zg1, q_ff, q_fg1, q_gf1, q_gg, ti_link, in2, in24])
