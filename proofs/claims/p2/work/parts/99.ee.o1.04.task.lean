
set_option maxHeartbeats 4000000 in
theorem sg_task (a0 : Int32) (a1 : Int32) {S : mS} (ht : 0 ≤ (S.1 22).toInt ∧ (S.1 22).toInt ≤ 200) : wp_task a0 a1 S (fun S1 r => True) := by
  unfold wp_task
  have j24 : ∀ (x1 : Int32) (x2 : Int32) (y1 : Int32) (Sx : mS), (Sx = S ∧ x1 = a0 ∧ (y1 = 1 ∨ (y1 = 0 ∧ 0 ≤ a0.toInt ∧ a0.toInt < (S.1 22).toInt))) → wp_task_24 (fun S1 r => True) x1 x2 y1 Sx := by
    intro x1 x2 y1 Sx hJ24
    unfold wp_task_24
    intro S5 eS5
    refine ⟨fun c1 => ?_, fun c1 => ?_⟩
    · refine ⟨fun c2 => ?_, fun c2 => ?_⟩
      · refine ⟨by (try clear j24); (try clear j23); grind [q_zz, q_za, q_zga, q_fza, q_fx, q_fga, q_gza, q_gfa, q_gx, q_zf1, q_zg1, q_ff, q_fg1, q_gf1, q_gg, ti_link, in200], ?_⟩
        intro z8 ez8
        (try clear j24); (try clear j23); grind [q_zz, q_za, q_zga, q_fza, q_fx, q_fga, q_gza, q_gfa, q_gx, q_zf1, q_zg1, q_ff, q_fg1, q_gf1, q_gg, ti_link, in200]
      · refine ⟨fun c3 => ?_, fun c3 => ?_⟩
        · refine ⟨by (try clear j24); (try clear j23); grind [q_zz, q_za, q_zga, q_fza, q_fx, q_fga, q_gza, q_gfa, q_gx, q_zf1, q_zg1, q_ff, q_fg1, q_gf1, q_gg, ti_link, in200], ?_⟩
          intro z10 ez10
          (try clear j24); (try clear j23); grind [q_zz, q_za, q_zga, q_fza, q_fx, q_fga, q_gza, q_gfa, q_gx, q_zf1, q_zg1, q_ff, q_fg1, q_gf1, q_gg, ti_link, in200]
        · refine ⟨fun c4 => ?_, fun c4 => ?_⟩
          · refine ⟨by (try clear j24); (try clear j23); grind [q_zz, q_za, q_zga, q_fza, q_fx, q_fga, q_gza, q_gfa, q_gx, q_zf1, q_zg1, q_ff, q_fg1, q_gf1, q_gg, ti_link, in200], ?_⟩
            intro z12 ez12
            (try clear j24); (try clear j23); grind [q_zz, q_za, q_zga, q_fza, q_fx, q_fga, q_gza, q_gfa, q_gx, q_zf1, q_zg1, q_ff, q_fg1, q_gf1, q_gg, ti_link, in200]
          · refine ⟨fun c5 => ?_, fun c5 => ?_⟩
            · refine ⟨by (try clear j24); (try clear j23); grind [q_zz, q_za, q_zga, q_fza, q_fx, q_fga, q_gza, q_gfa, q_gx, q_zf1, q_zg1, q_ff, q_fg1, q_gf1, q_gg, ti_link, in200], ?_⟩
              intro z14 ez14
              (try clear j24); (try clear j23); grind [q_zz, q_za, q_zga, q_fza, q_fx, q_fga, q_gza, q_gfa, q_gx, q_zf1, q_zg1, q_ff, q_fg1, q_gf1, q_gg, ti_link, in200]
            · refine ⟨fun c6 => ?_, fun c6 => ?_⟩
              · refine ⟨by (try clear j24); (try clear j23); grind [q_zz, q_za, q_zga, q_fza, q_fx, q_fga, q_gza, q_gfa, q_gx, q_zf1, q_zg1, q_ff, q_fg1, q_gf1, q_gg, ti_link, in200], ?_⟩
                intro z16 ez16
                (try clear j24); (try clear j23); grind [q_zz, q_za, q_zga, q_fza, q_fx, q_fga, q_gza, q_gfa, q_gx, q_zf1, q_zg1, q_ff, q_fg1, q_gf1, q_gg, ti_link, in200]
              · refine ⟨fun c7 => ?_, fun c7 => ?_⟩
                · refine ⟨by (try clear j24); (try clear j23); grind [q_zz, q_za, q_zga, q_fza, q_fx, q_fga, q_gza, q_gfa, q_gx, q_zf1, q_zg1, q_ff, q_fg1, q_gf1, q_gg, ti_link, in200], ?_⟩
                  intro z18 ez18
                  (try clear j24); (try clear j23); grind [q_zz, q_za, q_zga, q_fza, q_fx, q_fga, q_gza, q_gfa, q_gx, q_zf1, q_zg1, q_ff, q_fg1, q_gf1, q_gg, ti_link, in200]
                · refine ⟨fun c8 => ?_, fun c8 => ?_⟩
                  · refine ⟨by (try clear j24); (try clear j23); grind [q_zz, q_za, q_zga, q_fza, q_fx, q_fga, q_gza, q_gfa, q_gx, q_zf1, q_zg1, q_ff, q_fg1, q_gf1, q_gg, ti_link, in200], ?_⟩
                    intro z20 ez20
                    (try clear j24); (try clear j23); grind [q_zz, q_za, q_zga, q_fza, q_fx, q_fga, q_gza, q_gfa, q_gx, q_zf1, q_zg1, q_ff, q_fg1, q_gf1, q_gg, ti_link, in200]
                  · refine ⟨by (try clear j24); (try clear j23); grind [q_zz, q_za, q_zga, q_fza, q_fx, q_fga, q_gza, q_gfa, q_gx, q_zf1, q_zg1, q_ff, q_fg1, q_gf1, q_gg, ti_link, in200], ?_⟩
                    intro z21 ez21
                    refine ⟨fun c9 => ?_, fun c9 => ?_⟩
                    · (try clear j24); (try clear j23); grind [q_zz, q_za, q_zga, q_fza, q_fx, q_fga, q_gza, q_gfa, q_gx, q_zf1, q_zg1, q_ff, q_fg1, q_gf1, q_gg, ti_link, in200]
                    · (try clear j24); (try clear j23); grind [q_zz, q_za, q_zga, q_fza, q_fx, q_fga, q_gza, q_gfa, q_gx, q_zf1, q_zg1, q_ff, q_fg1, q_gf1, q_gg, ti_link, in200]
    · (try clear j24); (try clear j23); grind [q_zz, q_za, q_zga, q_fza, q_fx, q_fga, q_gza, q_gfa, q_gx, q_zf1, q_zg1, q_ff, q_fg1, q_gf1, q_gg, ti_link, in200]
  have j23 : ∀ (x1 : Int32) (x2 : Int32) (Sx : mS), (Sx = S ∧ x1 = a0) → wp_task_23 (fun S1 r => True) x1 x2 Sx := by
    intro x1 x2 Sx hJ23
    unfold wp_task_23
    exact j24 _ _ _ _ (by (try clear j24); (try clear j23); grind [q_zz, q_za, q_zga, q_fza, q_fx, q_fga, q_gza, q_gfa, q_gx, q_zf1, q_zg1, q_ff, q_fg1, q_gf1, q_gg, ti_link, in200])
  refine fm_isTask _ _ _ _ (fun S1 r1 hF10 pS1 => ?_) (sg_isTask _)
  have z5_S1 := hF10.1 5 (by decide)
  have z22_S1 := hF10.1 22 (by decide)
  clear hF10
  refine ⟨fun c11 => ?_, fun c11 => ?_⟩
  · exact j23 _ _ _ (by (try clear j24); (try clear j23); grind [q_zz, q_za, q_zga, q_fza, q_fx, q_fga, q_gza, q_gfa, q_gx, q_zf1, q_zg1, q_ff, q_fg1, q_gf1, q_gg, ti_link, in200])
  · refine ⟨fun c12 => ?_, fun c12 => ?_⟩
    · exact j23 _ _ _ (by (try clear j24); (try clear j23); grind [q_zz, q_za, q_zga, q_fza, q_fx, q_fga, q_gza, q_gfa, q_gx, q_zf1, q_zg1, q_ff, q_fg1, q_gf1, q_gg, ti_link, in200])
    · refine ⟨fun c13 => ?_, fun c13 => ?_⟩
      · exact j23 _ _ _ (by (try clear j24); (try clear j23); grind [q_zz, q_za, q_zga, q_fza, q_fx, q_fga, q_gza, q_gfa, q_gx, q_zf1, q_zg1, q_ff, q_fg1, q_gf1, q_gg, ti_link, in200])
      · exact j24 _ _ _ _ (by (try clear j24); (try clear j23); grind [q_zz, q_za, q_zga, q_fza, q_fx, q_fga, q_gza, q_gfa, q_gx, q_zf1, q_zg1, q_ff, q_fg1, q_gf1, q_gg, ti_link, in200])
