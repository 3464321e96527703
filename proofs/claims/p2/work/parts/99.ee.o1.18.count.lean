
set_option maxHeartbeats 4000000 in
theorem sg_count (a0 : Int32) {S : mS} (ht : 0 ≤ (S.1 22).toInt ∧ (S.1 22).toInt ≤ 200) (hn : 0 ≤ (S.1 5).toInt ∧ (S.1 5).toInt ≤ 1) : wp_count a0 S (fun S1 r => True) := by
  unfold wp_count
  intro S1 eS1
  refine it_rule (fun u : Int32 × Int32 × Int32 × Int32 × mS => (u.2.2.2.2.1 22) = (S.1 22) ∧ (u.2.2.2.2.1 5) = (S.1 5) ∧ 0 ≤ u.2.2.2.1.toInt ∧ u.2.2.2.1.toInt ≤ (S.1 22).toInt) (fun u => ((S.1 22).toInt - u.2.2.2.1.toInt).toNat) ?_ (by (try clear j68); (try clear j63); (try clear j38); (try clear hk12); (try clear hk82); grind [q_zz, q_za, q_zga, q_fza, q_fx, q_fga, q_gza, q_gfa, q_gx, q_zf1, q_zg1, q_ff, q_fg1, q_gf1, q_gg, ti_link, in2, in200, in8])
  rintro ⟨x1, x2, x3, x4, Sl12⟩ k12 hI12 hk12
  replace hI12 : (Sl12.1 22) = (S.1 22) ∧ (Sl12.1 5) = (S.1 5) ∧ 0 ≤ x4.toInt ∧ x4.toInt ≤ (S.1 22).toInt := hI12
  replace hk12 : ∀ v : Int32 × Int32 × Int32 × Int32 × mS, (v.2.2.2.2.1 22) = (S.1 22) ∧ (v.2.2.2.2.1 5) = (S.1 5) ∧ 0 ≤ v.2.2.2.1.toInt ∧ v.2.2.2.1.toInt ≤ (S.1 22).toInt → ((S.1 22).toInt - v.2.2.2.1.toInt).toNat < ((S.1 22).toInt - x4.toInt).toNat → k12 v := hk12
  show wp_count_12 _ k12 x1 x2 x3 x4 Sl12
  unfold wp_count_12
  obtain ⟨g12x1, eg12x1⟩ : ∃ g9, g9 = x1 := ⟨_, rfl⟩
  obtain ⟨g12x2, eg12x2⟩ : ∃ g9, g9 = x2 := ⟨_, rfl⟩
  obtain ⟨g12x3, eg12x3⟩ : ∃ g9, g9 = x3 := ⟨_, rfl⟩
  obtain ⟨g12x4, eg12x4⟩ : ∃ g9, g9 = x4 := ⟨_, rfl⟩
  have j68 : ∀ (x1 : Int32) (x2 : Int32) (x4 : Int32) (y0 : Int32) (y1 : Int32) (Sx : mS), ((Sx.1 22) = (S.1 22) ∧ (Sx.1 5) = (S.1 5) ∧ 0 ≤ x4.toInt ∧ x4.toInt < (S.1 22).toInt ∧ x4 = g12x4) → wp_count_68 (fun S1 r => True) k12 x1 x2 x4 y0 y1 Sx := by
    intro x1 x2 x4 y0 y1 Sx hJ68
    unfold wp_count_68
    intro z10 ez10
    intro z11 ez11
    exact hk12 _ (by (try clear j68); (try clear j63); (try clear j38); (try clear hk12); (try clear hk82); grind [q_zz, q_za, q_zga, q_fza, q_fx, q_fga, q_gza, q_gfa, q_gx, q_zf1, q_zg1, q_ff, q_fg1, q_gf1, q_gg, ti_link, in2, in200, in8]) (by (try clear j68); (try clear j63); (try clear j38); (try clear hk12); (try clear hk82); grind [q_zz, q_za, q_zga, q_fza, q_fx, q_fga, q_gza, q_gfa, q_gx, q_zf1, q_zg1, q_ff, q_fg1, q_gf1, q_gg, ti_link, in2, in200, in8])
  have j63 : ∀ (x1 : Int32) (x2 : Int32) (x4 : Int32) (y0 : Int32) (Sx : mS), ((Sx.1 22) = (S.1 22) ∧ (Sx.1 5) = (S.1 5) ∧ 0 ≤ x4.toInt ∧ x4.toInt < (S.1 22).toInt ∧ x4 = g12x4) → wp_count_63 (fun S1 r => True) k12 x1 x2 x4 y0 Sx := by
    intro x1 x2 x4 y0 Sx hJ63
    unfold wp_count_63
    exact j68 _ _ _ _ _ _ (by (try clear j68); (try clear j63); (try clear j38); (try clear hk12); (try clear hk82); grind [q_zz, q_za, q_zga, q_fza, q_fx, q_fga, q_gza, q_gfa, q_gx, q_zf1, q_zg1, q_ff, q_fg1, q_gf1, q_gg, ti_link, in2, in200, in8])
  have j38 : ∀ (x1 : Int32) (x3 : Int32) (x4 : Int32) (y0 : Int32) (y1 : Int32) (Sx : mS), ((Sx.1 22) = (S.1 22) ∧ (Sx.1 5) = (S.1 5) ∧ 0 ≤ x4.toInt ∧ x4.toInt < (S.1 22).toInt ∧ x4 = g12x4) → wp_count_38 (fun S1 r => True) k12 x1 x3 x4 y0 y1 Sx := by
    intro x1 x3 x4 y0 y1 Sx hJ38
    unfold wp_count_38
    intro z5 ez5
    refine ⟨by (try clear j68); (try clear j63); (try clear j38); (try clear hk12); (try clear hk82); grind [q_zz, q_za, q_zga, q_fza, q_fx, q_fga, q_gza, q_gfa, q_gx, q_zf1, q_zg1, q_ff, q_fg1, q_gf1, q_gg, ti_link, in2, in200, in8], ?_⟩
    intro z6 ez6
    refine ⟨fun c1 => ?_, fun c1 => ?_⟩
    · exact j63 _ _ _ _ _ (by (try clear j68); (try clear j63); (try clear j38); (try clear hk12); (try clear hk82); grind [q_zz, q_za, q_zga, q_fza, q_fx, q_fga, q_gza, q_gfa, q_gx, q_zf1, q_zg1, q_ff, q_fg1, q_gf1, q_gg, ti_link, in2, in200, in8])
    · refine ⟨by (try clear j68); (try clear j63); (try clear j38); (try clear hk12); (try clear hk82); grind [q_zz, q_za, q_zga, q_fza, q_fx, q_fga, q_gza, q_gfa, q_gx, q_zf1, q_zg1, q_ff, q_fg1, q_gf1, q_gg, ti_link, in2, in200, in8], ?_⟩
      intro z8 ez8
      refine ⟨fun c2 => ?_, fun c2 => ?_⟩
      · exact j68 _ _ _ _ _ _ (by (try clear j68); (try clear j63); (try clear j38); (try clear hk12); (try clear hk82); grind [q_zz, q_za, q_zga, q_fza, q_fx, q_fga, q_gza, q_gfa, q_gx, q_zf1, q_zg1, q_ff, q_fg1, q_gf1, q_gg, ti_link, in2, in200, in8])
      · exact j63 _ _ _ _ _ (by (try clear j68); (try clear j63); (try clear j38); (try clear hk12); (try clear hk82); grind [q_zz, q_za, q_zga, q_fza, q_fx, q_fga, q_gza, q_gfa, q_gx, q_zf1, q_zg1, q_ff, q_fg1, q_gf1, q_gg, ti_link, in2, in200, in8])
  refine ⟨fun c3 => ?_, fun c3 => ?_⟩
  · refine it_rule (fun u : Int32 × Int32 × Int32 × Int32 × Int32 × mS => (u.2.2.2.2.2.1 5) = (S.1 5) ∧ 0 ≤ u.2.2.2.2.1.toInt ∧ u.2.2.2.2.1.toInt ≤ 8) (fun u => (8 - u.2.2.2.2.1.toInt).toNat) ?_ (by (try clear j68); (try clear j63); (try clear j38); (try clear hk12); (try clear hk82); grind [q_zz, q_za, q_zga, q_fza, q_fx, q_fga, q_gza, q_gfa, q_gx, q_zf1, q_zg1, q_ff, q_fg1, q_gf1, q_gg, ti_link, in2, in200, in8])
    rintro ⟨x1, x2, x3, x4, x5, Sl82⟩ k82 hI82 hk82
    replace hI82 : (Sl82.1 5) = (S.1 5) ∧ 0 ≤ x5.toInt ∧ x5.toInt ≤ 8 := hI82
    replace hk82 : ∀ v : Int32 × Int32 × Int32 × Int32 × Int32 × mS, (v.2.2.2.2.2.1 5) = (S.1 5) ∧ 0 ≤ v.2.2.2.2.1.toInt ∧ v.2.2.2.2.1.toInt ≤ 8 → (8 - v.2.2.2.2.1.toInt).toNat < (8 - x5.toInt).toNat → k82 v := hk82
    show wp_count_82 _ k82 x1 x2 x3 x4 x5 Sl82
    unfold wp_count_82
    refine ⟨fun c4 => ?_, fun c4 => ?_⟩
    · refine ⟨fun c5 => ?_, fun c5 => ?_⟩
      · refine ⟨by (try clear j68); (try clear j63); (try clear j38); (try clear hk12); (try clear hk82); grind [q_zz, q_za, q_zga, q_fza, q_fx, q_fga, q_gza, q_gfa, q_gx, q_zf1, q_zg1, q_ff, q_fg1, q_gf1, q_gg, ti_link, in2, in200, in8], ?_⟩
        intro z14 ez14
        (try clear j68); (try clear j63); (try clear j38); (try clear hk12); (try clear hk82); grind [q_zz, q_za, q_zga, q_fza, q_fx, q_fga, q_gza, q_gfa, q_gx, q_zf1, q_zg1, q_ff, q_fg1, q_gf1, q_gg, ti_link, in2, in200, in8]
      · refine ⟨fun c6 => ?_, fun c6 => ?_⟩
        · (try clear j68); (try clear j63); (try clear j38); (try clear hk12); (try clear hk82); grind [q_zz, q_za, q_zga, q_fza, q_fx, q_fga, q_gza, q_gfa, q_gx, q_zf1, q_zg1, q_ff, q_fg1, q_gf1, q_gg, ti_link, in2, in200, in8]
        · refine ⟨fun c7 => ?_, fun c7 => ?_⟩
          · (try clear j68); (try clear j63); (try clear j38); (try clear hk12); (try clear hk82); grind [q_zz, q_za, q_zga, q_fza, q_fx, q_fga, q_gza, q_gfa, q_gx, q_zf1, q_zg1, q_ff, q_fg1, q_gf1, q_gg, ti_link, in2, in200, in8]
          · refine ⟨fun c8 => ?_, fun c8 => ?_⟩
            · (try clear j68); (try clear j63); (try clear j38); (try clear hk12); (try clear hk82); grind [q_zz, q_za, q_zga, q_fza, q_fx, q_fga, q_gza, q_gfa, q_gx, q_zf1, q_zg1, q_ff, q_fg1, q_gf1, q_gg, ti_link, in2, in200, in8]
            · refine ⟨fun c9 => ?_, fun c9 => ?_⟩
              · (try clear j68); (try clear j63); (try clear j38); (try clear hk12); (try clear hk82); grind [q_zz, q_za, q_zga, q_fza, q_fx, q_fga, q_gza, q_gfa, q_gx, q_zf1, q_zg1, q_ff, q_fg1, q_gf1, q_gg, ti_link, in2, in200, in8]
              · refine ⟨fun c10 => ?_, fun c10 => ?_⟩
                · (try clear j68); (try clear j63); (try clear j38); (try clear hk12); (try clear hk82); grind [q_zz, q_za, q_zga, q_fza, q_fx, q_fga, q_gza, q_gfa, q_gx, q_zf1, q_zg1, q_ff, q_fg1, q_gf1, q_gg, ti_link, in2, in200, in8]
                · refine ⟨fun c11 => ?_, fun c11 => ?_⟩
                  · (try clear j68); (try clear j63); (try clear j38); (try clear hk12); (try clear hk82); grind [q_zz, q_za, q_zga, q_fza, q_fx, q_fga, q_gza, q_gfa, q_gx, q_zf1, q_zg1, q_ff, q_fg1, q_gf1, q_gg, ti_link, in2, in200, in8]
                  · refine ⟨fun c12 => ?_, fun c12 => ?_⟩
                    · (try clear j68); (try clear j63); (try clear j38); (try clear hk12); (try clear hk82); grind [q_zz, q_za, q_zga, q_fza, q_fx, q_fga, q_gza, q_gfa, q_gx, q_zf1, q_zg1, q_ff, q_fg1, q_gf1, q_gg, ti_link, in2, in200, in8]
                    · refine ⟨fun c13 => ?_, fun c13 => ?_⟩
                      · (try clear j68); (try clear j63); (try clear j38); (try clear hk12); (try clear hk82); grind [q_zz, q_za, q_zga, q_fza, q_fx, q_fga, q_gza, q_gfa, q_gx, q_zf1, q_zg1, q_ff, q_fg1, q_gf1, q_gg, ti_link, in2, in200, in8]
                      · refine ⟨fun c14 => ?_, fun c14 => ?_⟩
                        · (try clear j68); (try clear j63); (try clear j38); (try clear hk12); (try clear hk82); grind [q_zz, q_za, q_zga, q_fza, q_fx, q_fga, q_gza, q_gfa, q_gx, q_zf1, q_zg1, q_ff, q_fg1, q_gf1, q_gg, ti_link, in2, in200, in8]
                        · refine ⟨fun c15 => ?_, fun c15 => ?_⟩
                          · (try clear j68); (try clear j63); (try clear j38); (try clear hk12); (try clear hk82); grind [q_zz, q_za, q_zga, q_fza, q_fx, q_fga, q_gza, q_gfa, q_gx, q_zf1, q_zg1, q_ff, q_fg1, q_gf1, q_gg, ti_link, in2, in200, in8]
                          · refine ⟨fun c16 => ?_, fun c16 => ?_⟩
                            · (try clear j68); (try clear j63); (try clear j38); (try clear hk12); (try clear hk82); grind [q_zz, q_za, q_zga, q_fza, q_fx, q_fga, q_gza, q_gfa, q_gx, q_zf1, q_zg1, q_ff, q_fg1, q_gf1, q_gg, ti_link, in2, in200, in8]
                            · (try clear j68); (try clear j63); (try clear j38); (try clear hk12); (try clear hk82); grind [q_zz, q_za, q_zga, q_fza, q_fx, q_fga, q_gza, q_gfa, q_gx, q_zf1, q_zg1, q_ff, q_fg1, q_gf1, q_gg, ti_link, in2, in200, in8]
    · refine ⟨by (try clear j68); (try clear j63); (try clear j38); (try clear hk12); (try clear hk82); grind [q_zz, q_za, q_zga, q_fza, q_fx, q_fga, q_gza, q_gfa, q_gx, q_zf1, q_zg1, q_ff, q_fg1, q_gf1, q_gg, ti_link, in2, in200, in8], ?_⟩
      intro z26 ez26
      intro z27 ez27
      intro z28 ez28
      exact hk82 _ (by (try clear j68); (try clear j63); (try clear j38); (try clear hk12); (try clear hk82); grind [q_zz, q_za, q_zga, q_fza, q_fx, q_fga, q_gza, q_gfa, q_gx, q_zf1, q_zg1, q_ff, q_fg1, q_gf1, q_gg, ti_link, in2, in200, in8]) (by (try clear j68); (try clear j63); (try clear j38); (try clear hk12); (try clear hk82); grind [q_zz, q_za, q_zga, q_fza, q_fx, q_fga, q_gza, q_gfa, q_gx, q_zf1, q_zg1, q_ff, q_fg1, q_gf1, q_gg, ti_link, in2, in200, in8])
  · refine ⟨by (try clear j68); (try clear j63); (try clear j38); (try clear hk12); (try clear hk82); grind [q_zz, q_za, q_zga, q_fza, q_fx, q_fga, q_gza, q_gfa, q_gx, q_zf1, q_zg1, q_ff, q_fg1, q_gf1, q_gg, ti_link, in2, in200, in8], ?_⟩
    intro z3 ez3
    refine ⟨fun c17 => ?_, fun c17 => ?_⟩
    · exact j38 _ _ _ _ _ _ (by (try clear j68); (try clear j63); (try clear j38); (try clear hk12); (try clear hk82); grind [q_zz, q_za, q_zga, q_fza, q_fx, q_fga, q_gza, q_gfa, q_gx, q_zf1, q_zg1, q_ff, q_fg1, q_gf1, q_gg, ti_link, in2, in200, in8])
    · exact j38 _ _ _ _ _ _ (by (try clear j68); (try clear j63); (try clear j38); (try clear hk12); (try clear hk82); grind [q_zz, q_za, q_zga, q_fza, q_fx, q_fga, q_gza, q_gfa, q_gx, q_zf1, q_zg1, q_ff, q_fg1, q_gf1, q_gg, ti_link, in2, in200, in8])
