
set_option maxHeartbeats 4000000 in
theorem sg_cell (a0 : Int32) (a1 : Int32) {S : mS} (ht : 0 ≤ (S.1 22).toInt ∧ (S.1 22).toInt ≤ 200) (hn : 0 ≤ (S.1 5).toInt ∧ (S.1 5).toInt ≤ 1) (hr : ROF (S.1 22).toInt 12 ((S.2.1 51))) (hc : CE ((S.2.1 8))) : wp_cell a0 a1 S (fun S1 r => True) := by
  unfold wp_cell
  have j41 : ∀ (x1 : Int32) (x2 : Int32) (y1 : Int32) (Sx : mS), (Sx = S ∧ x1 = a0 ∧ x2 = a1 ∧ (y1 = 1 ∨ (y1 = 0 ∧ 0 ≤ a0.toInt ∧ a0.toInt < (S.1 22).toInt ∧ 0 ≤ a1.toInt ∧ a1.toInt < 12))) → wp_cell_41 (fun S1 r => True) x1 x2 y1 Sx := by
    intro x1 x2 y1 Sx hJ41
    unfold wp_cell_41
    intro S9 eS9
    refine ⟨fun c1 => ?_, fun c1 => ?_⟩
    · intro z11 ez11
      intro z12 ez12
      refine ⟨by (try clear j41); (try clear j40); grind [q_zz, q_za, q_zga, q_fza, q_fx, q_fga, q_gza, q_gfa, q_gx, q_zf1, q_zg1, q_ff, q_fg1, q_gf1, q_gg, ti_link, in200, in24, in2400], ?_⟩
      intro z13 ez13
      (try clear j41); (try clear j40); grind [q_zz, q_za, q_zga, q_fza, q_fx, q_fga, q_gza, q_gfa, q_gx, q_zf1, q_zg1, q_ff, q_fg1, q_gf1, q_gg, ti_link, in200, in24, in2400]
    · (try clear j41); (try clear j40); grind [q_zz, q_za, q_zga, q_fza, q_fx, q_fga, q_gza, q_gfa, q_gx, q_zf1, q_zg1, q_ff, q_fg1, q_gf1, q_gg, ti_link, in200, in24, in2400]
  have j40 : ∀ (x1 : Int32) (x2 : Int32) (Sx : mS), (Sx = S ∧ x1 = a0 ∧ x2 = a1) → wp_cell_40 (fun S1 r => True) x1 x2 Sx := by
    intro x1 x2 Sx hJ40
    unfold wp_cell_40
    exact j41 _ _ _ _ (by (try clear j41); (try clear j40); grind [q_zz, q_za, q_zga, q_fza, q_fx, q_fga, q_gza, q_gfa, q_gx, q_zf1, q_zg1, q_ff, q_fg1, q_gf1, q_gg, ti_link, in200, in24, in2400])
  refine fm_isTask _ _ _ _ (fun S1 r1 hF2 pS1 => ?_) (sg_isTask _)
  have z5_S1 := hF2.1 5 (by decide)
  have z22_S1 := hF2.1 22 (by decide)
  clear hF2
  refine ⟨fun c3 => ?_, fun c3 => ?_⟩
  · exact j40 _ _ _ (by (try clear j41); (try clear j40); grind [q_zz, q_za, q_zga, q_fza, q_fx, q_fga, q_gza, q_gfa, q_gx, q_zf1, q_zg1, q_ff, q_fg1, q_gf1, q_gg, ti_link, in200, in24, in2400])
  · refine ⟨fun c4 => ?_, fun c4 => ?_⟩
    · exact j40 _ _ _ (by (try clear j41); (try clear j40); grind [q_zz, q_za, q_zga, q_fza, q_fx, q_fga, q_gza, q_gfa, q_gx, q_zf1, q_zg1, q_ff, q_fg1, q_gf1, q_gg, ti_link, in200, in24, in2400])
    · intro z4 ez4
      refine ⟨by (try clear j41); (try clear j40); grind [q_zz, q_za, q_zga, q_fza, q_fx, q_fga, q_gza, q_gfa, q_gx, q_zf1, q_zg1, q_ff, q_fg1, q_gf1, q_gg, ti_link, in200, in24, in2400], ?_⟩
      intro z5 ez5
      have  q5 : 0 ≤ z5.toInt ∧ z5.toInt < 12 := by
            rw [ez5]
            exact ROF_in (tk := (S.1 22).toInt) (by (try clear j41); (try clear j40); grind [q_zz, q_za, q_zga, q_fza, q_fx, q_fga, q_gza, q_gfa, q_gx, q_zf1, q_zg1, q_ff, q_fg1, q_gf1, q_gg, ti_link, in200, in24, in2400]) (by (try clear j41); (try clear j40); grind [q_zz, q_za, q_zga, q_fza, q_fx, q_fga, q_gza, q_gfa, q_gx, q_zf1, q_zg1, q_ff, q_fg1, q_gf1, q_gg, ti_link, in200, in24, in2400]) (by (try clear j41); (try clear j40); grind [q_zz, q_za, q_zga, q_fza, q_fx, q_fga, q_gza, q_gfa, q_gx, q_zf1, q_zg1, q_ff, q_fg1, q_gf1, q_gg, ti_link, in200, in24, in2400])
      intro z6 ez6
      refine ⟨by (try clear j41); (try clear j40); grind [q_zz, q_za, q_zga, q_fza, q_fx, q_fga, q_gza, q_gfa, q_gx, q_zf1, q_zg1, q_ff, q_fg1, q_gf1, q_gg, ti_link, in200, in24, in2400], ?_⟩
      intro z7 ez7
      have  q7 : 0 ≤ z7.toInt ∧ z7.toInt ≤ 12 := by
            rw [ez7]
            exact CE_in (by (try clear j41); (try clear j40); grind [q_zz, q_za, q_zga, q_fza, q_fx, q_fga, q_gza, q_gfa, q_gx, q_zf1, q_zg1, q_ff, q_fg1, q_gf1, q_gg, ti_link, in200, in24, in2400]) (by (try clear j41); (try clear j40); grind [q_zz, q_za, q_zga, q_fza, q_fx, q_fga, q_gza, q_gfa, q_gx, q_zf1, q_zg1, q_ff, q_fg1, q_gf1, q_gg, ti_link, in200, in24, in2400]) (by (try clear j41); (try clear j40); grind [q_zz, q_za, q_zga, q_fza, q_fx, q_fga, q_gza, q_gfa, q_gx, q_zf1, q_zg1, q_ff, q_fg1, q_gf1, q_gg, ti_link, in200, in24, in2400])
      refine ⟨fun c5 => ?_, fun c5 => ?_⟩
      · exact j40 _ _ _ (by (try clear j41); (try clear j40); grind [q_zz, q_za, q_zga, q_fza, q_fx, q_fga, q_gza, q_gfa, q_gx, q_zf1, q_zg1, q_ff, q_fg1, q_gf1, q_gg, ti_link, in200, in24, in2400])
      · exact j41 _ _ _ _ (by (try clear j41); (try clear j40); grind [q_zz, q_za, q_zga, q_fza, q_fx, q_fga, q_gza, q_gfa, q_gx, q_zf1, q_zg1, q_ff, q_fg1, q_gf1, q_gg, ti_link, in200, in24, in2400])
