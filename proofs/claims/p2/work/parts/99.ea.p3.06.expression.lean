
set_option maxHeartbeats 4000000 in
theorem sg_expression {nx n : Nat} {so pl : Nat → Int32} {wo ws : Nat → Int64} {S0 : mS} {D d : Nat} {G GA X Y : Int} {r_part : mS → (mS → Prop) → Prop} (hf_part : FmV [3, 4, 7, 8, 18, 19] [8, 12, 13, 14, 15, 16, 17, 18, 19, 20, 21] [9] (r_part)) (hr_part : ∀ (d : Nat) (G GA X Y : Int) (S : mS), D ≤ d → LV d G GA X Y → XI nx n so pl wo ws S0 d G GA X Y S → r_part S (fun S1 => XI nx n so pl wo ws S0 d (G - 1) GA X Y S1 ∧ ((S1.1 4) = 0 → (S.1 4) = 0 ∧ (S.1 3).toInt < (S1.1 3).toInt))) {S : mS} (hL : LV d G GA X Y) (h : XI nx n so pl wo ws S0 d G GA X Y S) (hD : D ≤ d) : wp_expression r_part S (fun S1 => XI nx n so pl wo ws S0 d (G - 1) GA (X + 6) (Y + 1) S1 ∧ ((S1.1 4) = 0 → (S.1 4) = 0 ∧ (S.1 3).toInt < (S1.1 3).toInt)) := by
  unfold wp_expression
  have j24 : ∀ (x1 : Int32) (Sx : mS), (XI nx n so pl wo ws S0 d (G - 1) GA (X + 4) (Y + 1) Sx ∧ ((Sx.1 4) = 0 → (S.1 4) = 0 ∧ (S.1 3).toInt < (Sx.1 3).toInt) ∧ (Sx.1 4) = 0 ∧ (Sx.1 3).toInt < n) → wp_expression_24 r_part (fun S1 => XI nx n so pl wo ws S0 d (G - 1) GA (X + 6) (Y + 1) S1 ∧ ((S1.1 4) = 0 → (S.1 4) = 0 ∧ (S.1 3).toInt < (S1.1 3).toInt)) x1 Sx := by
    intro x1 Sx hJ24
    unfold wp_expression_24
    intro z6 ez6
    intro S7 eS7
    refine fm_sum hf_part _ _ _ (fun S8 hF1 pS8 => ?_) (sg_sum hf_part hr_part (nx := nx) (n := n) (so := so) (pl := pl) (wo := wo) (ws := ws) (S0 := S0) (d := d) (G := (G - 6)) (GA := GA) (X := X) (Y := Y) (D := D) (by (try clear j24); (try clear hr_part); (try clear hf_part); grind [XI, PI, PJ, BU, LV, q_zz, q_za, q_zga, q_fza, q_fx, q_fga, q_gza, q_gfa, q_gx, q_zf1, q_zg1, q_ff, q_fg1, q_gf1, q_gg, ti_link]) (by (try clear j24); (try clear hr_part); (try clear hf_part); grind [XI, PI, PJ, BU, LV, q_zz, q_za, q_zga, q_fza, q_fx, q_fga, q_gza, q_gfa, q_gx, q_zf1, q_zg1, q_ff, q_fg1, q_gf1, q_gg, ti_link]) (by (try clear j24); (try clear hr_part); (try clear hf_part); grind [XI, PI, PJ, BU, LV, q_zz, q_za, q_zga, q_fza, q_fx, q_fga, q_gza, q_gfa, q_gx, q_zf1, q_zg1, q_ff, q_fg1, q_gf1, q_gg, ti_link]))
    have z6_S8 := hF1.1 6 (by decide)
    have z11_S8 := hF1.1 11 (by decide)
    have z12_S8 := hF1.1 12 (by decide)
    have f1_S8 := hF1.2.1 1 (by decide)
    have f2_S8 := hF1.2.1 2 (by decide)
    have f46_S8 := hF1.2.1 46 (by decide)
    have f48_S8 := hF1.2.1 48 (by decide)
    have g3_S8 := hF1.2.2 3 (by decide)
    have g4_S8 := hF1.2.2 4 (by decide)
    clear hF1
    refine ⟨fun c2 => ?_, fun c2 => ?_⟩
    · unfold wp_expression_50
      refine fm_emit _ _ _ _ _ _ (fun S10 r10 hF3 pS10 => ?_) (sg_emit _ _ _ (by (try clear j24); (try clear hr_part); (try clear hf_part); grind [XI, PI, PJ, BU, LV, q_zz, q_za, q_zga, q_fza, q_fx, q_fga, q_gza, q_gfa, q_gx, q_zf1, q_zg1, q_ff, q_fg1, q_gf1, q_gg, ti_link]))
      have z3_S10 := hF3.1 3 (by decide)
      have z4_S10 := hF3.1 4 (by decide)
      have z6_S10 := hF3.1 6 (by decide)
      have z8_S10 := hF3.1 8 (by decide)
      have z11_S10 := hF3.1 11 (by decide)
      have z12_S10 := hF3.1 12 (by decide)
      have z18_S10 := hF3.1 18 (by decide)
      have z19_S10 := hF3.1 19 (by decide)
      have f1_S10 := hF3.2.1 1 (by decide)
      have f2_S10 := hF3.2.1 2 (by decide)
      have f8_S10 := hF3.2.1 8 (by decide)
      have f46_S10 := hF3.2.1 46 (by decide)
      have f48_S10 := hF3.2.1 48 (by decide)
      have g3_S10 := hF3.2.2 3 (by decide)
      have g4_S10 := hF3.2.2 4 (by decide)
      clear hF3
      (try clear j24); (try clear hr_part); (try clear hf_part); grind [XI, PI, PJ, BU, LV, q_zz, q_za, q_zga, q_fza, q_fx, q_fga, q_gza, q_gfa, q_gx, q_zf1, q_zg1, q_ff, q_fg1, q_gf1, q_gg, ti_link]
    · unfold wp_expression_50
      refine fm_emit _ _ _ _ _ _ (fun S10 r10 hF4 pS10 => ?_) (sg_emit _ _ _ (by (try clear j24); (try clear hr_part); (try clear hf_part); grind [XI, PI, PJ, BU, LV, q_zz, q_za, q_zga, q_fza, q_fx, q_fga, q_gza, q_gfa, q_gx, q_zf1, q_zg1, q_ff, q_fg1, q_gf1, q_gg, ti_link]))
      have z3_S10 := hF4.1 3 (by decide)
      have z4_S10 := hF4.1 4 (by decide)
      have z6_S10 := hF4.1 6 (by decide)
      have z8_S10 := hF4.1 8 (by decide)
      have z11_S10 := hF4.1 11 (by decide)
      have z12_S10 := hF4.1 12 (by decide)
      have z18_S10 := hF4.1 18 (by decide)
      have z19_S10 := hF4.1 19 (by decide)
      have f1_S10 := hF4.2.1 1 (by decide)
      have f2_S10 := hF4.2.1 2 (by decide)
      have f8_S10 := hF4.2.1 8 (by decide)
      have f46_S10 := hF4.2.1 46 (by decide)
      have f48_S10 := hF4.2.1 48 (by decide)
      have g3_S10 := hF4.2.2 3 (by decide)
      have g4_S10 := hF4.2.2 4 (by decide)
      clear hF4
      (try clear j24); (try clear hr_part); (try clear hf_part); grind [XI, PI, PJ, BU, LV, q_zz, q_za, q_zga, q_fza, q_fx, q_fga, q_gza, q_gfa, q_gx, q_zf1, q_zg1, q_ff, q_fg1, q_gf1, q_gg, ti_link]
  refine fm_sum hf_part _ _ _ (fun S1 hF5 pS1 => ?_) (sg_sum hf_part hr_part (nx := nx) (n := n) (so := so) (pl := pl) (wo := wo) (ws := ws) (S0 := S0) (d := d) (G := G) (GA := GA) (X := X) (Y := Y) (D := D) (by (try clear j24); (try clear hr_part); (try clear hf_part); grind [XI, PI, PJ, BU, LV, q_zz, q_za, q_zga, q_fza, q_fx, q_fga, q_gza, q_gfa, q_gx, q_zf1, q_zg1, q_ff, q_fg1, q_gf1, q_gg, ti_link]) (by (try clear j24); (try clear hr_part); (try clear hf_part); grind [XI, PI, PJ, BU, LV, q_zz, q_za, q_zga, q_fza, q_fx, q_fga, q_gza, q_gfa, q_gx, q_zf1, q_zg1, q_ff, q_fg1, q_gf1, q_gg, ti_link]) (by (try clear j24); (try clear hr_part); (try clear hf_part); grind [XI, PI, PJ, BU, LV, q_zz, q_za, q_zga, q_fza, q_fx, q_fga, q_gza, q_gfa, q_gx, q_zf1, q_zg1, q_ff, q_fg1, q_gf1, q_gg, ti_link]))
  have z6_S1 := hF5.1 6 (by decide)
  have z11_S1 := hF5.1 11 (by decide)
  have z12_S1 := hF5.1 12 (by decide)
  have f1_S1 := hF5.2.1 1 (by decide)
  have f2_S1 := hF5.2.1 2 (by decide)
  have f46_S1 := hF5.2.1 46 (by decide)
  have f48_S1 := hF5.2.1 48 (by decide)
  have g3_S1 := hF5.2.2 3 (by decide)
  have g4_S1 := hF5.2.2 4 (by decide)
  clear hF5
  refine fm_isSign _ _ _ _ (fun S2 r2 hF6 pS2 => ?_) (sg_isSign (nx := nx) (n := n) (so := so) (pl := pl) (wo := wo) (ws := ws) _ (by (try clear j24); (try clear hr_part); (try clear hf_part); grind [XI, PI, PJ, BU, LV, q_zz, q_za, q_zga, q_fza, q_fx, q_fga, q_gza, q_gfa, q_gx, q_zf1, q_zg1, q_ff, q_fg1, q_gf1, q_gg, ti_link]))
  have z3_S2 := hF6.1 3 (by decide)
  have z4_S2 := hF6.1 4 (by decide)
  have z6_S2 := hF6.1 6 (by decide)
  have z7_S2 := hF6.1 7 (by decide)
  have z8_S2 := hF6.1 8 (by decide)
  have z11_S2 := hF6.1 11 (by decide)
  have z12_S2 := hF6.1 12 (by decide)
  have z18_S2 := hF6.1 18 (by decide)
  have z19_S2 := hF6.1 19 (by decide)
  have f1_S2 := hF6.2.1 1 (by decide)
  have f2_S2 := hF6.2.1 2 (by decide)
  have f8_S2 := hF6.2.1 8 (by decide)
  have f46_S2 := hF6.2.1 46 (by decide)
  have f48_S2 := hF6.2.1 48 (by decide)
  have g3_S2 := hF6.2.2 3 (by decide)
  have g4_S2 := hF6.2.2 4 (by decide)
  clear hF6
  refine ⟨fun c7 => ?_, fun c7 => ?_⟩
  · exact j24 _ _ (by (try clear j24); (try clear hr_part); (try clear hf_part); grind [XI, PI, PJ, BU, LV, q_zz, q_za, q_zga, q_fza, q_fx, q_fga, q_gza, q_gfa, q_gx, q_zf1, q_zg1, q_ff, q_fg1, q_gf1, q_gg, ti_link])
  · refine fm_isSign _ _ _ _ (fun S4 r4 hF8 pS4 => ?_) (sg_isSign (nx := nx) (n := n) (so := so) (pl := pl) (wo := wo) (ws := ws) _ (by (try clear j24); (try clear hr_part); (try clear hf_part); grind [XI, PI, PJ, BU, LV, q_zz, q_za, q_zga, q_fza, q_fx, q_fga, q_gza, q_gfa, q_gx, q_zf1, q_zg1, q_ff, q_fg1, q_gf1, q_gg, ti_link]))
    have z3_S4 := hF8.1 3 (by decide)
    have z4_S4 := hF8.1 4 (by decide)
    have z6_S4 := hF8.1 6 (by decide)
    have z7_S4 := hF8.1 7 (by decide)
    have z8_S4 := hF8.1 8 (by decide)
    have z11_S4 := hF8.1 11 (by decide)
    have z12_S4 := hF8.1 12 (by decide)
    have z18_S4 := hF8.1 18 (by decide)
    have z19_S4 := hF8.1 19 (by decide)
    have f1_S4 := hF8.2.1 1 (by decide)
    have f2_S4 := hF8.2.1 2 (by decide)
    have f8_S4 := hF8.2.1 8 (by decide)
    have f46_S4 := hF8.2.1 46 (by decide)
    have f48_S4 := hF8.2.1 48 (by decide)
    have g3_S4 := hF8.2.2 3 (by decide)
    have g4_S4 := hF8.2.2 4 (by decide)
    clear hF8
    refine ⟨fun c9 => ?_, fun c9 => ?_⟩
    · (try clear j24); (try clear hr_part); (try clear hf_part); grind [XI, PI, PJ, BU, LV, q_zz, q_za, q_zga, q_fza, q_fx, q_fga, q_gza, q_gfa, q_gx, q_zf1, q_zg1, q_ff, q_fg1, q_gf1, q_gg, ti_link]
    · exact j24 _ _ (by (try clear j24); (try clear hr_part); (try clear hf_part); grind [XI, PI, PJ, BU, LV, q_zz, q_za, q_zga, q_fza, q_fx, q_fga, q_gza, q_gfa, q_gx, q_zf1, q_zg1, q_ff, q_fg1, q_gf1, q_gg, ti_link])
