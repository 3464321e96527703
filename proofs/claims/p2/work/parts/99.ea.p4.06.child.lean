
set_option maxHeartbeats 4000000 in
theorem sg_child {nx n : Nat} {so pl : Nat → Int32} {wo ws : Nat → Int64} {S0 : mS} {d : Nat} {G GA X Y : Int} {S : mS} (hL : LV d G GA X Y) (h : XI nx n so pl wo ws S0 d G GA X Y S) (hl : (S.1 4) = 0 → 4 * (S.1 11).toInt + 1 ≤ (S.1 3).toInt) : wp_child S (fun S1 => XI nx n so pl wo ws S0 d (G - 5) GA (X + 8) (Y + 1) S1 ∧ ((S1.1 4) = 0 → (S.1 4) = 0 ∧ (S.1 3).toInt < (S1.1 3).toInt)) := by
  unfold wp_child
  have j77 : ∀ (x1 : Int32) (x2 : Int32) (Sx : mS), (XI nx n so pl wo ws S0 d (G - 10) GA (X + 6) (Y + 1) Sx ∧ ((Sx.1 4) = 0 → (S.1 4) = 0 ∧ (S.1 3).toInt + 2 ≤ (Sx.1 3).toInt) ∧ (Sx.1 11) = (S.1 11) ∧ x1 = (S.1 3)) → wp_child_77 (fun S1 => XI nx n so pl wo ws S0 d (G - 5) GA (X + 8) (Y + 1) S1 ∧ ((S1.1 4) = 0 → (S.1 4) = 0 ∧ (S.1 3).toInt < (S1.1 3).toInt)) x1 x2 Sx := by
    intro x1 x2 Sx hJ77
    unfold wp_child_77
    refine fm_takeSign _ _ _ _ (fun S15 hF1 pS15 => ?_) (sg_takeSign (nx := nx) (n := n) (so := so) (pl := pl) (wo := wo) (ws := ws) _ (by (try clear j19); (try clear j77); (try clear hk58); grind [XI, PI, PJ, BU, LV, PL, ix_int, q_zz, q_za, q_zga, q_fza, q_fx, q_fga, q_gza, q_gfa, q_gx, q_zf1, q_zg1, q_ff, q_fg1, q_gf1, q_gg, ti_link, in1000]))
    have z6_S15 := hF1.1 6 (by decide)
    have z7_S15 := hF1.1 7 (by decide)
    have z8_S15 := hF1.1 8 (by decide)
    have z11_S15 := hF1.1 11 (by decide)
    have z12_S15 := hF1.1 12 (by decide)
    have z18_S15 := hF1.1 18 (by decide)
    have z19_S15 := hF1.1 19 (by decide)
    have f1_S15 := hF1.2.1 1 (by decide)
    have f2_S15 := hF1.2.1 2 (by decide)
    have f8_S15 := hF1.2.1 8 (by decide)
    have f46_S15 := hF1.2.1 46 (by decide)
    have f48_S15 := hF1.2.1 48 (by decide)
    have g3_S15 := hF1.2.2 3 (by decide)
    have g4_S15 := hF1.2.2 4 (by decide)
    clear hF1
    refine fm_emit _ _ _ _ _ _ (fun S16 r16 hF2 pS16 => ?_) (sg_emit _ _ _ (by (try clear j19); (try clear j77); (try clear hk58); grind [XI, PI, PJ, BU, LV, PL, ix_int, q_zz, q_za, q_zga, q_fza, q_fx, q_fga, q_gza, q_gfa, q_gx, q_zf1, q_zg1, q_ff, q_fg1, q_gf1, q_gg, ti_link, in1000]))
    have z3_S16 := hF2.1 3 (by decide)
    have z4_S16 := hF2.1 4 (by decide)
    have z6_S16 := hF2.1 6 (by decide)
    have z8_S16 := hF2.1 8 (by decide)
    have z11_S16 := hF2.1 11 (by decide)
    have z12_S16 := hF2.1 12 (by decide)
    have z18_S16 := hF2.1 18 (by decide)
    have z19_S16 := hF2.1 19 (by decide)
    have f1_S16 := hF2.2.1 1 (by decide)
    have f2_S16 := hF2.2.1 2 (by decide)
    have f8_S16 := hF2.2.1 8 (by decide)
    have f46_S16 := hF2.2.1 46 (by decide)
    have f48_S16 := hF2.2.1 48 (by decide)
    have g3_S16 := hF2.2.2 3 (by decide)
    have g4_S16 := hF2.2.2 4 (by decide)
    clear hF2
    refine ⟨fun c3 => ?_, fun c3 => ?_⟩
    · (try clear j19); (try clear j77); (try clear hk58); grind [XI, PI, PJ, BU, LV, PL, ix_int, q_zz, q_za, q_zga, q_fza, q_fx, q_fga, q_gza, q_gfa, q_gx, q_zf1, q_zg1, q_ff, q_fg1, q_gf1, q_gg, ti_link, in1000]
    · refine ⟨by (try clear j19); (try clear j77); (try clear hk58); grind [XI, PI, PJ, BU, LV, PL, ix_int, q_zz, q_za, q_zga, q_fza, q_fx, q_fga, q_gza, q_gfa, q_gx, q_zf1, q_zg1, q_ff, q_fg1, q_gf1, q_gg, ti_link, in1000], ?_⟩
      intro S18 eS18
      refine ⟨by (try clear j19); (try clear j77); (try clear hk58); grind [XI, PI, PJ, BU, LV, PL, ix_int, q_zz, q_za, q_zga, q_fza, q_fx, q_fga, q_gza, q_gfa, q_gx, q_zf1, q_zg1, q_ff, q_fg1, q_gf1, q_gg, ti_link, in1000], ?_⟩
      intro S19 eS19
      refine ⟨by (try clear j19); (try clear j77); (try clear hk58); grind [XI, PI, PJ, BU, LV, PL, ix_int, q_zz, q_za, q_zga, q_fza, q_fx, q_fga, q_gza, q_gfa, q_gx, q_zf1, q_zg1, q_ff, q_fg1, q_gf1, q_gg, ti_link, in1000], ?_⟩
      intro S20 eS20
      intro z21 ez21
      intro S22 eS22
      (try clear j19); (try clear j77); (try clear hk58); grind [XI, PI, PJ, BU, LV, PL, ix_int, q_zz, q_za, q_zga, q_fza, q_fx, q_fga, q_gza, q_gfa, q_gx, q_zf1, q_zg1, q_ff, q_fg1, q_gf1, q_gg, ti_link, in1000]
  have j19 : ∀ (Sx : mS), (XI nx n so pl wo ws S0 d G GA X Y Sx ∧ (Sx.1 11) = (S.1 11) ∧ (Sx.1 3) = (S.1 3) ∧ ((Sx.1 4) = 0 → (S.1 4) = 0 ∧ (S.1 3).toInt < n)) → wp_child_19 (fun S1 => XI nx n so pl wo ws S0 d (G - 5) GA (X + 8) (Y + 1) S1 ∧ ((S1.1 4) = 0 → (S.1 4) = 0 ∧ (S.1 3).toInt < (S1.1 3).toInt)) Sx := by
    intro Sx hJ19
    unfold wp_child_19
    intro z5 ez5
    intro S6 eS6
    refine fm_takeSign _ _ _ _ (fun S7 hF4 pS7 => ?_) (sg_takeSign (nx := nx) (n := n) (so := so) (pl := pl) (wo := wo) (ws := ws) _ (by (try clear j19); (try clear j77); (try clear hk58); grind [XI, PI, PJ, BU, LV, PL, ix_int, q_zz, q_za, q_zga, q_fza, q_fx, q_fga, q_gza, q_gfa, q_gx, q_zf1, q_zg1, q_ff, q_fg1, q_gf1, q_gg, ti_link, in1000]))
    have z6_S7 := hF4.1 6 (by decide)
    have z7_S7 := hF4.1 7 (by decide)
    have z8_S7 := hF4.1 8 (by decide)
    have z11_S7 := hF4.1 11 (by decide)
    have z12_S7 := hF4.1 12 (by decide)
    have z18_S7 := hF4.1 18 (by decide)
    have z19_S7 := hF4.1 19 (by decide)
    have f1_S7 := hF4.2.1 1 (by decide)
    have f2_S7 := hF4.2.1 2 (by decide)
    have f8_S7 := hF4.2.1 8 (by decide)
    have f46_S7 := hF4.2.1 46 (by decide)
    have f48_S7 := hF4.2.1 48 (by decide)
    have g3_S7 := hF4.2.2 3 (by decide)
    have g4_S7 := hF4.2.2 4 (by decide)
    clear hF4
    refine fm_isSign _ _ _ _ (fun S8 r8 hF5 pS8 => ?_) (sg_isSign (nx := nx) (n := n) (so := so) (pl := pl) (wo := wo) (ws := ws) _ (by (try clear j19); (try clear j77); (try clear hk58); grind [XI, PI, PJ, BU, LV, PL, ix_int, q_zz, q_za, q_zga, q_fza, q_fx, q_fga, q_gza, q_gfa, q_gx, q_zf1, q_zg1, q_ff, q_fg1, q_gf1, q_gg, ti_link, in1000]))
    have z3_S8 := hF5.1 3 (by decide)
    have z4_S8 := hF5.1 4 (by decide)
    have z6_S8 := hF5.1 6 (by decide)
    have z7_S8 := hF5.1 7 (by decide)
    have z8_S8 := hF5.1 8 (by decide)
    have z11_S8 := hF5.1 11 (by decide)
    have z12_S8 := hF5.1 12 (by decide)
    have z18_S8 := hF5.1 18 (by decide)
    have z19_S8 := hF5.1 19 (by decide)
    have f1_S8 := hF5.2.1 1 (by decide)
    have f2_S8 := hF5.2.1 2 (by decide)
    have f8_S8 := hF5.2.1 8 (by decide)
    have f46_S8 := hF5.2.1 46 (by decide)
    have f48_S8 := hF5.2.1 48 (by decide)
    have g3_S8 := hF5.2.2 3 (by decide)
    have g4_S8 := hF5.2.2 4 (by decide)
    clear hF5
    refine ⟨fun c6 => ?_, fun c6 => ?_⟩
    · exact j77 _ _ _ (by (try clear j19); (try clear j77); (try clear hk58); grind [XI, PI, PJ, BU, LV, PL, ix_int, q_zz, q_za, q_zga, q_fza, q_fx, q_fga, q_gza, q_gfa, q_gx, q_zf1, q_zg1, q_ff, q_fg1, q_gf1, q_gg, ti_link, in1000])
    · refine fq_expression _ _ _ (fun S10 hF7 pS10 => ?_) (sq_expression (nx := nx) (n := n) (so := so) (pl := pl) (wo := wo) (ws := ws) (S0 := S0) (d := d) (G := (G - 10)) (GA := GA) (X := X) (Y := Y) (by (try clear j19); (try clear j77); (try clear hk58); grind [XI, PI, PJ, BU, LV, PL, ix_int, q_zz, q_za, q_zga, q_fza, q_fx, q_fga, q_gza, q_gfa, q_gx, q_zf1, q_zg1, q_ff, q_fg1, q_gf1, q_gg, ti_link, in1000]) (by (try clear j19); (try clear j77); (try clear hk58); grind [XI, PI, PJ, BU, LV, PL, ix_int, q_zz, q_za, q_zga, q_fza, q_fx, q_fga, q_gza, q_gfa, q_gx, q_zf1, q_zg1, q_ff, q_fg1, q_gf1, q_gg, ti_link, in1000]))
      have z6_S10 := hF7.1 6 (by decide)
      have z11_S10 := hF7.1 11 (by decide)
      have z12_S10 := hF7.1 12 (by decide)
      have f1_S10 := hF7.2.1 1 (by decide)
      have f2_S10 := hF7.2.1 2 (by decide)
      have f46_S10 := hF7.2.1 46 (by decide)
      have f48_S10 := hF7.2.1 48 (by decide)
      have g3_S10 := hF7.2.2 3 (by decide)
      have g4_S10 := hF7.2.2 4 (by decide)
      clear hF7
      refine it_rule (fun u : Int32 × Int32 × mS => XI nx n so pl wo ws S0 d (G - 10) GA (X + 6) (Y + 1) u.2.2 ∧ ((u.2.2.1 4) = 0 → (S.1 4) = 0 ∧ (S.1 3).toInt + 3 ≤ (u.2.2.1 3).toInt) ∧ (u.2.2.1 11) = (S.1 11) ∧ u.1 = (S.1 3)) (fun u => (if (u.2.2.1 4) = 0 then (n : Int) - (u.2.2.1 3).toInt + 1 else 0).toNat) ?_ (by (try clear j19); (try clear j77); (try clear hk58); grind [XI, PI, PJ, BU, LV, PL, ix_int, q_zz, q_za, q_zga, q_fza, q_fx, q_fga, q_gza, q_gfa, q_gx, q_zf1, q_zg1, q_ff, q_fg1, q_gf1, q_gg, ti_link, in1000])
      rintro ⟨x1, x2, Sl58⟩ k58 hI58 hk58
      replace hI58 : XI nx n so pl wo ws S0 d (G - 10) GA (X + 6) (Y + 1) Sl58 ∧ ((Sl58.1 4) = 0 → (S.1 4) = 0 ∧ (S.1 3).toInt + 3 ≤ (Sl58.1 3).toInt) ∧ (Sl58.1 11) = (S.1 11) ∧ x1 = (S.1 3) := hI58
      replace hk58 : ∀ v : Int32 × Int32 × mS, XI nx n so pl wo ws S0 d (G - 10) GA (X + 6) (Y + 1) v.2.2 ∧ ((v.2.2.1 4) = 0 → (S.1 4) = 0 ∧ (S.1 3).toInt + 3 ≤ (v.2.2.1 3).toInt) ∧ (v.2.2.1 11) = (S.1 11) ∧ v.1 = (S.1 3) → (if (v.2.2.1 4) = 0 then (n : Int) - (v.2.2.1 3).toInt + 1 else 0).toNat < (if (Sl58.1 4) = 0 then (n : Int) - (Sl58.1 3).toInt + 1 else 0).toNat → k58 v := hk58
      show wp_child_58 _ k58 x1 x2 Sl58
      unfold wp_child_58
      refine fm_hasSign _ _ _ _ (fun S11 r11 hF8 pS11 => ?_) (sg_hasSign (nx := nx) (n := n) (so := so) (pl := pl) (wo := wo) (ws := ws) _ (by (try clear j19); (try clear j77); (try clear hk58); grind [XI, PI, PJ, BU, LV, PL, ix_int, q_zz, q_za, q_zga, q_fza, q_fx, q_fga, q_gza, q_gfa, q_gx, q_zf1, q_zg1, q_ff, q_fg1, q_gf1, q_gg, ti_link, in1000]))
      have z4_S11 := hF8.1 4 (by decide)
      have z6_S11 := hF8.1 6 (by decide)
      have z7_S11 := hF8.1 7 (by decide)
      have z8_S11 := hF8.1 8 (by decide)
      have z11_S11 := hF8.1 11 (by decide)
      have z12_S11 := hF8.1 12 (by decide)
      have z18_S11 := hF8.1 18 (by decide)
      have z19_S11 := hF8.1 19 (by decide)
      have f1_S11 := hF8.2.1 1 (by decide)
      have f2_S11 := hF8.2.1 2 (by decide)
      have f8_S11 := hF8.2.1 8 (by decide)
      have f46_S11 := hF8.2.1 46 (by decide)
      have f48_S11 := hF8.2.1 48 (by decide)
      have g3_S11 := hF8.2.2 3 (by decide)
      have g4_S11 := hF8.2.2 4 (by decide)
      clear hF8
      refine ⟨fun c9 => ?_, fun c9 => ?_⟩
      · exact j77 _ _ _ (by (try clear j19); (try clear j77); (try clear hk58); grind [XI, PI, PJ, BU, LV, PL, ix_int, q_zz, q_za, q_zga, q_fza, q_fx, q_fga, q_gza, q_gfa, q_gx, q_zf1, q_zg1, q_ff, q_fg1, q_gf1, q_gg, ti_link, in1000])
      · refine fq_expression _ _ _ (fun S13 hF10 pS13 => ?_) (sq_expression (nx := nx) (n := n) (so := so) (pl := pl) (wo := wo) (ws := ws) (S0 := S0) (d := d) (G := (G - 15)) (GA := GA) (X := X) (Y := Y) (by (try clear j19); (try clear j77); (try clear hk58); grind [XI, PI, PJ, BU, LV, PL, ix_int, q_zz, q_za, q_zga, q_fza, q_fx, q_fga, q_gza, q_gfa, q_gx, q_zf1, q_zg1, q_ff, q_fg1, q_gf1, q_gg, ti_link, in1000]) (by (try clear j19); (try clear j77); (try clear hk58); grind [XI, PI, PJ, BU, LV, PL, ix_int, q_zz, q_za, q_zga, q_fza, q_fx, q_fga, q_gza, q_gfa, q_gx, q_zf1, q_zg1, q_ff, q_fg1, q_gf1, q_gg, ti_link, in1000]))
        have z6_S13 := hF10.1 6 (by decide)
        have z11_S13 := hF10.1 11 (by decide)
        have z12_S13 := hF10.1 12 (by decide)
        have f1_S13 := hF10.2.1 1 (by decide)
        have f2_S13 := hF10.2.1 2 (by decide)
        have f46_S13 := hF10.2.1 46 (by decide)
        have f48_S13 := hF10.2.1 48 (by decide)
        have g3_S13 := hF10.2.2 3 (by decide)
        have g4_S13 := hF10.2.2 4 (by decide)
        clear hF10
        intro z14 ez14
        exact hk58 _ (by (try clear j19); (try clear j77); (try clear hk58); grind [XI, PI, PJ, BU, LV, PL, ix_int, q_zz, q_za, q_zga, q_fza, q_fx, q_fga, q_gza, q_gfa, q_gx, q_zf1, q_zg1, q_ff, q_fg1, q_gf1, q_gg, ti_link, in1000]) (by (try clear j19); (try clear j77); (try clear hk58); grind [XI, PI, PJ, BU, LV, PL, ix_int, q_zz, q_za, q_zga, q_fza, q_fx, q_fga, q_gza, q_gfa, q_gx, q_zf1, q_zg1, q_ff, q_fg1, q_gf1, q_gg, ti_link, in1000])
  refine ⟨fun c11 => ?_, fun c11 => ?_⟩
  · exact j19 _ (by (try clear j19); (try clear j77); (try clear hk58); grind [XI, PI, PJ, BU, LV, PL, ix_int, q_zz, q_za, q_zga, q_fza, q_fx, q_fga, q_gza, q_gfa, q_gx, q_zf1, q_zg1, q_ff, q_fg1, q_gf1, q_gg, ti_link, in1000])
  · refine fm_isName _ _ _ (fun S2 r2 hF12 pS2 => ?_) (sg_isName (nx := nx) (n := n) (so := so) (pl := pl) (wo := wo) (ws := ws) (by (try clear j19); (try clear j77); (try clear hk58); grind [XI, PI, PJ, BU, LV, PL, ix_int, q_zz, q_za, q_zga, q_fza, q_fx, q_fga, q_gza, q_gfa, q_gx, q_zf1, q_zg1, q_ff, q_fg1, q_gf1, q_gg, ti_link, in1000]))
    have z3_S2 := hF12.1 3 (by decide)
    have z4_S2 := hF12.1 4 (by decide)
    have z6_S2 := hF12.1 6 (by decide)
    have z7_S2 := hF12.1 7 (by decide)
    have z8_S2 := hF12.1 8 (by decide)
    have z11_S2 := hF12.1 11 (by decide)
    have z12_S2 := hF12.1 12 (by decide)
    have z18_S2 := hF12.1 18 (by decide)
    have z19_S2 := hF12.1 19 (by decide)
    have f1_S2 := hF12.2.1 1 (by decide)
    have f2_S2 := hF12.2.1 2 (by decide)
    have f8_S2 := hF12.2.1 8 (by decide)
    have f46_S2 := hF12.2.1 46 (by decide)
    have f48_S2 := hF12.2.1 48 (by decide)
    have g3_S2 := hF12.2.2 3 (by decide)
    have g4_S2 := hF12.2.2 4 (by decide)
    clear hF12
    refine ⟨fun c13 => ?_, fun c13 => ?_⟩
    · exact j19 _ (by (try clear j19); (try clear j77); (try clear hk58); grind [XI, PI, PJ, BU, LV, PL, ix_int, q_zz, q_za, q_zga, q_fza, q_fx, q_fga, q_gza, q_gfa, q_gx, q_zf1, q_zg1, q_ff, q_fg1, q_gf1, q_gg, ti_link, in1000])
    · refine fm_wrong _ _ _ _ (fun S4 hF14 pS4 => ?_) (sg_wrong (nx := nx) (n := n) (so := so) (pl := pl) (wo := wo) (ws := ws) _ (by (try clear j19); (try clear j77); (try clear hk58); grind [XI, PI, PJ, BU, LV, PL, ix_int, q_zz, q_za, q_zga, q_fza, q_fx, q_fga, q_gza, q_gfa, q_gx, q_zf1, q_zg1, q_ff, q_fg1, q_gf1, q_gg, ti_link, in1000]) (by (try clear j19); (try clear j77); (try clear hk58); grind [XI, PI, PJ, BU, LV, PL, ix_int, q_zz, q_za, q_zga, q_fza, q_fx, q_fga, q_gza, q_gfa, q_gx, q_zf1, q_zg1, q_ff, q_fg1, q_gf1, q_gg, ti_link, in1000]))
      have z3_S4 := hF14.1 3 (by decide)
      have z6_S4 := hF14.1 6 (by decide)
      have z7_S4 := hF14.1 7 (by decide)
      have z8_S4 := hF14.1 8 (by decide)
      have z11_S4 := hF14.1 11 (by decide)
      have z12_S4 := hF14.1 12 (by decide)
      have z18_S4 := hF14.1 18 (by decide)
      have z19_S4 := hF14.1 19 (by decide)
      have f1_S4 := hF14.2.1 1 (by decide)
      have f2_S4 := hF14.2.1 2 (by decide)
      have f8_S4 := hF14.2.1 8 (by decide)
      have f46_S4 := hF14.2.1 46 (by decide)
      have f48_S4 := hF14.2.1 48 (by decide)
      have g3_S4 := hF14.2.2 3 (by decide)
      have g4_S4 := hF14.2.2 4 (by decide)
      clear hF14
      exact j19 _ (by (try clear j19); (try clear j77); (try clear hk58); grind [XI, PI, PJ, BU, LV, PL, ix_int, q_zz, q_za, q_zga, q_fza, q_fx, q_fga, q_gza, q_gfa, q_gx, q_zf1, q_zg1, q_ff, q_fg1, q_gf1, q_gg, ti_link, in1000])
