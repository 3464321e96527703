
set_option maxHeartbeats 4000000 in
theorem sg_product {r_part : mS → (mS → Prop) → Prop} (hf_part : FmV [3, 4, 7, 8, 18, 19] [8, 12, 13, 14, 15, 16, 17, 18, 19, 20, 21] [9] (r_part)) (hr_part : ∀ (d : Nat) (G GA X Y : Int) (S : mS), D ≤ d → LV d G GA X Y → XI nx n so pl wo ws S0 d G GA X Y S → r_part S (fun S1 => XI nx n so pl wo ws S0 d (G - 1) GA X Y S1 ∧ ((S1.1 4) = 0 → (S.1 4) = 0 ∧ (S.1 3).toInt < (S1.1 3).toInt))) {nx n : Nat} {so pl : Nat → Int32} {wo ws : Nat → Int64} {S0 : mS} {D d : Nat} {G GA X Y : Int} {S : mS} (hL : LV d G GA X Y) (h : XI nx n so pl wo ws S0 d G GA X Y S) (hD : D ≤ d) : wp_product r_part S (fun S1 => XI nx n so pl wo ws S0 d (G - 1) GA (X + 2) (Y + 1) S1 ∧ ((S1.1 4) = 0 → (S.1 4) = 0 ∧ (S.1 3).toInt < (S1.1 3).toInt)) := by
  unfold wp_product
  refine hf_part _ _ _ (fun S1 hF1 pS1 => ?_) (hr_part d G GA X Y _ (by grind [XI, PI, PJ, BU, LV, LG, ix_int, q_zz, q_za, q_zga, q_fza, q_fx, q_fga, q_gza, q_gfa, q_gx, ti_link]) (by grind [XI, PI, PJ, BU, LV, LG, ix_int, q_zz, q_za, q_zga, q_fza, q_fx, q_fga, q_gza, q_gfa, q_gx, ti_link]) (by grind [XI, PI, PJ, BU, LV, LG, ix_int, q_zz, q_za, q_zga, q_fza, q_fx, q_fga, q_gza, q_gfa, q_gx, ti_link]))
  have z6_S1 := hF1.1 6 (by decide)
  have z11_S1 := hF1.1 11 (by decide)
  have z12_S1 := hF1.1 12 (by decide)
  have f1_S1 := Fr_fa hF1 1 (by decide)
  have f2_S1 := Fr_fa hF1 2 (by decide)
  have f46_S1 := Fr_fa hF1 46 (by decide)
  have f48_S1 := Fr_fa hF1 48 (by decide)
  have g3_S1 := Fr_ga hF1 3 (by decide)
  have g4_S1 := Fr_ga hF1 4 (by decide)
  clear hF1
  refine it_rule (fun u : mS => XI nx n so pl wo ws S0 d (G - 1) GA (X + 2) (Y + 1) u ∧ ((u.1 4) = 0 → (S.1 4) = 0 ∧ (S.1 3).toInt < (u.1 3).toInt)) (fun u => (if (u.1 4) = 0 then (n : Int) - (u.1 3).toInt + 1 else 0).toNat) ?_ (by grind [XI, PI, PJ, BU, LV, LG, ix_int, q_zz, q_za, q_zga, q_fza, q_fx, q_fga, q_gza, q_gfa, q_gx, ti_link])
  rintro ⟨Sl4⟩ k4 hI4 hk4
  replace hI4 : XI nx n so pl wo ws S0 d (G - 1) GA (X + 2) (Y + 1) Sl4 ∧ ((Sl4.1 4) = 0 → (S.1 4) = 0 ∧ (S.1 3).toInt < (Sl4.1 3).toInt) := hI4
  replace hk4 : ∀ v : mS, XI nx n so pl wo ws S0 d (G - 1) GA (X + 2) (Y + 1) v ∧ ((v.1 4) = 0 → (S.1 4) = 0 ∧ (S.1 3).toInt < (v.1 3).toInt) → (if (v.1 4) = 0 then (n : Int) - (v.1 3).toInt + 1 else 0).toNat < (if (Sl4.1 4) = 0 then (n : Int) - (Sl4.1 3).toInt + 1 else 0).toNat → k4 v := hk4
  show wp_product_4 r_part _ k4  Sl4
  unfold wp_product_4
  refine fm_isSign _ _ _ _ (fun S2 r2 hF2 pS2 => ?_) (sg_isSign (nx := nx) (n := n) (so := so) (pl := pl) (wo := wo) (ws := ws) _ (by grind [XI, PI, PJ, BU, LV, LG, ix_int, q_zz, q_za, q_zga, q_fza, q_fx, q_fga, q_gza, q_gfa, q_gx, ti_link]))
  have z3_S2 := hF2.1 3 (by decide)
  have z4_S2 := hF2.1 4 (by decide)
  have z6_S2 := hF2.1 6 (by decide)
  have z7_S2 := hF2.1 7 (by decide)
  have z8_S2 := hF2.1 8 (by decide)
  have z11_S2 := hF2.1 11 (by decide)
  have z12_S2 := hF2.1 12 (by decide)
  have z18_S2 := hF2.1 18 (by decide)
  have z19_S2 := hF2.1 19 (by decide)
  have f1_S2 := Fr_fa hF2 1 (by decide)
  have f2_S2 := Fr_fa hF2 2 (by decide)
  have f8_S2 := Fr_fa hF2 8 (by decide)
  have f46_S2 := Fr_fa hF2 46 (by decide)
  have f48_S2 := Fr_fa hF2 48 (by decide)
  have g3_S2 := Fr_ga hF2 3 (by decide)
  have g4_S2 := Fr_ga hF2 4 (by decide)
  clear hF2
  refine ⟨fun c3 => ?_, fun c3 => ?_⟩
  · exact j31 _ (by grind [XI, PI, PJ, BU, LV, LG, ix_int, q_zz, q_za, q_zga, q_fza, q_fx, q_fga, q_gza, q_gfa, q_gx, ti_link])
  · refine fm_isSign _ _ _ _ (fun S4 r4 hF4 pS4 => ?_) (sg_isSign (nx := nx) (n := n) (so := so) (pl := pl) (wo := wo) (ws := ws) _ (by grind [XI, PI, PJ, BU, LV, LG, ix_int, q_zz, q_za, q_zga, q_fza, q_fx, q_fga, q_gza, q_gfa, q_gx, ti_link]))
    have z3_S4 := hF4.1 3 (by decide)
    have z4_S4 := hF4.1 4 (by decide)
    have z6_S4 := hF4.1 6 (by decide)
    have z7_S4 := hF4.1 7 (by decide)
    have z8_S4 := hF4.1 8 (by decide)
    have z11_S4 := hF4.1 11 (by decide)
    have z12_S4 := hF4.1 12 (by decide)
    have z18_S4 := hF4.1 18 (by decide)
    have z19_S4 := hF4.1 19 (by decide)
    have f1_S4 := Fr_fa hF4 1 (by decide)
    have f2_S4 := Fr_fa hF4 2 (by decide)
    have f8_S4 := Fr_fa hF4 8 (by decide)
    have f46_S4 := Fr_fa hF4 46 (by decide)
    have f48_S4 := Fr_fa hF4 48 (by decide)
    have g3_S4 := Fr_ga hF4 3 (by decide)
    have g4_S4 := Fr_ga hF4 4 (by decide)
    clear hF4
    refine ⟨fun c5 => ?_, fun c5 => ?_⟩
    · exact j31 _ (by grind [XI, PI, PJ, BU, LV, LG, ix_int, q_zz, q_za, q_zga, q_fza, q_fx, q_fga, q_gza, q_gfa, q_gx, ti_link])
    · refine fm_isSign _ _ _ _ (fun S6 r6 hF6 pS6 => ?_) (sg_isSign (nx := nx) (n := n) (so := so) (pl := pl) (wo := wo) (ws := ws) _ (by grind [XI, PI, PJ, BU, LV, LG, ix_int, q_zz, q_za, q_zga, q_fza, q_fx, q_fga, q_gza, q_gfa, q_gx, ti_link]))
      have z3_S6 := hF6.1 3 (by decide)
      have z4_S6 := hF6.1 4 (by decide)
      have z6_S6 := hF6.1 6 (by decide)
      have z7_S6 := hF6.1 7 (by decide)
      have z8_S6 := hF6.1 8 (by decide)
      have z11_S6 := hF6.1 11 (by decide)
      have z12_S6 := hF6.1 12 (by decide)
      have z18_S6 := hF6.1 18 (by decide)
      have z19_S6 := hF6.1 19 (by decide)
      have f1_S6 := Fr_fa hF6 1 (by decide)
      have f2_S6 := Fr_fa hF6 2 (by decide)
      have f8_S6 := Fr_fa hF6 8 (by decide)
      have f46_S6 := Fr_fa hF6 46 (by decide)
      have f48_S6 := Fr_fa hF6 48 (by decide)
      have g3_S6 := Fr_ga hF6 3 (by decide)
      have g4_S6 := Fr_ga hF6 4 (by decide)
      clear hF6
      refine ⟨fun c7 => ?_, fun c7 => ?_⟩
      · grind [XI, PI, PJ, BU, LV, LG, ix_int, q_zz, q_za, q_zga, q_fza, q_fx, q_fga, q_gza, q_gfa, q_gx, ti_link]
      · exact j31 _ (by grind [XI, PI, PJ, BU, LV, LG, ix_int, q_zz, q_za, q_zga, q_fza, q_fx, q_fga, q_gza, q_gfa, q_gx, ti_link])
