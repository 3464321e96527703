
set_option maxHeartbeats 4000000 in
theorem sg_product {r_part : mS → (mS → Prop) → Prop} (hf_part : FmV [3, 4, 7, 8, 18, 19] [8, 12, 13, 14, 15, 16, 17, 18, 19, 20, 21] [9] (r_part)) (hr_part : ∀ (d : Nat) (G GA X Y : Int) (S : mS), D ≤ d → LV d G GA X Y → XI nx n so pl wo ws S0 d G GA X Y S → r_part S (fun S1 => XI nx n so pl wo ws S0 d (G - 1) GA X Y S1 ∧ ((S1.1 4) = 0 → (S.1 4) = 0 ∧ (S.1 3).toInt < (S1.1 3).toInt))) {nx n : Nat} {so pl : Nat → Int32} {wo ws : Nat → Int64} {S0 : mS} {D d : Nat} {G GA X Y : Int} {S : mS} (hL : LV d G GA X Y) (h : XI nx n so pl wo ws S0 d G GA X Y S) (hD : D ≤ d) : wp_product r_part S (fun S1 => XI nx n so pl wo ws S0 d (G - 1) GA (X + 2) (Y + 1) S1 ∧ ((S1.1 4) = 0 → (S.1 4) = 0 ∧ (S.1 3).toInt < (S1.1 3).toInt)) := by
  unfold wp_product
  refine hf_part _ _ _ (fun S1 hF1 p2 => ?_) (hr_part d G GA X Y _ (by grind (ematch := 12) (splits := 16) [XI, PI, PJ, BU, LV, LG, OH, HH, HL, ix_int, q_zz, q_za, q_zga, q_fza, q_fx, q_fga, q_gza, q_gfa, q_gx, ti_link]) (by grind (ematch := 12) (splits := 16) [XI, PI, PJ, BU, LV, LG, OH, HH, HL, ix_int, q_zz, q_za, q_zga, q_fza, q_fx, q_fga, q_gza, q_gfa, q_gx, ti_link]) (by grind (ematch := 12) (splits := 16) [XI, PI, PJ, BU, LV, LG, OH, HH, HL, ix_int, q_zz, q_za, q_zga, q_fza, q_fx, q_fga, q_gza, q_gfa, q_gx, ti_link]))
  have z6_S1 := hF1.1 6 (by decide)
  have z11_S1 := hF1.1 11 (by decide)
  have z12_S1 := hF1.1 12 (by decide)
  have f1_S1 := Fr_fa hF1 1 (by decide)
  have f2_S1 := Fr_fa hF1 2 (by decide)
  have f46_S1 := Fr_fa hF1 46 (by decide)
  have f48_S1 := Fr_fa hF1 48 (by decide)
  have g3_S1 := Fr_ga hF1 3 (by decide)
  have g4_S1 := Fr_ga hF1 4 (by decide)
  clear hF1
  refine it_rule (fun u : mS => XI nx n so pl wo ws S0 d (G - 1) GA (X + 2) (Y + 1) u ∧ ((u.1 4) = 0 → (S.1 4) = 0 ∧ (S.1 3).toInt < (u.1 3).toInt)) (fun u => (if (u.1 4) = 0 then (n : Int) - (u.1 3).toInt + 1 else 0).toNat) ?_ (by grind (ematch := 12) (splits := 16) [XI, PI, PJ, BU, LV, LG, OH, HH, HL, ix_int, q_zz, q_za, q_zga, q_fza, q_fx, q_fga, q_gza, q_gfa, q_gx, ti_link])
  rintro ⟨Sl4⟩ k4 hI4 hk4
  replace hI4 : XI nx n so pl wo ws S0 d (G - 1) GA (X + 2) (Y + 1) Sl4 ∧ ((Sl4.1 4) = 0 → (S.1 4) = 0 ∧ (S.1 3).toInt < (Sl4.1 3).toInt) := hI4
  replace hk4 : ∀ v : mS, XI nx n so pl wo ws S0 d (G - 1) GA (X + 2) (Y + 1) v ∧ ((v.1 4) = 0 → (S.1 4) = 0 ∧ (S.1 3).toInt < (v.1 3).toInt) → (if (v.1 4) = 0 then (n : Int) - (v.1 3).toInt + 1 else 0).toNat < (if (Sl4.1 4) = 0 then (n : Int) - (Sl4.1 3).toInt + 1 else 0).toNat → k4 v := hk4
  show wp_product_4 r_part _ k4  Sl4
  unfold wp_product_4
  refine fm_isSign _ _ _ _ (fun S2 r2 hF3 p4 => ?_) (sg_isSign (nx := nx) (n := n) (so := so) (pl := pl) (wo := wo) (ws := ws) _ (by grind (ematch := 12) (splits := 16) [XI, PI, PJ, BU, LV, LG, OH, HH, HL, ix_int, q_zz, q_za, q_zga, q_fza, q_fx, q_fga, q_gza, q_gfa, q_gx, ti_link]))
  have fa_S2 := Fr_faa hF3
  have ga_S2 := Fr_gaa hF3
  have z3_S2 := hF3.1 3 (by decide)
  have z4_S2 := hF3.1 4 (by decide)
  have z6_S2 := hF3.1 6 (by decide)
  have z7_S2 := hF3.1 7 (by decide)
  have z8_S2 := hF3.1 8 (by decide)
  have z11_S2 := hF3.1 11 (by decide)
  have z12_S2 := hF3.1 12 (by decide)
  have z18_S2 := hF3.1 18 (by decide)
  have z19_S2 := hF3.1 19 (by decide)
  have f1_S2 := Fr_fa hF3 1 (by decide)
  have f2_S2 := Fr_fa hF3 2 (by decide)
  have f8_S2 := Fr_fa hF3 8 (by decide)
  have f46_S2 := Fr_fa hF3 46 (by decide)
  have f48_S2 := Fr_fa hF3 48 (by decide)
  have g3_S2 := Fr_ga hF3 3 (by decide)
  have g4_S2 := Fr_ga hF3 4 (by decide)
  clear hF3
  refine ⟨fun c5 => ?_, fun c5 => ?_⟩
  · exact j31 _ (by grind (ematch := 12) (splits := 16) [XI, PI, PJ, BU, LV, LG, OH, HH, HL, ix_int, q_zz, q_za, q_zga, q_fza, q_fx, q_fga, q_gza, q_gfa, q_gx, ti_link])
  · refine fm_isSign _ _ _ _ (fun S4 r4 hF6 p7 => ?_) (sg_isSign (nx := nx) (n := n) (so := so) (pl := pl) (wo := wo) (ws := ws) _ (by grind (ematch := 12) (splits := 16) [XI, PI, PJ, BU, LV, LG, OH, HH, HL, ix_int, q_zz, q_za, q_zga, q_fza, q_fx, q_fga, q_gza, q_gfa, q_gx, ti_link]))
    have fa_S4 := Fr_faa hF6
    have ga_S4 := Fr_gaa hF6
    have z3_S4 := hF6.1 3 (by decide)
    have z4_S4 := hF6.1 4 (by decide)
    have z6_S4 := hF6.1 6 (by decide)
    have z7_S4 := hF6.1 7 (by decide)
    have z8_S4 := hF6.1 8 (by decide)
    have z11_S4 := hF6.1 11 (by decide)
    have z12_S4 := hF6.1 12 (by decide)
    have z18_S4 := hF6.1 18 (by decide)
    have z19_S4 := hF6.1 19 (by decide)
    have f1_S4 := Fr_fa hF6 1 (by decide)
    have f2_S4 := Fr_fa hF6 2 (by decide)
    have f8_S4 := Fr_fa hF6 8 (by decide)
    have f46_S4 := Fr_fa hF6 46 (by decide)
    have f48_S4 := Fr_fa hF6 48 (by decide)
    have g3_S4 := Fr_ga hF6 3 (by decide)
    have g4_S4 := Fr_ga hF6 4 (by decide)
    clear hF6
    refine ⟨fun c8 => ?_, fun c8 => ?_⟩
    · exact j31 _ (by grind (ematch := 12) (splits := 16) [XI, PI, PJ, BU, LV, LG, OH, HH, HL, ix_int, q_zz, q_za, q_zga, q_fza, q_fx, q_fga, q_gza, q_gfa, q_gx, ti_link])
    · refine fm_isSign _ _ _ _ (fun S6 r6 hF9 p10 => ?_) (sg_isSign (nx := nx) (n := n) (so := so) (pl := pl) (wo := wo) (ws := ws) _ (by grind (ematch := 12) (splits := 16) [XI, PI, PJ, BU, LV, LG, OH, HH, HL, ix_int, q_zz, q_za, q_zga, q_fza, q_fx, q_fga, q_gza, q_gfa, q_gx, ti_link]))
      have fa_S6 := Fr_faa hF9
      have ga_S6 := Fr_gaa hF9
      have z3_S6 := hF9.1 3 (by decide)
      have z4_S6 := hF9.1 4 (by decide)
      have z6_S6 := hF9.1 6 (by decide)
      have z7_S6 := hF9.1 7 (by decide)
      have z8_S6 := hF9.1 8 (by decide)
      have z11_S6 := hF9.1 11 (by decide)
      have z12_S6 := hF9.1 12 (by decide)
      have z18_S6 := hF9.1 18 (by decide)
      have z19_S6 := hF9.1 19 (by decide)
      have f1_S6 := Fr_fa hF9 1 (by decide)
      have f2_S6 := Fr_fa hF9 2 (by decide)
      have f8_S6 := Fr_fa hF9 8 (by decide)
      have f46_S6 := Fr_fa hF9 46 (by decide)
      have f48_S6 := Fr_fa hF9 48 (by decide)
      have g3_S6 := Fr_ga hF9 3 (by decide)
      have g4_S6 := Fr_ga hF9 4 (by decide)
      clear hF9
      refine ⟨fun c11 => ?_, fun c11 => ?_⟩
      · grind (ematch := 12) (splits := 16) [XI, PI, PJ, BU, LV, LG, OH, HH, HL, ix_int, q_zz, q_za, q_zga, q_fza, q_fx, q_fga, q_gza, q_gfa, q_gx, ti_link]
      · exact j31 _ (by grind (ematch := 12) (splits := 16) [XI, PI, PJ, BU, LV, LG, OH, HH, HL, ix_int, q_zz, q_za, q_zga, q_fza, q_fx, q_fga, q_gza, q_gfa, q_gx, ti_link])
set_option maxHeartbeats 4000000 in
theorem sg_sum {r_part : mS → (mS → Prop) → Prop} (hf_part : FmV [3, 4, 7, 8, 18, 19] [8, 12, 13, 14, 15, 16, 17, 18, 19, 20, 21] [9] (r_part)) (hr_part : ∀ (d : Nat) (G GA X Y : Int) (S : mS), D ≤ d → LV d G GA X Y → XI nx n so pl wo ws S0 d G GA X Y S → r_part S (fun S1 => XI nx n so pl wo ws S0 d (G - 1) GA X Y S1 ∧ ((S1.1 4) = 0 → (S.1 4) = 0 ∧ (S.1 3).toInt < (S1.1 3).toInt))) {nx n : Nat} {so pl : Nat → Int32} {wo ws : Nat → Int64} {S0 : mS} {D d : Nat} {G GA X Y : Int} {S : mS} (hL : LV d G GA X Y) (h : XI nx n so pl wo ws S0 d G GA X Y S) (hD : D ≤ d) : wp_sum r_part S (fun S1 => XI nx n so pl wo ws S0 d (G - 1) GA (X + 4) (Y + 1) S1 ∧ ((S1.1 4) = 0 → (S.1 4) = 0 ∧ (S.1 3).toInt < (S1.1 3).toInt)) := by
  unfold wp_sum
  refine fm_product hf_part _ _ _ (fun S1 hF1 p2 => ?_) (sg_product hf_part hr_part (nx := nx) (n := n) (so := so) (pl := pl) (wo := wo) (ws := ws) (S0 := S0) (d := d) (G := G) (GA := GA) (X := X) (Y := Y) (D := D) (by grind (ematch := 12) (splits := 16) [XI, PI, PJ, BU, LV, LG, OH, HH, HL, ix_int, q_zz, q_za, q_zga, q_fza, q_fx, q_fga, q_gza, q_gfa, q_gx, ti_link]) (by grind (ematch := 12) (splits := 16) [XI, PI, PJ, BU, LV, LG, OH, HH, HL, ix_int, q_zz, q_za, q_zga, q_fza, q_fx, q_fga, q_gza, q_gfa, q_gx, ti_link]) (by grind (ematch := 12) (splits := 16) [XI, PI, PJ, BU, LV, LG, OH, HH, HL, ix_int, q_zz, q_za, q_zga, q_fza, q_fx, q_fga, q_gza, q_gfa, q_gx, ti_link]))
  have z6_S1 := hF1.1 6 (by decide)
  have z11_S1 := hF1.1 11 (by decide)
  have z12_S1 := hF1.1 12 (by decide)
  have f1_S1 := Fr_fa hF1 1 (by decide)
  have f2_S1 := Fr_fa hF1 2 (by decide)
  have f46_S1 := Fr_fa hF1 46 (by decide)
  have f48_S1 := Fr_fa hF1 48 (by decide)
  have g3_S1 := Fr_ga hF1 3 (by decide)
  have g4_S1 := Fr_ga hF1 4 (by decide)
  clear hF1
  refine it_rule (fun u : mS => XI nx n so pl wo ws S0 d (G - 1) GA (X + 4) (Y + 1) u ∧ ((u.1 4) = 0 → (S.1 4) = 0 ∧ (S.1 3).toInt < (u.1 3).toInt)) (fun u => (if (u.1 4) = 0 then (n : Int) - (u.1 3).toInt + 1 else 0).toNat) ?_ (by grind (ematch := 12) (splits := 16) [XI, PI, PJ, BU, LV, LG, OH, HH, HL, ix_int, q_zz, q_za, q_zga, q_fza, q_fx, q_fga, q_gza, q_gfa, q_gx, ti_link])
  rintro ⟨Sl4⟩ k4 hI4 hk4
  replace hI4 : XI nx n so pl wo ws S0 d (G - 1) GA (X + 4) (Y + 1) Sl4 ∧ ((Sl4.1 4) = 0 → (S.1 4) = 0 ∧ (S.1 3).toInt < (Sl4.1 3).toInt) := hI4
  replace hk4 : ∀ v : mS, XI nx n so pl wo ws S0 d (G - 1) GA (X + 4) (Y + 1) v ∧ ((v.1 4) = 0 → (S.1 4) = 0 ∧ (S.1 3).toInt < (v.1 3).toInt) → (if (v.1 4) = 0 then (n : Int) - (v.1 3).toInt + 1 else 0).toNat < (if (Sl4.1 4) = 0 then (n : Int) - (Sl4.1 3).toInt + 1 else 0).toNat → k4 v := hk4
  show wp_sum_4 r_part _ k4  Sl4
  unfold wp_sum_4
  refine fm_isSign _ _ _ _ (fun S2 r2 hF3 p4 => ?_) (sg_isSign (nx := nx) (n := n) (so := so) (pl := pl) (wo := wo) (ws := ws) _ (by grind (ematch := 12) (splits := 16) [XI, PI, PJ, BU, LV, LG, OH, HH, HL, ix_int, q_zz, q_za, q_zga, q_fza, q_fx, q_fga, q_gza, q_gfa, q_gx, ti_link]))
  have fa_S2 := Fr_faa hF3
  have ga_S2 := Fr_gaa hF3
  have z3_S2 := hF3.1 3 (by decide)
  have z4_S2 := hF3.1 4 (by decide)
  have z6_S2 := hF3.1 6 (by decide)
  have z7_S2 := hF3.1 7 (by decide)
  have z8_S2 := hF3.1 8 (by decide)
  have z11_S2 := hF3.1 11 (by decide)
  have z12_S2 := hF3.1 12 (by decide)
  have z18_S2 := hF3.1 18 (by decide)
  have z19_S2 := hF3.1 19 (by decide)
  have f1_S2 := Fr_fa hF3 1 (by decide)
  have f2_S2 := Fr_fa hF3 2 (by decide)
  have f8_S2 := Fr_fa hF3 8 (by decide)
  have f46_S2 := Fr_fa hF3 46 (by decide)
  have f48_S2 := Fr_fa hF3 48 (by decide)
  have g3_S2 := Fr_ga hF3 3 (by decide)
  have g4_S2 := Fr_ga hF3 4 (by decide)
  clear hF3
  refine ⟨fun c5 => ?_, fun c5 => ?_⟩
  · exact j22 _ (by grind (ematch := 12) (splits := 16) [XI, PI, PJ, BU, LV, LG, OH, HH, HL, ix_int, q_zz, q_za, q_zga, q_fza, q_fx, q_fga, q_gza, q_gfa, q_gx, ti_link])
  · refine fm_isSign _ _ _ _ (fun S4 r4 hF6 p7 => ?_) (sg_isSign (nx := nx) (n := n) (so := so) (pl := pl) (wo := wo) (ws := ws) _ (by grind (ematch := 12) (splits := 16) [XI, PI, PJ, BU, LV, LG, OH, HH, HL, ix_int, q_zz, q_za, q_zga, q_fza, q_fx, q_fga, q_gza, q_gfa, q_gx, ti_link]))
    have fa_S4 := Fr_faa hF6
    have ga_S4 := Fr_gaa hF6
    have z3_S4 := hF6.1 3 (by decide)
    have z4_S4 := hF6.1 4 (by decide)
    have z6_S4 := hF6.1 6 (by decide)
    have z7_S4 := hF6.1 7 (by decide)
    have z8_S4 := hF6.1 8 (by decide)
    have z11_S4 := hF6.1 11 (by decide)
    have z12_S4 := hF6.1 12 (by decide)
    have z18_S4 := hF6.1 18 (by decide)
    have z19_S4 := hF6.1 19 (by decide)
    have f1_S4 := Fr_fa hF6 1 (by decide)
    have f2_S4 := Fr_fa hF6 2 (by decide)
    have f8_S4 := Fr_fa hF6 8 (by decide)
    have f46_S4 := Fr_fa hF6 46 (by decide)
    have f48_S4 := Fr_fa hF6 48 (by decide)
    have g3_S4 := Fr_ga hF6 3 (by decide)
    have g4_S4 := Fr_ga hF6 4 (by decide)
    clear hF6
    refine ⟨fun c8 => ?_, fun c8 => ?_⟩
    · grind (ematch := 12) (splits := 16) [XI, PI, PJ, BU, LV, LG, OH, HH, HL, ix_int, q_zz, q_za, q_zga, q_fza, q_fx, q_fga, q_gza, q_gfa, q_gx, ti_link]
    · exact j22 _ (by grind (ematch := 12) (splits := 16) [XI, PI, PJ, BU, LV, LG, OH, HH, HL, ix_int, q_zz, q_za, q_zga, q_fza, q_fx, q_fga, q_gza, q_gfa, q_gx, ti_link])
set_option maxHeartbeats 4000000 in
theorem sg_expression {r_part : mS → (mS → Prop) → Prop} (hf_part : FmV [3, 4, 7, 8, 18, 19] [8, 12, 13, 14, 15, 16, 17, 18, 19, 20, 21] [9] (r_part)) (hr_part : ∀ (d : Nat) (G GA X Y : Int) (S : mS), D ≤ d → LV d G GA X Y → XI nx n so pl wo ws S0 d G GA X Y S → r_part S (fun S1 => XI nx n so pl wo ws S0 d (G - 1) GA X Y S1 ∧ ((S1.1 4) = 0 → (S.1 4) = 0 ∧ (S.1 3).toInt < (S1.1 3).toInt))) {nx n : Nat} {so pl : Nat → Int32} {wo ws : Nat → Int64} {S0 : mS} {D d : Nat} {G GA X Y : Int} {S : mS} (hL : LV d G GA X Y) (h : XI nx n so pl wo ws S0 d G GA X Y S) (hD : D ≤ d) : wp_expression r_part S (fun S1 => XI nx n so pl wo ws S0 d (G - 1) GA (X + 6) (Y + 1) S1 ∧ ((S1.1 4) = 0 → (S.1 4) = 0 ∧ (S.1 3).toInt < (S1.1 3).toInt)) := by
  unfold wp_expression
  have j24 : ∀ (x1 : Int32) (Sx : mS), (XI nx n so pl wo ws S0 d (G - 1) GA (X + 4) (Y + 1) Sx ∧ ((Sx.1 4) = 0 → (S.1 4) = 0 ∧ (S.1 3).toInt < (Sx.1 3).toInt) ∧ (Sx.1 4) = 0 ∧ (Sx.1 3).toInt < n) → wp_expression_24 r_part (fun S1 => XI nx n so pl wo ws S0 d (G - 1) GA (X + 6) (Y + 1) S1 ∧ ((S1.1 4) = 0 → (S.1 4) = 0 ∧ (S.1 3).toInt < (S1.1 3).toInt)) x1 Sx := by
    intro x1 Sx hJ24
    unfold wp_expression_24
    intro z6 ez6
    intro S7 eS7
    refine fm_sum hf_part _ _ _ (fun S8 hF1 p2 => ?_) (sg_sum hf_part hr_part (nx := nx) (n := n) (so := so) (pl := pl) (wo := wo) (ws := ws) (S0 := S0) (d := d) (G := (G - 6)) (GA := GA) (X := X) (Y := Y) (D := D) (by grind (ematch := 12) (splits := 16) [XI, PI, PJ, BU, LV, LG, OH, HH, HL, ix_int, q_zz, q_za, q_zga, q_fza, q_fx, q_fga, q_gza, q_gfa, q_gx, ti_link]) (by grind (ematch := 12) (splits := 16) [XI, PI, PJ, BU, LV, LG, OH, HH, HL, ix_int, q_zz, q_za, q_zga, q_fza, q_fx, q_fga, q_gza, q_gfa, q_gx, ti_link]) (by grind (ematch := 12) (splits := 16) [XI, PI, PJ, BU, LV, LG, OH, HH, HL, ix_int, q_zz, q_za, q_zga, q_fza, q_fx, q_fga, q_gza, q_gfa, q_gx, ti_link]))
    have z6_S8 := hF1.1 6 (by decide)
    have z11_S8 := hF1.1 11 (by decide)
    have z12_S8 := hF1.1 12 (by decide)
    have f1_S8 := Fr_fa hF1 1 (by decide)
    have f2_S8 := Fr_fa hF1 2 (by decide)
    have f46_S8 := Fr_fa hF1 46 (by decide)
    have f48_S8 := Fr_fa hF1 48 (by decide)
    have g3_S8 := Fr_ga hF1 3 (by decide)
    have g4_S8 := Fr_ga hF1 4 (by decide)
    clear hF1
    refine ⟨fun c3 => ?_, fun c3 => ?_⟩
    · unfold wp_expression_50
      refine fm_emit _ _ _ _ _ _ (fun S10 r10 hF4 p5 => ?_) (sg_emit _ _ _ (by grind (ematch := 12) (splits := 16) [XI, PI, PJ, BU, LV, LG, OH, HH, HL, ix_int, q_zz, q_za, q_zga, q_fza, q_fx, q_fga, q_gza, q_gfa, q_gx, ti_link]))
      have ga_S10 := Fr_gaa hF4
      have z3_S10 := hF4.1 3 (by decide)
      have z4_S10 := hF4.1 4 (by decide)
      have z6_S10 := hF4.1 6 (by decide)
      have z8_S10 := hF4.1 8 (by decide)
      have z11_S10 := hF4.1 11 (by decide)
      have z12_S10 := hF4.1 12 (by decide)
      have z18_S10 := hF4.1 18 (by decide)
      have z19_S10 := hF4.1 19 (by decide)
      have f1_S10 := Fr_fa hF4 1 (by decide)
      have f2_S10 := Fr_fa hF4 2 (by decide)
      have f8_S10 := Fr_fa hF4 8 (by decide)
      have f46_S10 := Fr_fa hF4 46 (by decide)
      have f48_S10 := Fr_fa hF4 48 (by decide)
      have g3_S10 := Fr_ga hF4 3 (by decide)
      have g4_S10 := Fr_ga hF4 4 (by decide)
      clear hF4
      grind (ematch := 12) (splits := 16) [XI, PI, PJ, BU, LV, LG, OH, HH, HL, ix_int, q_zz, q_za, q_zga, q_fza, q_fx, q_fga, q_gza, q_gfa, q_gx, ti_link]
    · unfold wp_expression_50
      refine fm_emit _ _ _ _ _ _ (fun S10 r10 hF6 p7 => ?_) (sg_emit _ _ _ (by grind (ematch := 12) (splits := 16) [XI, PI, PJ, BU, LV, LG, OH, HH, HL, ix_int, q_zz, q_za, q_zga, q_fza, q_fx, q_fga, q_gza, q_gfa, q_gx, ti_link]))
      have ga_S10 := Fr_gaa hF6
      have z3_S10 := hF6.1 3 (by decide)
      have z4_S10 := hF6.1 4 (by decide)
      have z6_S10 := hF6.1 6 (by decide)
      have z8_S10 := hF6.1 8 (by decide)
      have z11_S10 := hF6.1 11 (by decide)
      have z12_S10 := hF6.1 12 (by decide)
      have z18_S10 := hF6.1 18 (by decide)
      have z19_S10 := hF6.1 19 (by decide)
      have f1_S10 := Fr_fa hF6 1 (by decide)
      have f2_S10 := Fr_fa hF6 2 (by decide)
      have f8_S10 := Fr_fa hF6 8 (by decide)
      have f46_S10 := Fr_fa hF6 46 (by decide)
      have f48_S10 := Fr_fa hF6 48 (by decide)
      have g3_S10 := Fr_ga hF6 3 (by decide)
      have g4_S10 := Fr_ga hF6 4 (by decide)
      clear hF6
      grind (ematch := 12) (splits := 16) [XI, PI, PJ, BU, LV, LG, OH, HH, HL, ix_int, q_zz, q_za, q_zga, q_fza, q_fx, q_fga, q_gza, q_gfa, q_gx, ti_link]
  refine fm_sum hf_part _ _ _ (fun S1 hF8 p9 => ?_) (sg_sum hf_part hr_part (nx := nx) (n := n) (so := so) (pl := pl) (wo := wo) (ws := ws) (S0 := S0) (d := d) (G := G) (GA := GA) (X := X) (Y := Y) (D := D) (by grind (ematch := 12) (splits := 16) [XI, PI, PJ, BU, LV, LG, OH, HH, HL, ix_int, q_zz, q_za, q_zga, q_fza, q_fx, q_fga, q_gza, q_gfa, q_gx, ti_link]) (by grind (ematch := 12) (splits := 16) [XI, PI, PJ, BU, LV, LG, OH, HH, HL, ix_int, q_zz, q_za, q_zga, q_fza, q_fx, q_fga, q_gza, q_gfa, q_gx, ti_link]) (by grind (ematch := 12) (splits := 16) [XI, PI, PJ, BU, LV, LG, OH, HH, HL, ix_int, q_zz, q_za, q_zga, q_fza, q_fx, q_fga, q_gza, q_gfa, q_gx, ti_link]))
  have z6_S1 := hF8.1 6 (by decide)
  have z11_S1 := hF8.1 11 (by decide)
  have z12_S1 := hF8.1 12 (by decide)
  have f1_S1 := Fr_fa hF8 1 (by decide)
  have f2_S1 := Fr_fa hF8 2 (by decide)
  have f46_S1 := Fr_fa hF8 46 (by decide)
  have f48_S1 := Fr_fa hF8 48 (by decide)
  have g3_S1 := Fr_ga hF8 3 (by decide)
  have g4_S1 := Fr_ga hF8 4 (by decide)
  clear hF8
  refine fm_isSign _ _ _ _ (fun S2 r2 hF10 p11 => ?_) (sg_isSign (nx := nx) (n := n) (so := so) (pl := pl) (wo := wo) (ws := ws) _ (by grind (ematch := 12) (splits := 16) [XI, PI, PJ, BU, LV, LG, OH, HH, HL, ix_int, q_zz, q_za, q_zga, q_fza, q_fx, q_fga, q_gza, q_gfa, q_gx, ti_link]))
  have fa_S2 := Fr_faa hF10
  have ga_S2 := Fr_gaa hF10
  have z3_S2 := hF10.1 3 (by decide)
  have z4_S2 := hF10.1 4 (by decide)
  have z6_S2 := hF10.1 6 (by decide)
  have z7_S2 := hF10.1 7 (by decide)
  have z8_S2 := hF10.1 8 (by decide)
  have z11_S2 := hF10.1 11 (by decide)
  have z12_S2 := hF10.1 12 (by decide)
  have z18_S2 := hF10.1 18 (by decide)
  have z19_S2 := hF10.1 19 (by decide)
  have f1_S2 := Fr_fa hF10 1 (by decide)
  have f2_S2 := Fr_fa hF10 2 (by decide)
  have f8_S2 := Fr_fa hF10 8 (by decide)
  have f46_S2 := Fr_fa hF10 46 (by decide)
  have f48_S2 := Fr_fa hF10 48 (by decide)
  have g3_S2 := Fr_ga hF10 3 (by decide)
  have g4_S2 := Fr_ga hF10 4 (by decide)
  clear hF10
  refine ⟨fun c12 => ?_, fun c12 => ?_⟩
  · exact j24 _ _ (by grind (ematch := 12) (splits := 16) [XI, PI, PJ, BU, LV, LG, OH, HH, HL, ix_int, q_zz, q_za, q_zga, q_fza, q_fx, q_fga, q_gza, q_gfa, q_gx, ti_link])
  · refine fm_isSign _ _ _ _ (fun S4 r4 hF13 p14 => ?_) (sg_isSign (nx := nx) (n := n) (so := so) (pl := pl) (wo := wo) (ws := ws) _ (by grind (ematch := 12) (splits := 16) [XI, PI, PJ, BU, LV, LG, OH, HH, HL, ix_int, q_zz, q_za, q_zga, q_fza, q_fx, q_fga, q_gza, q_gfa, q_gx, ti_link]))
    have fa_S4 := Fr_faa hF13
    have ga_S4 := Fr_gaa hF13
    have z3_S4 := hF13.1 3 (by decide)
    have z4_S4 := hF13.1 4 (by decide)
    have z6_S4 := hF13.1 6 (by decide)
    have z7_S4 := hF13.1 7 (by decide)
    have z8_S4 := hF13.1 8 (by decide)
    have z11_S4 := hF13.1 11 (by decide)
    have z12_S4 := hF13.1 12 (by decide)
    have z18_S4 := hF13.1 18 (by decide)
    have z19_S4 := hF13.1 19 (by decide)
    have f1_S4 := Fr_fa hF13 1 (by decide)
    have f2_S4 := Fr_fa hF13 2 (by decide)
    have f8_S4 := Fr_fa hF13 8 (by decide)
    have f46_S4 := Fr_fa hF13 46 (by decide)
    have f48_S4 := Fr_fa hF13 48 (by decide)
    have g3_S4 := Fr_ga hF13 3 (by decide)
    have g4_S4 := Fr_ga hF13 4 (by decide)
    clear hF13
    refine ⟨fun c15 => ?_, fun c15 => ?_⟩
    · grind (ematch := 12) (splits := 16) [XI, PI, PJ, BU, LV, LG, OH, HH, HL, ix_int, q_zz, q_za, q_zga, q_fza, q_fx, q_fga, q_gza, q_gfa, q_gx, ti_link]
    · exact j24 _ _ (by grind (ematch := 12) (splits := 16) [XI, PI, PJ, BU, LV, LG, OH, HH, HL, ix_int, q_zz, q_za, q_zga, q_fza, q_fx, q_fga, q_gza, q_gfa, q_gx, ti_link])
set_option maxHeartbeats 4000000 in
theorem sg_partWithin {r_part : mS → (mS → Prop) → Prop} (hf_part : FmV [3, 4, 7, 8, 18, 19] [8, 12, 13, 14, 15, 16, 17, 18, 19, 20, 21] [9] (r_part)) (hr_part : ∀ (d : Nat) (G GA X Y : Int) (S : mS), D ≤ d → LV d G GA X Y → XI nx n so pl wo ws S0 d G GA X Y S → r_part S (fun S1 => XI nx n so pl wo ws S0 d (G - 1) GA X Y S1 ∧ ((S1.1 4) = 0 → (S.1 4) = 0 ∧ (S.1 3).toInt < (S1.1 3).toInt))) {nx n : Nat} {so pl : Nat → Int32} {wo ws : Nat → Int64} {S0 : mS} {D d : Nat} {G GA X Y : Int} {S : mS} (hL : LV d G GA X Y) (h : XI nx n so pl wo ws S0 d G GA X Y S) (hD : D ≤ d) (hf : (S.1 4) = 0) : wp_partWithin r_part S (fun S1 => XI nx n so pl wo ws S0 d (G - 1) GA (X + 8) (Y + 2) S1 ∧ ((S1.1 4) = 0 → (S.1 4) = 0 ∧ (S.1 3).toInt < (S1.1 3).toInt)) := by
  unfold wp_partWithin
  refine fm_emit _ _ _ _ _ _ (fun S1 r1 hF1 p2 => ?_) (sg_emit _ _ _ (by grind (ematch := 12) (splits := 16) [XI, PI, PJ, BU, LV, LG, OH, HH, HL, ix_int, q_zz, q_za, q_zga, q_fza, q_fx, q_fga, q_gza, q_gfa, q_gx, ti_link, in4002]))
  have ga_S1 := Fr_gaa hF1
  have z3_S1 := hF1.1 3 (by decide)
  have z4_S1 := hF1.1 4 (by decide)
  have z6_S1 := hF1.1 6 (by decide)
  have z8_S1 := hF1.1 8 (by decide)
  have z11_S1 := hF1.1 11 (by decide)
  have z12_S1 := hF1.1 12 (by decide)
  have z18_S1 := hF1.1 18 (by decide)
  have z19_S1 := hF1.1 19 (by decide)
  have f1_S1 := Fr_fa hF1 1 (by decide)
  have f2_S1 := Fr_fa hF1 2 (by decide)
  have f8_S1 := Fr_fa hF1 8 (by decide)
  have f46_S1 := Fr_fa hF1 46 (by decide)
  have f48_S1 := Fr_fa hF1 48 (by decide)
  have g3_S1 := Fr_ga hF1 3 (by decide)
  have g4_S1 := Fr_ga hF1 4 (by decide)
  clear hF1
  refine ⟨by grind (ematch := 12) (splits := 16) [XI, PI, PJ, BU, LV, LG, OH, HH, HL, ix_int, q_zz, q_za, q_zga, q_fza, q_fx, q_fga, q_gza, q_gfa, q_gx, ti_link, in4002], ?_⟩
  intro z2 ez2
  refine ⟨fun c3 => ?_, fun c3 => ?_⟩
  · refine fm_hasSign _ _ _ _ (fun S4 r4 hF4 p5 => ?_) (sg_hasSign (nx := nx) (n := n) (so := so) (pl := pl) (wo := wo) (ws := ws) _ (by grind (ematch := 12) (splits := 16) [XI, PI, PJ, BU, LV, LG, OH, HH, HL, ix_int, q_zz, q_za, q_zga, q_fza, q_fx, q_fga, q_gza, q_gfa, q_gx, ti_link, in4002]))
    have fa_S4 := Fr_faa hF4
    have ga_S4 := Fr_gaa hF4
    have z4_S4 := hF4.1 4 (by decide)
    have z6_S4 := hF4.1 6 (by decide)
    have z7_S4 := hF4.1 7 (by decide)
    have z8_S4 := hF4.1 8 (by decide)
    have z11_S4 := hF4.1 11 (by decide)
    have z12_S4 := hF4.1 12 (by decide)
    have z18_S4 := hF4.1 18 (by decide)
    have z19_S4 := hF4.1 19 (by decide)
    have f1_S4 := Fr_fa hF4 1 (by decide)
    have f2_S4 := Fr_fa hF4 2 (by decide)
    have f8_S4 := Fr_fa hF4 8 (by decide)
    have f46_S4 := Fr_fa hF4 46 (by decide)
    have f48_S4 := Fr_fa hF4 48 (by decide)
    have g3_S4 := Fr_ga hF4 3 (by decide)
    have g4_S4 := Fr_ga hF4 4 (by decide)
    clear hF4
    refine ⟨fun c6 => ?_, fun c6 => ?_⟩
    · refine fm_hasSign _ _ _ _ (fun S6 r6 hF7 p8 => ?_) (sg_hasSign (nx := nx) (n := n) (so := so) (pl := pl) (wo := wo) (ws := ws) _ (by grind (ematch := 12) (splits := 16) [XI, PI, PJ, BU, LV, LG, OH, HH, HL, ix_int, q_zz, q_za, q_zga, q_fza, q_fx, q_fga, q_gza, q_gfa, q_gx, ti_link, in4002]))
      have fa_S6 := Fr_faa hF7
      have ga_S6 := Fr_gaa hF7
      have z4_S6 := hF7.1 4 (by decide)
      have z6_S6 := hF7.1 6 (by decide)
      have z7_S6 := hF7.1 7 (by decide)
      have z8_S6 := hF7.1 8 (by decide)
      have z11_S6 := hF7.1 11 (by decide)
      have z12_S6 := hF7.1 12 (by decide)
      have z18_S6 := hF7.1 18 (by decide)
      have z19_S6 := hF7.1 19 (by decide)
      have f1_S6 := Fr_fa hF7 1 (by decide)
      have f2_S6 := Fr_fa hF7 2 (by decide)
      have f8_S6 := Fr_fa hF7 8 (by decide)
      have f46_S6 := Fr_fa hF7 46 (by decide)
      have f48_S6 := Fr_fa hF7 48 (by decide)
      have g3_S6 := Fr_ga hF7 3 (by decide)
      have g4_S6 := Fr_ga hF7 4 (by decide)
      clear hF7
      refine ⟨fun c9 => ?_, fun c9 => ?_⟩
      · refine fm_hasWord _ _ _ _ (fun S8 r8 hF10 p11 => ?_) (sg_hasWord (nx := nx) (n := n) (so := so) (pl := pl) (wo := wo) (ws := ws) _ (by grind (ematch := 12) (splits := 16) [XI, PI, PJ, BU, LV, LG, OH, HH, HL, ix_int, q_zz, q_za, q_zga, q_fza, q_fx, q_fga, q_gza, q_gfa, q_gx, ti_link, in4002]) (by grind (ematch := 12) (splits := 16) [XI, PI, PJ, BU, LV, LG, OH, HH, HL, ix_int, q_zz, q_za, q_zga, q_fza, q_fx, q_fga, q_gza, q_gfa, q_gx, ti_link, in4002]))
        have fa_S8 := Fr_faa hF10
        have ga_S8 := Fr_gaa hF10
        have z4_S8 := hF10.1 4 (by decide)
        have z6_S8 := hF10.1 6 (by decide)
        have z7_S8 := hF10.1 7 (by decide)
        have z8_S8 := hF10.1 8 (by decide)
        have z11_S8 := hF10.1 11 (by decide)
        have z12_S8 := hF10.1 12 (by decide)
        have z18_S8 := hF10.1 18 (by decide)
        have z19_S8 := hF10.1 19 (by decide)
        have f1_S8 := Fr_fa hF10 1 (by decide)
        have f2_S8 := Fr_fa hF10 2 (by decide)
        have f8_S8 := Fr_fa hF10 8 (by decide)
        have f46_S8 := Fr_fa hF10 46 (by decide)
        have f48_S8 := Fr_fa hF10 48 (by decide)
        have g3_S8 := Fr_ga hF10 3 (by decide)
        have g4_S8 := Fr_ga hF10 4 (by decide)
        clear hF10
        refine ⟨fun c12 => ?_, fun c12 => ?_⟩
        · refine fm_takeCell _ _ _ (fun S10 r10 hF13 p14 => ?_) (sg_takeCell (nx := nx) (n := n) (so := so) (pl := pl) (wo := wo) (ws := ws) (by grind (ematch := 12) (splits := 16) [XI, PI, PJ, BU, LV, LG, OH, HH, HL, ix_int, q_zz, q_za, q_zga, q_fza, q_fx, q_fga, q_gza, q_gfa, q_gx, ti_link, in4002]) (by grind (ematch := 12) (splits := 16) [XI, PI, PJ, BU, LV, LG, OH, HH, HL, ix_int, q_zz, q_za, q_zga, q_fza, q_fx, q_fga, q_gza, q_gfa, q_gx, ti_link, in4002]) (by grind (ematch := 12) (splits := 16) [XI, PI, PJ, BU, LV, LG, OH, HH, HL, ix_int, q_zz, q_za, q_zga, q_fza, q_fx, q_fga, q_gza, q_gfa, q_gx, ti_link, in4002]))
          have z6_S10 := hF13.1 6 (by decide)
          have z7_S10 := hF13.1 7 (by decide)
          have z8_S10 := hF13.1 8 (by decide)
          have z11_S10 := hF13.1 11 (by decide)
          have z12_S10 := hF13.1 12 (by decide)
          have z18_S10 := hF13.1 18 (by decide)
          have z19_S10 := hF13.1 19 (by decide)
          have f1_S10 := Fr_fa hF13 1 (by decide)
          have f2_S10 := Fr_fa hF13 2 (by decide)
          have f46_S10 := Fr_fa hF13 46 (by decide)
          have f48_S10 := Fr_fa hF13 48 (by decide)
          have g3_S10 := Fr_ga hF13 3 (by decide)
          have g4_S10 := Fr_ga hF13 4 (by decide)
          clear hF13
          refine fm_emit _ _ _ _ _ _ (fun S11 r11 hF15 p16 => ?_) (sg_emit _ _ _ (by grind (ematch := 12) (splits := 16) [XI, PI, PJ, BU, LV, LG, OH, HH, HL, ix_int, q_zz, q_za, q_zga, q_fza, q_fx, q_fga, q_gza, q_gfa, q_gx, ti_link, in4002]))
          have ga_S11 := Fr_gaa hF15
          have z3_S11 := hF15.1 3 (by decide)
          have z4_S11 := hF15.1 4 (by decide)
          have z6_S11 := hF15.1 6 (by decide)
          have z8_S11 := hF15.1 8 (by decide)
          have z11_S11 := hF15.1 11 (by decide)
          have z12_S11 := hF15.1 12 (by decide)
          have z18_S11 := hF15.1 18 (by decide)
          have z19_S11 := hF15.1 19 (by decide)
          have f1_S11 := Fr_fa hF15 1 (by decide)
          have f2_S11 := Fr_fa hF15 2 (by decide)
          have f8_S11 := Fr_fa hF15 8 (by decide)
          have f46_S11 := Fr_fa hF15 46 (by decide)
          have f48_S11 := Fr_fa hF15 48 (by decide)
          have g3_S11 := Fr_ga hF15 3 (by decide)
          have g4_S11 := Fr_ga hF15 4 (by decide)
          clear hF15
          refine fm_then _ _ _ _ _ (fun S12 r12 hF17 p18 => ?_) (sg_then _ _ (by grind (ematch := 12) (splits := 16) [XI, PI, PJ, BU, LV, LG, OH, HH, HL, ix_int, q_zz, q_za, q_zga, q_fza, q_fx, q_fga, q_gza, q_gfa, q_gx, ti_link, in4002]))
          have ga_S12 := Fr_gaa hF17
          have z3_S12 := hF17.1 3 (by decide)
          have z4_S12 := hF17.1 4 (by decide)
          have z6_S12 := hF17.1 6 (by decide)
          have z7_S12 := hF17.1 7 (by decide)
          have z11_S12 := hF17.1 11 (by decide)
          have z12_S12 := hF17.1 12 (by decide)
          have z18_S12 := hF17.1 18 (by decide)
          have f1_S12 := Fr_fa hF17 1 (by decide)
          have f2_S12 := Fr_fa hF17 2 (by decide)
          have f8_S12 := Fr_fa hF17 8 (by decide)
          have f46_S12 := Fr_fa hF17 46 (by decide)
          have f48_S12 := Fr_fa hF17 48 (by decide)
          have g3_S12 := Fr_ga hF17 3 (by decide)
          have g4_S12 := Fr_ga hF17 4 (by decide)
          clear hF17
          grind (ematch := 12) (splits := 16) [XI, PI, PJ, BU, LV, LG, OH, HH, HL, ix_int, q_zz, q_za, q_zga, q_fza, q_fx, q_fga, q_gza, q_gfa, q_gx, ti_link, in4002]
        · refine fm_emit _ _ _ _ _ _ (fun S13 r13 hF19 p20 => ?_) (sg_emit _ _ _ (by grind (ematch := 12) (splits := 16) [XI, PI, PJ, BU, LV, LG, OH, HH, HL, ix_int, q_zz, q_za, q_zga, q_fza, q_fx, q_fga, q_gza, q_gfa, q_gx, ti_link, in4002]))
          have ga_S13 := Fr_gaa hF19
          have z3_S13 := hF19.1 3 (by decide)
          have z4_S13 := hF19.1 4 (by decide)
          have z6_S13 := hF19.1 6 (by decide)
          have z8_S13 := hF19.1 8 (by decide)
          have z11_S13 := hF19.1 11 (by decide)
          have z12_S13 := hF19.1 12 (by decide)
          have z18_S13 := hF19.1 18 (by decide)
          have z19_S13 := hF19.1 19 (by decide)
          have f1_S13 := Fr_fa hF19 1 (by decide)
          have f2_S13 := Fr_fa hF19 2 (by decide)
          have f8_S13 := Fr_fa hF19 8 (by decide)
          have f46_S13 := Fr_fa hF19 46 (by decide)
          have f48_S13 := Fr_fa hF19 48 (by decide)
          have g3_S13 := Fr_ga hF19 3 (by decide)
          have g4_S13 := Fr_ga hF19 4 (by decide)
          clear hF19
          grind (ematch := 12) (splits := 16) [XI, PI, PJ, BU, LV, LG, OH, HH, HL, ix_int, q_zz, q_za, q_zga, q_fza, q_fx, q_fga, q_gza, q_gfa, q_gx, ti_link, in4002]
      · refine hf_part _ _ _ (fun S14 hF21 p22 => ?_) (hr_part d (G - 3) GA X Y _ (by grind (ematch := 12) (splits := 16) [XI, PI, PJ, BU, LV, LG, OH, HH, HL, ix_int, q_zz, q_za, q_zga, q_fza, q_fx, q_fga, q_gza, q_gfa, q_gx, ti_link, in4002]) (by grind (ematch := 12) (splits := 16) [XI, PI, PJ, BU, LV, LG, OH, HH, HL, ix_int, q_zz, q_za, q_zga, q_fza, q_fx, q_fga, q_gza, q_gfa, q_gx, ti_link, in4002]) (by grind (ematch := 12) (splits := 16) [XI, PI, PJ, BU, LV, LG, OH, HH, HL, ix_int, q_zz, q_za, q_zga, q_fza, q_fx, q_fga, q_gza, q_gfa, q_gx, ti_link, in4002]))
        have z6_S14 := hF21.1 6 (by decide)
        have z11_S14 := hF21.1 11 (by decide)
        have z12_S14 := hF21.1 12 (by decide)
        have f1_S14 := Fr_fa hF21 1 (by decide)
        have f2_S14 := Fr_fa hF21 2 (by decide)
        have f46_S14 := Fr_fa hF21 46 (by decide)
        have f48_S14 := Fr_fa hF21 48 (by decide)
        have g3_S14 := Fr_ga hF21 3 (by decide)
        have g4_S14 := Fr_ga hF21 4 (by decide)
        clear hF21
        refine fm_emit _ _ _ _ _ _ (fun S15 r15 hF23 p24 => ?_) (sg_emit _ _ _ (by grind (ematch := 12) (splits := 16) [XI, PI, PJ, BU, LV, LG, OH, HH, HL, ix_int, q_zz, q_za, q_zga, q_fza, q_fx, q_fga, q_gza, q_gfa, q_gx, ti_link, in4002]))
        have ga_S15 := Fr_gaa hF23
        have z3_S15 := hF23.1 3 (by decide)
        have z4_S15 := hF23.1 4 (by decide)
        have z6_S15 := hF23.1 6 (by decide)
        have z8_S15 := hF23.1 8 (by decide)
        have z11_S15 := hF23.1 11 (by decide)
        have z12_S15 := hF23.1 12 (by decide)
        have z18_S15 := hF23.1 18 (by decide)
        have z19_S15 := hF23.1 19 (by decide)
        have f1_S15 := Fr_fa hF23 1 (by decide)
        have f2_S15 := Fr_fa hF23 2 (by decide)
        have f8_S15 := Fr_fa hF23 8 (by decide)
        have f46_S15 := Fr_fa hF23 46 (by decide)
        have f48_S15 := Fr_fa hF23 48 (by decide)
        have g3_S15 := Fr_ga hF23 3 (by decide)
        have g4_S15 := Fr_ga hF23 4 (by decide)
        clear hF23
        grind (ematch := 12) (splits := 16) [XI, PI, PJ, BU, LV, LG, OH, HH, HL, ix_int, q_zz, q_za, q_zga, q_fza, q_fx, q_fga, q_gza, q_gfa, q_gx, ti_link, in4002]
    · refine fm_expression hf_part _ _ _ (fun S16 hF25 p26 => ?_) (sg_expression hf_part hr_part (nx := nx) (n := n) (so := so) (pl := pl) (wo := wo) (ws := ws) (S0 := S0) (d := d) (G := (G - 3)) (GA := GA) (X := X) (Y := Y) (D := D) (by grind (ematch := 12) (splits := 16) [XI, PI, PJ, BU, LV, LG, OH, HH, HL, ix_int, q_zz, q_za, q_zga, q_fza, q_fx, q_fga, q_gza, q_gfa, q_gx, ti_link, in4002]) (by grind (ematch := 12) (splits := 16) [XI, PI, PJ, BU, LV, LG, OH, HH, HL, ix_int, q_zz, q_za, q_zga, q_fza, q_fx, q_fga, q_gza, q_gfa, q_gx, ti_link, in4002]) (by grind (ematch := 12) (splits := 16) [XI, PI, PJ, BU, LV, LG, OH, HH, HL, ix_int, q_zz, q_za, q_zga, q_fza, q_fx, q_fga, q_gza, q_gfa, q_gx, ti_link, in4002]))
      have z6_S16 := hF25.1 6 (by decide)
      have z11_S16 := hF25.1 11 (by decide)
      have z12_S16 := hF25.1 12 (by decide)
      have f1_S16 := Fr_fa hF25 1 (by decide)
      have f2_S16 := Fr_fa hF25 2 (by decide)
      have f46_S16 := Fr_fa hF25 46 (by decide)
      have f48_S16 := Fr_fa hF25 48 (by decide)
      have g3_S16 := Fr_ga hF25 3 (by decide)
      have g4_S16 := Fr_ga hF25 4 (by decide)
      clear hF25
      refine fm_takeSign _ _ _ _ (fun S17 hF27 p28 => ?_) (sg_takeSign (nx := nx) (n := n) (so := so) (pl := pl) (wo := wo) (ws := ws) _ (by grind (ematch := 12) (splits := 16) [XI, PI, PJ, BU, LV, LG, OH, HH, HL, ix_int, q_zz, q_za, q_zga, q_fza, q_fx, q_fga, q_gza, q_gfa, q_gx, ti_link, in4002]))
      have fa_S17 := Fr_faa hF27
      have ga_S17 := Fr_gaa hF27
      have z6_S17 := hF27.1 6 (by decide)
      have z7_S17 := hF27.1 7 (by decide)
      have z8_S17 := hF27.1 8 (by decide)
      have z11_S17 := hF27.1 11 (by decide)
      have z12_S17 := hF27.1 12 (by decide)
      have z18_S17 := hF27.1 18 (by decide)
      have z19_S17 := hF27.1 19 (by decide)
      have f1_S17 := Fr_fa hF27 1 (by decide)
      have f2_S17 := Fr_fa hF27 2 (by decide)
      have f8_S17 := Fr_fa hF27 8 (by decide)
      have f46_S17 := Fr_fa hF27 46 (by decide)
      have f48_S17 := Fr_fa hF27 48 (by decide)
      have g3_S17 := Fr_ga hF27 3 (by decide)
      have g4_S17 := Fr_ga hF27 4 (by decide)
      clear hF27
      grind (ematch := 12) (splits := 16) [XI, PI, PJ, BU, LV, LG, OH, HH, HL, ix_int, q_zz, q_za, q_zga, q_fza, q_fx, q_fga, q_gza, q_gfa, q_gx, ti_link, in4002]
  · refine ⟨by grind (ematch := 12) (splits := 16) [XI, PI, PJ, BU, LV, LG, OH, HH, HL, ix_int, q_zz, q_za, q_zga, q_fza, q_fx, q_fga, q_gza, q_gfa, q_gx, ti_link, in4002], ?_⟩
    intro z18 ez18
    intro z19 ez19
    refine fm_emit _ _ _ _ _ _ (fun S20 r20 hF29 p30 => ?_) (sg_emit _ _ _ (by grind (ematch := 12) (splits := 16) [XI, PI, PJ, BU, LV, LG, OH, HH, HL, ix_int, q_zz, q_za, q_zga, q_fza, q_fx, q_fga, q_gza, q_gfa, q_gx, ti_link, in4002]))
    have ga_S20 := Fr_gaa hF29
    have z3_S20 := hF29.1 3 (by decide)
    have z4_S20 := hF29.1 4 (by decide)
    have z6_S20 := hF29.1 6 (by decide)
    have z8_S20 := hF29.1 8 (by decide)
    have z11_S20 := hF29.1 11 (by decide)
    have z12_S20 := hF29.1 12 (by decide)
    have z18_S20 := hF29.1 18 (by decide)
    have z19_S20 := hF29.1 19 (by decide)
    have f1_S20 := Fr_fa hF29 1 (by decide)
    have f2_S20 := Fr_fa hF29 2 (by decide)
    have f8_S20 := Fr_fa hF29 8 (by decide)
    have f46_S20 := Fr_fa hF29 46 (by decide)
    have f48_S20 := Fr_fa hF29 48 (by decide)
    have g3_S20 := Fr_ga hF29 3 (by decide)
    have g4_S20 := Fr_ga hF29 4 (by decide)
    clear hF29
    intro z21 ez21
    intro S22 eS22
    grind (ematch := 12) (splits := 16) [XI, PI, PJ, BU, LV, LG, OH, HH, HL, ix_int, q_zz, q_za, q_zga, q_fza, q_fx, q_fga, q_gza, q_gfa, q_gx, ti_link, in4002]
set_option maxHeartbeats 4000000 in
theorem sg_part {r_part : mS → (mS → Prop) → Prop} (hf_part : FmV [3, 4, 7, 8, 18, 19] [8, 12, 13, 14, 15, 16, 17, 18, 19, 20, 21] [9] (r_part)) (hr_part : ∀ (d : Nat) (G GA X Y : Int) (S : mS), D ≤ d → LV d G GA X Y → XI nx n so pl wo ws S0 d G GA X Y S → r_part S (fun S1 => XI nx n so pl wo ws S0 d (G - 1) GA X Y S1 ∧ ((S1.1 4) = 0 → (S.1 4) = 0 ∧ (S.1 3).toInt < (S1.1 3).toInt))) {nx n : Nat} {so pl : Nat → Int32} {wo ws : Nat → Int64} {S0 : mS} {D d : Nat} {G GA X Y : Int} {S : mS} (hL : LV d G GA X Y) (h : XI nx n so pl wo ws S0 d G GA X Y S) (hD : D ≤ d + 1) : wp_part r_part S (fun S1 => XI nx n so pl wo ws S0 d (G - 1) GA X Y S1 ∧ ((S1.1 4) = 0 → (S.1 4) = 0 ∧ (S.1 3).toInt < (S1.1 3).toInt)) := by
  unfold wp_part
  have j60 : ∀ (y1 : Int32) (Sx : mS), (Sx = S ∧ (¬ y1 = 0 → (S.1 4) = 0 ∧ (S.1 3).toInt < n)) → wp_part_60 r_part (fun S1 => XI nx n so pl wo ws S0 d (G - 1) GA X Y S1 ∧ ((S1.1 4) = 0 → (S.1 4) = 0 ∧ (S.1 3).toInt < (S1.1 3).toInt)) y1 Sx := by
    intro y1 Sx hJ60
    unfold wp_part_60
    refine fm_within _ _ _ _ (fun S12 hF1 p2 => ?_) (sg_within (nx := nx) (n := n) (so := so) (pl := pl) (wo := wo) (ws := ws) _ (by grind (ematch := 12) (splits := 16) [XI, PI, PJ, BU, LV, LG, OH, HH, HL, ix_int, q_zz, q_za, q_zga, q_fza, q_fx, q_fga, q_gza, q_gfa, q_gx, ti_link, in4002]) (by grind (ematch := 12) (splits := 16) [XI, PI, PJ, BU, LV, LG, OH, HH, HL, ix_int, q_zz, q_za, q_zga, q_fza, q_fx, q_fga, q_gza, q_gfa, q_gx, ti_link, in4002]))
    have fa_S12 := Fr_faa hF1
    have ga_S12 := Fr_gaa hF1
    have z3_S12 := hF1.1 3 (by decide)
    have z6_S12 := hF1.1 6 (by decide)
    have z7_S12 := hF1.1 7 (by decide)
    have z8_S12 := hF1.1 8 (by decide)
    have z11_S12 := hF1.1 11 (by decide)
    have z12_S12 := hF1.1 12 (by decide)
    have z19_S12 := hF1.1 19 (by decide)
    have f1_S12 := Fr_fa hF1 1 (by decide)
    have f2_S12 := Fr_fa hF1 2 (by decide)
    have f8_S12 := Fr_fa hF1 8 (by decide)
    have f46_S12 := Fr_fa hF1 46 (by decide)
    have f48_S12 := Fr_fa hF1 48 (by decide)
    have g3_S12 := Fr_ga hF1 3 (by decide)
    have g4_S12 := Fr_ga hF1 4 (by decide)
    clear hF1
    refine ⟨fun c3 => ?_, fun c3 => ?_⟩
    · unfold wp_part_74
      intro z15 ez15
      intro S16 eS16
      grind (ematch := 12) (splits := 16) [XI, PI, PJ, BU, LV, LG, OH, HH, HL, ix_int, q_zz, q_za, q_zga, q_fza, q_fx, q_fga, q_gza, q_gfa, q_gx, ti_link, in4002]
    · refine fm_partWithin hf_part _ _ _ (fun S14 hF4 p5 => ?_) (sg_partWithin hf_part hr_part (nx := nx) (n := n) (so := so) (pl := pl) (wo := wo) (ws := ws) (S0 := S0) (d := (d + 1)) (G := G) (GA := GA) (X := (1000 - 40 * (d + 1))) (Y := (400 - 20 * (d + 1))) (D := D) (by grind (ematch := 12) (splits := 16) [XI, PI, PJ, BU, LV, LG, OH, HH, HL, ix_int, q_zz, q_za, q_zga, q_fza, q_fx, q_fga, q_gza, q_gfa, q_gx, ti_link, in4002]) (by grind (ematch := 12) (splits := 16) [XI, PI, PJ, BU, LV, LG, OH, HH, HL, ix_int, q_zz, q_za, q_zga, q_fza, q_fx, q_fga, q_gza, q_gfa, q_gx, ti_link, in4002]) (by grind (ematch := 12) (splits := 16) [XI, PI, PJ, BU, LV, LG, OH, HH, HL, ix_int, q_zz, q_za, q_zga, q_fza, q_fx, q_fga, q_gza, q_gfa, q_gx, ti_link, in4002]) (by grind (ematch := 12) (splits := 16) [XI, PI, PJ, BU, LV, LG, OH, HH, HL, ix_int, q_zz, q_za, q_zga, q_fza, q_fx, q_fga, q_gza, q_gfa, q_gx, ti_link, in4002]))
      have z6_S14 := hF4.1 6 (by decide)
      have z11_S14 := hF4.1 11 (by decide)
      have z12_S14 := hF4.1 12 (by decide)
      have f1_S14 := Fr_fa hF4 1 (by decide)
      have f2_S14 := Fr_fa hF4 2 (by decide)
      have f46_S14 := Fr_fa hF4 46 (by decide)
      have f48_S14 := Fr_fa hF4 48 (by decide)
      have g3_S14 := Fr_ga hF4 3 (by decide)
      have g4_S14 := Fr_ga hF4 4 (by decide)
      clear hF4
      unfold wp_part_74
      intro z15 ez15
      intro S16 eS16
      grind (ematch := 12) (splits := 16) [XI, PI, PJ, BU, LV, LG, OH, HH, HL, ix_int, q_zz, q_za, q_zga, q_fza, q_fx, q_fga, q_gza, q_gfa, q_gx, ti_link, in4002]
  refine ⟨fun c6 => ?_, fun c6 => ?_⟩
  · unfold wp_part_59
    exact j60 _ _ (by grind (ematch := 12) (splits := 16) [XI, PI, PJ, BU, LV, LG, OH, HH, HL, ix_int, q_zz, q_za, q_zga, q_fza, q_fx, q_fga, q_gza, q_gfa, q_gx, ti_link, in4002])
  · refine ⟨by grind (ematch := 12) (splits := 16) [XI, PI, PJ, BU, LV, LG, OH, HH, HL, ix_int, q_zz, q_za, q_zga, q_fza, q_fx, q_fga, q_gza, q_gfa, q_gx, ti_link, in4002], ?_⟩
    intro z2 ez2
    refine ⟨fun c7 => ?_, fun c7 => ?_⟩
    · unfold wp_part_55
      exact j60 _ _ (by grind (ematch := 12) (splits := 16) [XI, PI, PJ, BU, LV, LG, OH, HH, HL, ix_int, q_zz, q_za, q_zga, q_fza, q_fx, q_fga, q_gza, q_gfa, q_gx, ti_link, in4002])
    · refine fm_isSign _ _ _ _ (fun S4 r4 hF8 p9 => ?_) (sg_isSign (nx := nx) (n := n) (so := so) (pl := pl) (wo := wo) (ws := ws) _ (by grind (ematch := 12) (splits := 16) [XI, PI, PJ, BU, LV, LG, OH, HH, HL, ix_int, q_zz, q_za, q_zga, q_fza, q_fx, q_fga, q_gza, q_gfa, q_gx, ti_link, in4002]))
      have fa_S4 := Fr_faa hF8
      have ga_S4 := Fr_gaa hF8
      have z3_S4 := hF8.1 3 (by decide)
      have z4_S4 := hF8.1 4 (by decide)
      have z6_S4 := hF8.1 6 (by decide)
      have z7_S4 := hF8.1 7 (by decide)
      have z8_S4 := hF8.1 8 (by decide)
      have z11_S4 := hF8.1 11 (by decide)
      have z12_S4 := hF8.1 12 (by decide)
      have z18_S4 := hF8.1 18 (by decide)
      have z19_S4 := hF8.1 19 (by decide)
      have f1_S4 := Fr_fa hF8 1 (by decide)
      have f2_S4 := Fr_fa hF8 2 (by decide)
      have f8_S4 := Fr_fa hF8 8 (by decide)
      have f46_S4 := Fr_fa hF8 46 (by decide)
      have f48_S4 := Fr_fa hF8 48 (by decide)
      have g3_S4 := Fr_ga hF8 3 (by decide)
      have g4_S4 := Fr_ga hF8 4 (by decide)
      clear hF8
      refine ⟨fun c10 => ?_, fun c10 => ?_⟩
      · unfold wp_part_55
        exact j60 _ _ (by grind (ematch := 12) (splits := 16) [XI, PI, PJ, BU, LV, LG, OH, HH, HL, ix_int, q_zz, q_za, q_zga, q_fza, q_fx, q_fga, q_gza, q_gfa, q_gx, ti_link, in4002])
      · refine fm_isSign _ _ _ _ (fun S6 r6 hF11 p12 => ?_) (sg_isSign (nx := nx) (n := n) (so := so) (pl := pl) (wo := wo) (ws := ws) _ (by grind (ematch := 12) (splits := 16) [XI, PI, PJ, BU, LV, LG, OH, HH, HL, ix_int, q_zz, q_za, q_zga, q_fza, q_fx, q_fga, q_gza, q_gfa, q_gx, ti_link, in4002]))
        have fa_S6 := Fr_faa hF11
        have ga_S6 := Fr_gaa hF11
        have z3_S6 := hF11.1 3 (by decide)
        have z4_S6 := hF11.1 4 (by decide)
        have z6_S6 := hF11.1 6 (by decide)
        have z7_S6 := hF11.1 7 (by decide)
        have z8_S6 := hF11.1 8 (by decide)
        have z11_S6 := hF11.1 11 (by decide)
        have z12_S6 := hF11.1 12 (by decide)
        have z18_S6 := hF11.1 18 (by decide)
        have z19_S6 := hF11.1 19 (by decide)
        have f1_S6 := Fr_fa hF11 1 (by decide)
        have f2_S6 := Fr_fa hF11 2 (by decide)
        have f8_S6 := Fr_fa hF11 8 (by decide)
        have f46_S6 := Fr_fa hF11 46 (by decide)
        have f48_S6 := Fr_fa hF11 48 (by decide)
        have g3_S6 := Fr_ga hF11 3 (by decide)
        have g4_S6 := Fr_ga hF11 4 (by decide)
        clear hF11
        refine ⟨fun c13 => ?_, fun c13 => ?_⟩
        · unfold wp_part_55
          exact j60 _ _ (by grind (ematch := 12) (splits := 16) [XI, PI, PJ, BU, LV, LG, OH, HH, HL, ix_int, q_zz, q_za, q_zga, q_fza, q_fx, q_fga, q_gza, q_gfa, q_gx, ti_link, in4002])
        · refine fm_isWord _ _ _ _ (fun S8 r8 hF14 p15 => ?_) (sg_isWord (nx := nx) (n := n) (so := so) (pl := pl) (wo := wo) (ws := ws) _ (by grind (ematch := 12) (splits := 16) [XI, PI, PJ, BU, LV, LG, OH, HH, HL, ix_int, q_zz, q_za, q_zga, q_fza, q_fx, q_fga, q_gza, q_gfa, q_gx, ti_link, in4002]) (by grind (ematch := 12) (splits := 16) [XI, PI, PJ, BU, LV, LG, OH, HH, HL, ix_int, q_zz, q_za, q_zga, q_fza, q_fx, q_fga, q_gza, q_gfa, q_gx, ti_link, in4002]))
          have fa_S8 := Fr_faa hF14
          have ga_S8 := Fr_gaa hF14
          have z3_S8 := hF14.1 3 (by decide)
          have z4_S8 := hF14.1 4 (by decide)
          have z6_S8 := hF14.1 6 (by decide)
          have z7_S8 := hF14.1 7 (by decide)
          have z8_S8 := hF14.1 8 (by decide)
          have z11_S8 := hF14.1 11 (by decide)
          have z12_S8 := hF14.1 12 (by decide)
          have z18_S8 := hF14.1 18 (by decide)
          have z19_S8 := hF14.1 19 (by decide)
          have f1_S8 := Fr_fa hF14 1 (by decide)
          have f2_S8 := Fr_fa hF14 2 (by decide)
          have f8_S8 := Fr_fa hF14 8 (by decide)
          have f46_S8 := Fr_fa hF14 46 (by decide)
          have f48_S8 := Fr_fa hF14 48 (by decide)
          have g3_S8 := Fr_ga hF14 3 (by decide)
          have g4_S8 := Fr_ga hF14 4 (by decide)
          clear hF14
          refine ⟨fun c16 => ?_, fun c16 => ?_⟩
          · unfold wp_part_55
            exact j60 _ _ (by grind (ematch := 12) (splits := 16) [XI, PI, PJ, BU, LV, LG, OH, HH, HL, ix_int, q_zz, q_za, q_zga, q_fza, q_fx, q_fga, q_gza, q_gfa, q_gx, ti_link, in4002])
          · refine fm_isName _ _ _ (fun S10 r10 hF17 p18 => ?_) (sg_isName (nx := nx) (n := n) (so := so) (pl := pl) (wo := wo) (ws := ws) (by grind (ematch := 12) (splits := 16) [XI, PI, PJ, BU, LV, LG, OH, HH, HL, ix_int, q_zz, q_za, q_zga, q_fza, q_fx, q_fga, q_gza, q_gfa, q_gx, ti_link, in4002]))
            have fa_S10 := Fr_faa hF17
            have ga_S10 := Fr_gaa hF17
            have z3_S10 := hF17.1 3 (by decide)
            have z4_S10 := hF17.1 4 (by decide)
            have z6_S10 := hF17.1 6 (by decide)
            have z7_S10 := hF17.1 7 (by decide)
            have z8_S10 := hF17.1 8 (by decide)
            have z11_S10 := hF17.1 11 (by decide)
            have z12_S10 := hF17.1 12 (by decide)
            have z18_S10 := hF17.1 18 (by decide)
            have z19_S10 := hF17.1 19 (by decide)
            have f1_S10 := Fr_fa hF17 1 (by decide)
            have f2_S10 := Fr_fa hF17 2 (by decide)
            have f8_S10 := Fr_fa hF17 8 (by decide)
            have f46_S10 := Fr_fa hF17 46 (by decide)
            have f48_S10 := Fr_fa hF17 48 (by decide)
            have g3_S10 := Fr_ga hF17 3 (by decide)
            have g4_S10 := Fr_ga hF17 4 (by decide)
            clear hF17
            refine ⟨fun c19 => ?_, fun c19 => ?_⟩
            · unfold wp_part_59
              exact j60 _ _ (by grind (ematch := 12) (splits := 16) [XI, PI, PJ, BU, LV, LG, OH, HH, HL, ix_int, q_zz, q_za, q_zga, q_fza, q_fx, q_fga, q_gza, q_gfa, q_gx, ti_link, in4002])
            · unfold wp_part_55
              exact j60 _ _ (by grind (ematch := 12) (splits := 16) [XI, PI, PJ, BU, LV, LG, OH, HH, HL, ix_int, q_zz, q_za, q_zga, q_fza, q_fx, q_fga, q_gza, q_gfa, q_gx, ti_link, in4002])
theorem rp_part {nx n : Nat} {so pl : Nat → Int32} {wo ws : Nat → Int64} {S0 : mS} : ∀ (m D : Nat), 11 ≤ m + D → ∀ (d : Nat) (G GA X Y : Int) (S : mS), D ≤ d → LV d G GA X Y → XI nx n so pl wo ws S0 d G GA X Y S → wr_part m S (fun S1 => XI nx n so pl wo ws S0 d (G - 1) GA X Y S1 ∧ ((S1.1 4) = 0 → (S.1 4) = 0 ∧ (S.1 3).toInt < (S1.1 3).toInt)) := by
  intro m
  induction m with
  | zero => intro D hD d G GA X Y S h1 h2 h3; exact absurd h2.1 (by omega)
  | succ m ih => intro D hD d G GA X Y S h1 h2 h3; exact sg_part (D := D + 1) (fr_part m) (ih (D + 1) (by omega)) h2 h3 (by omega)
theorem sq_expression {nx n : Nat} {so pl : Nat → Int32} {wo ws : Nat → Int64} {S0 : mS} {d : Nat} {G GA X Y : Int} {S : mS} (hL : LV d G GA X Y) (h : XI nx n so pl wo ws S0 d G GA X Y S) : wq_expression S (fun S1 => XI nx n so pl wo ws S0 d (G - 1) GA (X + 6) (Y + 1) S1 ∧ ((S1.1 4) = 0 → (S.1 4) = 0 ∧ (S.1 3).toInt < (S1.1 3).toInt)) := sg_expression (D := 0) (fr_part 12) (rp_part 12 0 (by omega)) hL h (Nat.zero_le _)
