
/-- between two routines -/
def QI (nx n : Nat) (so pl : Nat → Int32) (wo ws : Nat → Int64) (S0 : mS) (GW GT : Int) (S : mS) : Prop := PI nx n so pl wo ws S ∧ OH nx S0 S ∧ (∀ k : Nat, (k : Int) < (S.1 11).toInt → 0 ≤ ((S.2.1 46) k).toInt ∧ ((S.2.1 46) k).toInt ≤ n ∧ 12000 * nx ≤ ((S.2.1 48) k).toInt ∧ ((S.2.1 48) k).toInt < (S.1 7).toInt) ∧ LG2 n so pl wo ws ∧ (∀ i, i < 24 → 0 ≤ ((S.2.1 8) i).toInt ∧ ((S.2.1 8) i).toInt ≤ 12) ∧ 12000 * nx ≤ (S.1 8).toInt ∧ 12000 * nx ≤ (S.1 7).toInt ∧ 0 ≤ (S.1 11).toInt ∧ (S.1 11).toInt ≤ 1000 ∧ ((S.1 4) = 0 → 4 * (S.1 11).toInt ≤ (S.1 3).toInt) ∧ BU nx n 0 0 1100 450 S ∧ 500 * nx ≤ (S.1 9).toInt ∧ (S.1 9).toInt ≤ 500 * nx + 500 ∧ 500 * nx ≤ (S.1 10).toInt ∧ (S.1 10).toInt ≤ 500 * nx + 500 ∧ (∀ t : Nat, 500 * nx ≤ t → (t : Int) < (S.1 9).toInt → (((S.2.1 25) t).toInt = -1 ∨ (500 * nx ≤ ((S.2.1 25) t).toInt ∧ ((S.2.1 25) t).toInt < t)) ∧ 12000 * nx ≤ ((S.2.1 36) t).toInt ∧ ((S.2.1 36) t).toInt < (S.1 8).toInt ∧ 12000 * nx ≤ ((S.2.1 35) t).toInt ∧ ((S.2.1 35) t).toInt < (S.1 8).toInt) ∧ (∀ w : Nat, 500 * nx ≤ w → (w : Int) < (S.1 10).toInt → 12000 * nx ≤ ((S.2.1 45) w).toInt ∧ ((S.2.1 45) w).toInt < (S.1 8).toInt) ∧ ((S.1 20) = 0 ∨ (S.1 20) = 1) ∧ WB nx pl GW GT S ∧ 0 ≤ ((S.2.1 5) nx).toInt ∧ ((S.2.1 5) nx).toInt ≤ 12
set_option maxHeartbeats 4000000 in
theorem sg_toldRoutine {nx n : Nat} {so pl : Nat → Int32} {wo ws : Nat → Int64} {S0 : mS} {S : mS} (h : QI nx n so pl wo ws S0 0 0 S) (hf : (S.1 4) = 0 ∧ (S.1 3).toInt < n ∧ so (ix (S.1 3)) = 1 ∧ wo (ix (S.1 3)) = ws 0) : wp_toldRoutine S (fun S1 => QI nx n so pl wo ws S0 0 0 S1 ∧ ((S1.1 4) = 0 → (S.1 4) = 0 ∧ (S.1 3).toInt < (S1.1 3).toInt)) := by
  unfold wp_toldRoutine
  have j180 : ∀ (x1 : Int32) (x2 : Int64) (Sx : mS), (QI nx n so pl wo ws S0 (-9) 0 Sx ∧ x1.toInt = 12 * nx + ((Sx.2.1 5) nx).toInt ∧ ((Sx.2.1 5) nx).toInt < 12 ∧ ((Sx.1 4) = 0 → (S.1 4) = 0 ∧ (S.1 3).toInt < (Sx.1 3).toInt) ∧ (Sx.1 12) = x1 ∧ ((Sx.2.1 10) (ix x1)).toInt = 0) → wp_toldRoutine_180 (fun S1 => QI nx n so pl wo ws S0 0 0 S1 ∧ ((S1.1 4) = 0 → (S.1 4) = 0 ∧ (S.1 3).toInt < (S1.1 3).toInt)) x1 x2 Sx := by
    intro x1 x2 Sx hJ180
    unfold wp_toldRoutine_180
    refine fm_takeSign _ _ _ _ (fun S31 hF1 p2 => ?_) (sg_takeSign (nx := nx) (n := n) (so := so) (pl := pl) (wo := wo) (ws := ws) _ (by grind (ematch := 12) (splits := 16) [QI, SI, PT, WB, PLM, ix_1, ix_eq, LG2, XI, PI, PJ, BU, LV, LG, OH, HH, HL, ix_int, q_zz, q_za, q_zga, q_fza, q_fx, q_fga, q_gza, q_gfa, q_gx, ti_link, in2, in24, in4002]))
    have fa_S31 := Fr_faa hF1
    have ga_S31 := Fr_gaa hF1
    have z6_S31 := hF1.1 6 (by decide)
    have z7_S31 := hF1.1 7 (by decide)
    have z8_S31 := hF1.1 8 (by decide)
    have z9_S31 := hF1.1 9 (by decide)
    have z10_S31 := hF1.1 10 (by decide)
    have z11_S31 := hF1.1 11 (by decide)
    have z12_S31 := hF1.1 12 (by decide)
    have z13_S31 := hF1.1 13 (by decide)
    have z15_S31 := hF1.1 15 (by decide)
    have z17_S31 := hF1.1 17 (by decide)
    have z18_S31 := hF1.1 18 (by decide)
    have z19_S31 := hF1.1 19 (by decide)
    have z20_S31 := hF1.1 20 (by decide)
    have z5_S31 := hF1.1 5 (by decide)
    have f1_S31 := Fr_fa hF1 1 (by decide)
    have f2_S31 := Fr_fa hF1 2 (by decide)
    have f8_S31 := Fr_fa hF1 8 (by decide)
    have f10_S31 := Fr_fa hF1 10 (by decide)
    have f25_S31 := Fr_fa hF1 25 (by decide)
    have f28_S31 := Fr_fa hF1 28 (by decide)
    have f35_S31 := Fr_fa hF1 35 (by decide)
    have f36_S31 := Fr_fa hF1 36 (by decide)
    have f45_S31 := Fr_fa hF1 45 (by decide)
    have f46_S31 := Fr_fa hF1 46 (by decide)
    have f48_S31 := Fr_fa hF1 48 (by decide)
    have f5_S31 := Fr_fa hF1 5 (by decide)
    have g3_S31 := Fr_ga hF1 3 (by decide)
    have g4_S31 := Fr_ga hF1 4 (by decide)
    clear hF1
    refine ⟨by grind (ematch := 12) (splits := 16) [QI, SI, PT, WB, PLM, ix_1, ix_eq, LG2, XI, PI, PJ, BU, LV, LG, OH, HH, HL, ix_int, q_zz, q_za, q_zga, q_fza, q_fx, q_fga, q_gza, q_gfa, q_gx, ti_link, in2, in24, in4002], ?_⟩
    intro z32 ez32
    refine ⟨by grind (ematch := 12) (splits := 16) [QI, SI, PT, WB, PLM, ix_1, ix_eq, LG2, XI, PI, PJ, BU, LV, LG, OH, HH, HL, ix_int, q_zz, q_za, q_zga, q_fza, q_fx, q_fga, q_gza, q_gfa, q_gx, ti_link, in2, in24, in4002], ?_⟩
    intro S33 eS33
    refine ⟨fun c3 => ?_, fun c3 => ?_⟩
    · refine ⟨by grind (ematch := 12) (splits := 16) [QI, SI, PT, WB, PLM, ix_1, ix_eq, LG2, XI, PI, PJ, BU, LV, LG, OH, HH, HL, ix_int, q_zz, q_za, q_zga, q_fza, q_fx, q_fga, q_gza, q_gfa, q_gx, ti_link, in2, in24, in4002], ?_⟩
      intro S35 eS35
      intro S36 eS36
      intro S37 eS37
      intro S38 eS38
      intro S39 eS39
      intro S40 eS40
      intro S41 eS41
      refine fm_act _ _ _ _ _ (fun S42 r42 hF4 p5 => ?_) (sg_act _ _ (by grind (ematch := 12) (splits := 16) [QI, SI, PT, WB, PLM, ix_1, ix_eq, LG2, XI, PI, PJ, BU, LV, LG, OH, HH, HL, ix_int, q_zz, q_za, q_zga, q_fza, q_fx, q_fga, q_gza, q_gfa, q_gx, ti_link, in2, in24, in4002]))
      have ga_S42 := Fr_gaa hF4
      have z3_S42 := hF4.1 3 (by decide)
      have z4_S42 := hF4.1 4 (by decide)
      have z6_S42 := hF4.1 6 (by decide)
      have z7_S42 := hF4.1 7 (by decide)
      have z9_S42 := hF4.1 9 (by decide)
      have z10_S42 := hF4.1 10 (by decide)
      have z11_S42 := hF4.1 11 (by decide)
      have z12_S42 := hF4.1 12 (by decide)
      have z13_S42 := hF4.1 13 (by decide)
      have z15_S42 := hF4.1 15 (by decide)
      have z17_S42 := hF4.1 17 (by decide)
      have z18_S42 := hF4.1 18 (by decide)
      have z19_S42 := hF4.1 19 (by decide)
      have z20_S42 := hF4.1 20 (by decide)
      have z5_S42 := hF4.1 5 (by decide)
      have f1_S42 := Fr_fa hF4 1 (by decide)
      have f2_S42 := Fr_fa hF4 2 (by decide)
      have f8_S42 := Fr_fa hF4 8 (by decide)
      have f10_S42 := Fr_fa hF4 10 (by decide)
      have f25_S42 := Fr_fa hF4 25 (by decide)
      have f28_S42 := Fr_fa hF4 28 (by decide)
      have f35_S42 := Fr_fa hF4 35 (by decide)
      have f36_S42 := Fr_fa hF4 36 (by decide)
      have f45_S42 := Fr_fa hF4 45 (by decide)
      have f46_S42 := Fr_fa hF4 46 (by decide)
      have f48_S42 := Fr_fa hF4 48 (by decide)
      have f5_S42 := Fr_fa hF4 5 (by decide)
      have g3_S42 := Fr_ga hF4 3 (by decide)
      have g4_S42 := Fr_ga hF4 4 (by decide)
      clear hF4
      refine ⟨by grind (ematch := 12) (splits := 16) [QI, SI, PT, WB, PLM, ix_1, ix_eq, LG2, XI, PI, PJ, BU, LV, LG, OH, HH, HL, ix_int, q_zz, q_za, q_zga, q_fza, q_fx, q_fga, q_gza, q_gfa, q_gx, ti_link, in2, in24, in4002], ?_⟩
      intro S43 eS43
      refine fm_act _ _ _ _ _ (fun S44 r44 hF6 p7 => ?_) (sg_act _ _ (by grind (ematch := 12) (splits := 16) [QI, SI, PT, WB, PLM, ix_1, ix_eq, LG2, XI, PI, PJ, BU, LV, LG, OH, HH, HL, ix_int, q_zz, q_za, q_zga, q_fza, q_fx, q_fga, q_gza, q_gfa, q_gx, ti_link, in2, in24, in4002]))
      have ga_S44 := Fr_gaa hF6
      have z3_S44 := hF6.1 3 (by decide)
      have z4_S44 := hF6.1 4 (by decide)
      have z6_S44 := hF6.1 6 (by decide)
      have z7_S44 := hF6.1 7 (by decide)
      have z9_S44 := hF6.1 9 (by decide)
      have z10_S44 := hF6.1 10 (by decide)
      have z11_S44 := hF6.1 11 (by decide)
      have z12_S44 := hF6.1 12 (by decide)
      have z13_S44 := hF6.1 13 (by decide)
      have z15_S44 := hF6.1 15 (by decide)
      have z17_S44 := hF6.1 17 (by decide)
      have z18_S44 := hF6.1 18 (by decide)
      have z19_S44 := hF6.1 19 (by decide)
      have z20_S44 := hF6.1 20 (by decide)
      have z5_S44 := hF6.1 5 (by decide)
      have f1_S44 := Fr_fa hF6 1 (by decide)
      have f2_S44 := Fr_fa hF6 2 (by decide)
      have f8_S44 := Fr_fa hF6 8 (by decide)
      have f10_S44 := Fr_fa hF6 10 (by decide)
      have f25_S44 := Fr_fa hF6 25 (by decide)
      have f28_S44 := Fr_fa hF6 28 (by decide)
      have f35_S44 := Fr_fa hF6 35 (by decide)
      have f36_S44 := Fr_fa hF6 36 (by decide)
      have f45_S44 := Fr_fa hF6 45 (by decide)
      have f46_S44 := Fr_fa hF6 46 (by decide)
      have f48_S44 := Fr_fa hF6 48 (by decide)
      have f5_S44 := Fr_fa hF6 5 (by decide)
      have g3_S44 := Fr_ga hF6 3 (by decide)
      have g4_S44 := Fr_ga hF6 4 (by decide)
      clear hF6
      refine ⟨by grind (ematch := 12) (splits := 16) [QI, SI, PT, WB, PLM, ix_1, ix_eq, LG2, XI, PI, PJ, BU, LV, LG, OH, HH, HL, ix_int, q_zz, q_za, q_zga, q_fza, q_fx, q_fga, q_gza, q_gfa, q_gx, ti_link, in2, in24, in4002], ?_⟩
      intro S45 eS45
      refine ⟨by grind (ematch := 12) (splits := 16) [QI, SI, PT, WB, PLM, ix_1, ix_eq, LG2, XI, PI, PJ, BU, LV, LG, OH, HH, HL, ix_int, q_zz, q_za, q_zga, q_fza, q_fx, q_fga, q_gza, q_gfa, q_gx, ti_link, in2, in24, in4002], ?_⟩
      intro z46 ez46
      intro S47 eS47
      refine fq_block _ _ _ (fun S48 hF8 p9 => ?_) (sq_block (nx := nx) (n := n) (so := so) (pl := pl) (wo := wo) (ws := ws) (S0 := S0) (d := 0) (G := 0) (GA := 2) (X := 1000) (Y := 400) (GW := (-10)) (GT := 0) (by grind (ematch := 12) (splits := 16) [QI, SI, PT, WB, PLM, ix_1, ix_eq, LG2, XI, PI, PJ, BU, LV, LG, OH, HH, HL, ix_int, q_zz, q_za, q_zga, q_fza, q_fx, q_fga, q_gza, q_gfa, q_gx, ti_link, in2, in24, in4002]) (by grind (ematch := 12) (splits := 16) [QI, SI, PT, WB, PLM, ix_1, ix_eq, LG2, XI, PI, PJ, BU, LV, LG, OH, HH, HL, ix_int, q_zz, q_za, q_zga, q_fza, q_fx, q_fga, q_gza, q_gfa, q_gx, ti_link, in2, in24, in4002]) (by grind (ematch := 12) (splits := 16) [QI, SI, PT, WB, PLM, ix_1, ix_eq, LG2, XI, PI, PJ, BU, LV, LG, OH, HH, HL, ix_int, q_zz, q_za, q_zga, q_fza, q_fx, q_fga, q_gza, q_gfa, q_gx, ti_link, in2, in24, in4002]))
      have z6_S48 := hF8.1 6 (by decide)
      have z12_S48 := hF8.1 12 (by decide)
      have z5_S48 := hF8.1 5 (by decide)
      have f1_S48 := Fr_fa hF8 1 (by decide)
      have f2_S48 := Fr_fa hF8 2 (by decide)
      have f5_S48 := Fr_fa hF8 5 (by decide)
      have g3_S48 := Fr_ga hF8 3 (by decide)
      have g4_S48 := Fr_ga hF8 4 (by decide)
      clear hF8
      refine fm_emit _ _ _ _ _ _ (fun S49 r49 hF10 p11 => ?_) (sg_emit _ _ _ (by grind (ematch := 12) (splits := 16) [QI, SI, PT, WB, PLM, ix_1, ix_eq, LG2, XI, PI, PJ, BU, LV, LG, OH, HH, HL, ix_int, q_zz, q_za, q_zga, q_fza, q_fx, q_fga, q_gza, q_gfa, q_gx, ti_link, in2, in24, in4002]))
      have ga_S49 := Fr_gaa hF10
      have z3_S49 := hF10.1 3 (by decide)
      have z4_S49 := hF10.1 4 (by decide)
      have z6_S49 := hF10.1 6 (by decide)
      have z8_S49 := hF10.1 8 (by decide)
      have z9_S49 := hF10.1 9 (by decide)
      have z10_S49 := hF10.1 10 (by decide)
      have z11_S49 := hF10.1 11 (by decide)
      have z12_S49 := hF10.1 12 (by decide)
      have z13_S49 := hF10.1 13 (by decide)
      have z15_S49 := hF10.1 15 (by decide)
      have z17_S49 := hF10.1 17 (by decide)
      have z18_S49 := hF10.1 18 (by decide)
      have z19_S49 := hF10.1 19 (by decide)
      have z20_S49 := hF10.1 20 (by decide)
      have z5_S49 := hF10.1 5 (by decide)
      have f1_S49 := Fr_fa hF10 1 (by decide)
      have f2_S49 := Fr_fa hF10 2 (by decide)
      have f8_S49 := Fr_fa hF10 8 (by decide)
      have f10_S49 := Fr_fa hF10 10 (by decide)
      have f25_S49 := Fr_fa hF10 25 (by decide)
      have f28_S49 := Fr_fa hF10 28 (by decide)
      have f35_S49 := Fr_fa hF10 35 (by decide)
      have f36_S49 := Fr_fa hF10 36 (by decide)
      have f45_S49 := Fr_fa hF10 45 (by decide)
      have f46_S49 := Fr_fa hF10 46 (by decide)
      have f48_S49 := Fr_fa hF10 48 (by decide)
      have f5_S49 := Fr_fa hF10 5 (by decide)
      have g3_S49 := Fr_ga hF10 3 (by decide)
      have g4_S49 := Fr_ga hF10 4 (by decide)
      clear hF10
      refine ⟨by grind (ematch := 12) (splits := 16) [QI, SI, PT, WB, PLM, ix_1, ix_eq, LG2, XI, PI, PJ, BU, LV, LG, OH, HH, HL, ix_int, q_zz, q_za, q_zga, q_fza, q_fx, q_fga, q_gza, q_gfa, q_gx, ti_link, in2, in24, in4002], ?_⟩
      intro z50 ez50
      refine fm_lead _ _ _ _ (fun S51 hF12 p13 => ?_) (sg_lead _ (by grind (ematch := 12) (splits := 16) [QI, SI, PT, WB, PLM, ix_1, ix_eq, LG2, XI, PI, PJ, BU, LV, LG, OH, HH, HL, ix_int, q_zz, q_za, q_zga, q_fza, q_fx, q_fga, q_gza, q_gfa, q_gx, ti_link, in2, in24, in4002]))
      have ga_S51 := Fr_gaa hF12
      have z3_S51 := hF12.1 3 (by decide)
      have z4_S51 := hF12.1 4 (by decide)
      have z6_S51 := hF12.1 6 (by decide)
      have z7_S51 := hF12.1 7 (by decide)
      have z8_S51 := hF12.1 8 (by decide)
      have z9_S51 := hF12.1 9 (by decide)
      have z10_S51 := hF12.1 10 (by decide)
      have z11_S51 := hF12.1 11 (by decide)
      have z12_S51 := hF12.1 12 (by decide)
      have z13_S51 := hF12.1 13 (by decide)
      have z15_S51 := hF12.1 15 (by decide)
      have z17_S51 := hF12.1 17 (by decide)
      have z18_S51 := hF12.1 18 (by decide)
      have z19_S51 := hF12.1 19 (by decide)
      have z20_S51 := hF12.1 20 (by decide)
      have z5_S51 := hF12.1 5 (by decide)
      have f1_S51 := Fr_fa hF12 1 (by decide)
      have f2_S51 := Fr_fa hF12 2 (by decide)
      have f8_S51 := Fr_fa hF12 8 (by decide)
      have f10_S51 := Fr_fa hF12 10 (by decide)
      have f25_S51 := Fr_fa hF12 25 (by decide)
      have f28_S51 := Fr_fa hF12 28 (by decide)
      have f35_S51 := Fr_fa hF12 35 (by decide)
      have f36_S51 := Fr_fa hF12 36 (by decide)
      have f45_S51 := Fr_fa hF12 45 (by decide)
      have f46_S51 := Fr_fa hF12 46 (by decide)
      have f48_S51 := Fr_fa hF12 48 (by decide)
      have f5_S51 := Fr_fa hF12 5 (by decide)
      have g3_S51 := Fr_ga hF12 3 (by decide)
      have g4_S51 := Fr_ga hF12 4 (by decide)
      clear hF12
      refine ⟨fun c14 => ?_, fun c14 => ?_⟩
      · grind (ematch := 12) (splits := 16) [QI, SI, PT, WB, PLM, ix_1, ix_eq, LG2, XI, PI, PJ, BU, LV, LG, OH, HH, HL, ix_int, q_zz, q_za, q_zga, q_fza, q_fx, q_fga, q_gza, q_gfa, q_gx, ti_link, in2, in24, in4002]
      · refine ⟨by grind (ematch := 12) (splits := 16) [QI, SI, PT, WB, PLM, ix_1, ix_eq, LG2, XI, PI, PJ, BU, LV, LG, OH, HH, HL, ix_int, q_zz, q_za, q_zga, q_fza, q_fx, q_fga, q_gza, q_gfa, q_gx, ti_link, in2, in24, in4002], ?_⟩
        intro S53 eS53
        refine ⟨by grind (ematch := 12) (splits := 16) [QI, SI, PT, WB, PLM, ix_1, ix_eq, LG2, XI, PI, PJ, BU, LV, LG, OH, HH, HL, ix_int, q_zz, q_za, q_zga, q_fza, q_fx, q_fga, q_gza, q_gfa, q_gx, ti_link, in2, in24, in4002], ?_⟩
        intro z54 ez54
        intro z55 ez55
        refine ⟨by grind (ematch := 12) (splits := 16) [QI, SI, PT, WB, PLM, ix_1, ix_eq, LG2, XI, PI, PJ, BU, LV, LG, OH, HH, HL, ix_int, q_zz, q_za, q_zga, q_fza, q_fx, q_fga, q_gza, q_gfa, q_gx, ti_link, in2, in24, in4002], ?_⟩
        intro S56 eS56
        grind (ematch := 12) (splits := 16) [QI, SI, PT, WB, PLM, ix_1, ix_eq, LG2, XI, PI, PJ, BU, LV, LG, OH, HH, HL, ix_int, q_zz, q_za, q_zga, q_fza, q_fx, q_fga, q_gza, q_gfa, q_gx, ti_link, in2, in24, in4002]
    · grind (ematch := 12) (splits := 16) [QI, SI, PT, WB, PLM, ix_1, ix_eq, LG2, XI, PI, PJ, BU, LV, LG, OH, HH, HL, ix_int, q_zz, q_za, q_zga, q_fza, q_fx, q_fga, q_gza, q_gfa, q_gx, ti_link, in2, in24, in4002]
  have j104 : ∀ (x1 : Int32) (Sx : mS), (QI nx n so pl wo ws S0 (-7) 0 Sx ∧ x1.toInt = 12 * nx + ((Sx.2.1 5) nx).toInt ∧ ((Sx.2.1 5) nx).toInt < 12 ∧ ((Sx.1 4) = 0 → (S.1 4) = 0 ∧ (S.1 3).toInt < (Sx.1 3).toInt) ∧ 0 ≤ (Sx.1 3).toInt ∧ (Sx.1 3).toInt ≤ n) → wp_toldRoutine_104 (fun S1 => QI nx n so pl wo ws S0 0 0 S1 ∧ ((S1.1 4) = 0 → (S.1 4) = 0 ∧ (S.1 3).toInt < (S1.1 3).toInt)) x1 Sx := by
    intro x1 Sx hJ104
    unfold wp_toldRoutine_104
    refine ⟨by grind (ematch := 12) (splits := 16) [QI, SI, PT, WB, PLM, ix_1, ix_eq, LG2, XI, PI, PJ, BU, LV, LG, OH, HH, HL, ix_int, q_zz, q_za, q_zga, q_fza, q_fx, q_fga, q_gza, q_gfa, q_gx, ti_link, in2, in24, in4002], ?_⟩
    intro z18 ez18
    intro z19 ez19
    intro S20 eS20
    intro S21 eS21
    refine ⟨by grind (ematch := 12) (splits := 16) [QI, SI, PT, WB, PLM, ix_1, ix_eq, LG2, XI, PI, PJ, BU, LV, LG, OH, HH, HL, ix_int, q_zz, q_za, q_zga, q_fza, q_fx, q_fga, q_gza, q_gfa, q_gx, ti_link, in2, in24, in4002], ?_⟩
    intro S22 eS22
    refine ⟨by grind (ematch := 12) (splits := 16) [QI, SI, PT, WB, PLM, ix_1, ix_eq, LG2, XI, PI, PJ, BU, LV, LG, OH, HH, HL, ix_int, q_zz, q_za, q_zga, q_fza, q_fx, q_fga, q_gza, q_gfa, q_gx, ti_link, in2, in24, in4002], ?_⟩
    intro S23 eS23
    refine fm_takeSign _ _ _ _ (fun S24 hF15 p16 => ?_) (sg_takeSign (nx := nx) (n := n) (so := so) (pl := pl) (wo := wo) (ws := ws) _ (by grind (ematch := 12) (splits := 16) [QI, SI, PT, WB, PLM, ix_1, ix_eq, LG2, XI, PI, PJ, BU, LV, LG, OH, HH, HL, ix_int, q_zz, q_za, q_zga, q_fza, q_fx, q_fga, q_gza, q_gfa, q_gx, ti_link, in2, in24, in4002]))
    have fa_S24 := Fr_faa hF15
    have ga_S24 := Fr_gaa hF15
    have z6_S24 := hF15.1 6 (by decide)
    have z7_S24 := hF15.1 7 (by decide)
    have z8_S24 := hF15.1 8 (by decide)
    have z9_S24 := hF15.1 9 (by decide)
    have z10_S24 := hF15.1 10 (by decide)
    have z11_S24 := hF15.1 11 (by decide)
    have z12_S24 := hF15.1 12 (by decide)
    have z13_S24 := hF15.1 13 (by decide)
    have z15_S24 := hF15.1 15 (by decide)
    have z17_S24 := hF15.1 17 (by decide)
    have z18_S24 := hF15.1 18 (by decide)
    have z19_S24 := hF15.1 19 (by decide)
    have z20_S24 := hF15.1 20 (by decide)
    have z5_S24 := hF15.1 5 (by decide)
    have f1_S24 := Fr_fa hF15 1 (by decide)
    have f2_S24 := Fr_fa hF15 2 (by decide)
    have f8_S24 := Fr_fa hF15 8 (by decide)
    have f10_S24 := Fr_fa hF15 10 (by decide)
    have f25_S24 := Fr_fa hF15 25 (by decide)
    have f28_S24 := Fr_fa hF15 28 (by decide)
    have f35_S24 := Fr_fa hF15 35 (by decide)
    have f36_S24 := Fr_fa hF15 36 (by decide)
    have f45_S24 := Fr_fa hF15 45 (by decide)
    have f46_S24 := Fr_fa hF15 46 (by decide)
    have f48_S24 := Fr_fa hF15 48 (by decide)
    have f5_S24 := Fr_fa hF15 5 (by decide)
    have g3_S24 := Fr_ga hF15 3 (by decide)
    have g4_S24 := Fr_ga hF15 4 (by decide)
    clear hF15
    refine fm_isSign _ _ _ _ (fun S25 r25 hF17 p18 => ?_) (sg_isSign (nx := nx) (n := n) (so := so) (pl := pl) (wo := wo) (ws := ws) _ (by grind (ematch := 12) (splits := 16) [QI, SI, PT, WB, PLM, ix_1, ix_eq, LG2, XI, PI, PJ, BU, LV, LG, OH, HH, HL, ix_int, q_zz, q_za, q_zga, q_fza, q_fx, q_fga, q_gza, q_gfa, q_gx, ti_link, in2, in24, in4002]))
    have fa_S25 := Fr_faa hF17
    have ga_S25 := Fr_gaa hF17
    have z3_S25 := hF17.1 3 (by decide)
    have z4_S25 := hF17.1 4 (by decide)
    have z6_S25 := hF17.1 6 (by decide)
    have z7_S25 := hF17.1 7 (by decide)
    have z8_S25 := hF17.1 8 (by decide)
    have z9_S25 := hF17.1 9 (by decide)
    have z10_S25 := hF17.1 10 (by decide)
    have z11_S25 := hF17.1 11 (by decide)
    have z12_S25 := hF17.1 12 (by decide)
    have z13_S25 := hF17.1 13 (by decide)
    have z15_S25 := hF17.1 15 (by decide)
    have z17_S25 := hF17.1 17 (by decide)
    have z18_S25 := hF17.1 18 (by decide)
    have z19_S25 := hF17.1 19 (by decide)
    have z20_S25 := hF17.1 20 (by decide)
    have z5_S25 := hF17.1 5 (by decide)
    have f1_S25 := Fr_fa hF17 1 (by decide)
    have f2_S25 := Fr_fa hF17 2 (by decide)
    have f8_S25 := Fr_fa hF17 8 (by decide)
    have f10_S25 := Fr_fa hF17 10 (by decide)
    have f25_S25 := Fr_fa hF17 25 (by decide)
    have f28_S25 := Fr_fa hF17 28 (by decide)
    have f35_S25 := Fr_fa hF17 35 (by decide)
    have f36_S25 := Fr_fa hF17 36 (by decide)
    have f45_S25 := Fr_fa hF17 45 (by decide)
    have f46_S25 := Fr_fa hF17 46 (by decide)
    have f48_S25 := Fr_fa hF17 48 (by decide)
    have f5_S25 := Fr_fa hF17 5 (by decide)
    have g3_S25 := Fr_ga hF17 3 (by decide)
    have g4_S25 := Fr_ga hF17 4 (by decide)
    clear hF17
    refine ⟨fun c19 => ?_, fun c19 => ?_⟩
    · exact j180 _ _ _ (by grind (ematch := 12) (splits := 16) [QI, SI, PT, WB, PLM, ix_1, ix_eq, LG2, XI, PI, PJ, BU, LV, LG, OH, HH, HL, ix_int, q_zz, q_za, q_zga, q_fza, q_fx, q_fga, q_gza, q_gfa, q_gx, ti_link, in2, in24, in4002])
    · refine fm_givenCell _ _ _ _ (fun S27 hF20 p21 => ?_) (sg_givenCell (nx := nx) (n := n) (so := so) (pl := pl) (wo := wo) (ws := ws) _ (by grind (ematch := 12) (splits := 16) [QI, SI, PT, WB, PLM, ix_1, ix_eq, LG2, XI, PI, PJ, BU, LV, LG, OH, HH, HL, ix_int, q_zz, q_za, q_zga, q_fza, q_fx, q_fga, q_gza, q_gfa, q_gx, ti_link, in2, in24, in4002]) (by grind (ematch := 12) (splits := 16) [QI, SI, PT, WB, PLM, ix_1, ix_eq, LG2, XI, PI, PJ, BU, LV, LG, OH, HH, HL, ix_int, q_zz, q_za, q_zga, q_fza, q_fx, q_fga, q_gza, q_gfa, q_gx, ti_link, in2, in24, in4002]) (by grind (ematch := 12) (splits := 16) [QI, SI, PT, WB, PLM, ix_1, ix_eq, LG2, XI, PI, PJ, BU, LV, LG, OH, HH, HL, ix_int, q_zz, q_za, q_zga, q_fza, q_fx, q_fga, q_gza, q_gfa, q_gx, ti_link, in2, in24, in4002]))
      have z6_S27 := hF20.1 6 (by decide)
      have z7_S27 := hF20.1 7 (by decide)
      have z8_S27 := hF20.1 8 (by decide)
      have z9_S27 := hF20.1 9 (by decide)
      have z10_S27 := hF20.1 10 (by decide)
      have z11_S27 := hF20.1 11 (by decide)
      have z12_S27 := hF20.1 12 (by decide)
      have z13_S27 := hF20.1 13 (by decide)
      have z15_S27 := hF20.1 15 (by decide)
      have z17_S27 := hF20.1 17 (by decide)
      have z18_S27 := hF20.1 18 (by decide)
      have z19_S27 := hF20.1 19 (by decide)
      have z20_S27 := hF20.1 20 (by decide)
      have z5_S27 := hF20.1 5 (by decide)
      have f1_S27 := Fr_fa hF20 1 (by decide)
      have f2_S27 := Fr_fa hF20 2 (by decide)
      have f10_S27 := Fr_fa hF20 10 (by decide)
      have f25_S27 := Fr_fa hF20 25 (by decide)
      have f28_S27 := Fr_fa hF20 28 (by decide)
      have f35_S27 := Fr_fa hF20 35 (by decide)
      have f36_S27 := Fr_fa hF20 36 (by decide)
      have f45_S27 := Fr_fa hF20 45 (by decide)
      have f46_S27 := Fr_fa hF20 46 (by decide)
      have f48_S27 := Fr_fa hF20 48 (by decide)
      have f5_S27 := Fr_fa hF20 5 (by decide)
      have g3_S27 := Fr_ga hF20 3 (by decide)
      have g4_S27 := Fr_ga hF20 4 (by decide)
      clear hF20
      refine it_rule (fun u : Int32 × Int64 × mS => QI nx n so pl wo ws S0 (-9) 0 u.2.2 ∧ u.1.toInt = 12 * nx + ((u.2.2.2.1 5) nx).toInt ∧ ((u.2.2.2.1 5) nx).toInt < 12 ∧ ((u.2.2.1 4) = 0 → (S.1 4) = 0 ∧ (S.1 3).toInt < (u.2.2.1 3).toInt) ∧ (u.2.2.1 12) = u.1 ∧ ((u.2.2.2.1 10) (ix u.1)).toInt = 0) (fun u => (if (u.2.2.1 4) = 0 then (n : Int) - (u.2.2.1 3).toInt + 1 else 0).toNat) ?_ (by grind (ematch := 12) (splits := 16) [QI, SI, PT, WB, PLM, ix_1, ix_eq, LG2, XI, PI, PJ, BU, LV, LG, OH, HH, HL, ix_int, q_zz, q_za, q_zga, q_fza, q_fx, q_fga, q_gza, q_gfa, q_gx, ti_link, in2, in24, in4002])
      rintro ⟨x1, x2, Sl163⟩ k163 hI163 hk163
      replace hI163 : QI nx n so pl wo ws S0 (-9) 0 Sl163 ∧ x1.toInt = 12 * nx + ((Sl163.2.1 5) nx).toInt ∧ ((Sl163.2.1 5) nx).toInt < 12 ∧ ((Sl163.1 4) = 0 → (S.1 4) = 0 ∧ (S.1 3).toInt < (Sl163.1 3).toInt) ∧ (Sl163.1 12) = x1 ∧ ((Sl163.2.1 10) (ix x1)).toInt = 0 := hI163
      replace hk163 : ∀ v : Int32 × Int64 × mS, QI nx n so pl wo ws S0 (-9) 0 v.2.2 ∧ v.1.toInt = 12 * nx + ((v.2.2.2.1 5) nx).toInt ∧ ((v.2.2.2.1 5) nx).toInt < 12 ∧ ((v.2.2.1 4) = 0 → (S.1 4) = 0 ∧ (S.1 3).toInt < (v.2.2.1 3).toInt) ∧ (v.2.2.1 12) = v.1 ∧ ((v.2.2.2.1 10) (ix v.1)).toInt = 0 → (if (v.2.2.1 4) = 0 then (n : Int) - (v.2.2.1 3).toInt + 1 else 0).toNat < (if (Sl163.1 4) = 0 then (n : Int) - (Sl163.1 3).toInt + 1 else 0).toNat → k163 v := hk163
      show wp_toldRoutine_163 _ k163 x1 x2 Sl163
      unfold wp_toldRoutine_163
      refine fm_hasSign _ _ _ _ (fun S28 r28 hF22 p23 => ?_) (sg_hasSign (nx := nx) (n := n) (so := so) (pl := pl) (wo := wo) (ws := ws) _ (by grind (ematch := 12) (splits := 16) [QI, SI, PT, WB, PLM, ix_1, ix_eq, LG2, XI, PI, PJ, BU, LV, LG, OH, HH, HL, ix_int, q_zz, q_za, q_zga, q_fza, q_fx, q_fga, q_gza, q_gfa, q_gx, ti_link, in2, in24, in4002]))
      have fa_S28 := Fr_faa hF22
      have ga_S28 := Fr_gaa hF22
      have z4_S28 := hF22.1 4 (by decide)
      have z6_S28 := hF22.1 6 (by decide)
      have z7_S28 := hF22.1 7 (by decide)
      have z8_S28 := hF22.1 8 (by decide)
      have z9_S28 := hF22.1 9 (by decide)
      have z10_S28 := hF22.1 10 (by decide)
      have z11_S28 := hF22.1 11 (by decide)
      have z12_S28 := hF22.1 12 (by decide)
      have z13_S28 := hF22.1 13 (by decide)
      have z15_S28 := hF22.1 15 (by decide)
      have z17_S28 := hF22.1 17 (by decide)
      have z18_S28 := hF22.1 18 (by decide)
      have z19_S28 := hF22.1 19 (by decide)
      have z20_S28 := hF22.1 20 (by decide)
      have z5_S28 := hF22.1 5 (by decide)
      have f1_S28 := Fr_fa hF22 1 (by decide)
      have f2_S28 := Fr_fa hF22 2 (by decide)
      have f8_S28 := Fr_fa hF22 8 (by decide)
      have f10_S28 := Fr_fa hF22 10 (by decide)
      have f25_S28 := Fr_fa hF22 25 (by decide)
      have f28_S28 := Fr_fa hF22 28 (by decide)
      have f35_S28 := Fr_fa hF22 35 (by decide)
      have f36_S28 := Fr_fa hF22 36 (by decide)
      have f45_S28 := Fr_fa hF22 45 (by decide)
      have f46_S28 := Fr_fa hF22 46 (by decide)
      have f48_S28 := Fr_fa hF22 48 (by decide)
      have f5_S28 := Fr_fa hF22 5 (by decide)
      have g3_S28 := Fr_ga hF22 3 (by decide)
      have g4_S28 := Fr_ga hF22 4 (by decide)
      clear hF22
      refine ⟨fun c24 => ?_, fun c24 => ?_⟩
      · exact j180 _ _ _ (by grind (ematch := 12) (splits := 16) [QI, SI, PT, WB, PLM, ix_1, ix_eq, LG2, XI, PI, PJ, BU, LV, LG, OH, HH, HL, ix_int, q_zz, q_za, q_zga, q_fza, q_fx, q_fga, q_gza, q_gfa, q_gx, ti_link, in2, in24, in4002])
      · refine fm_givenCell _ _ _ _ (fun S30 hF25 p26 => ?_) (sg_givenCell (nx := nx) (n := n) (so := so) (pl := pl) (wo := wo) (ws := ws) _ (by grind (ematch := 12) (splits := 16) [QI, SI, PT, WB, PLM, ix_1, ix_eq, LG2, XI, PI, PJ, BU, LV, LG, OH, HH, HL, ix_int, q_zz, q_za, q_zga, q_fza, q_fx, q_fga, q_gza, q_gfa, q_gx, ti_link, in2, in24, in4002]) (by grind (ematch := 12) (splits := 16) [QI, SI, PT, WB, PLM, ix_1, ix_eq, LG2, XI, PI, PJ, BU, LV, LG, OH, HH, HL, ix_int, q_zz, q_za, q_zga, q_fza, q_fx, q_fga, q_gza, q_gfa, q_gx, ti_link, in2, in24, in4002]) (by grind (ematch := 12) (splits := 16) [QI, SI, PT, WB, PLM, ix_1, ix_eq, LG2, XI, PI, PJ, BU, LV, LG, OH, HH, HL, ix_int, q_zz, q_za, q_zga, q_fza, q_fx, q_fga, q_gza, q_gfa, q_gx, ti_link, in2, in24, in4002]))
        have z6_S30 := hF25.1 6 (by decide)
        have z7_S30 := hF25.1 7 (by decide)
        have z8_S30 := hF25.1 8 (by decide)
        have z9_S30 := hF25.1 9 (by decide)
        have z10_S30 := hF25.1 10 (by decide)
        have z11_S30 := hF25.1 11 (by decide)
        have z12_S30 := hF25.1 12 (by decide)
        have z13_S30 := hF25.1 13 (by decide)
        have z15_S30 := hF25.1 15 (by decide)
        have z17_S30 := hF25.1 17 (by decide)
        have z18_S30 := hF25.1 18 (by decide)
        have z19_S30 := hF25.1 19 (by decide)
        have z20_S30 := hF25.1 20 (by decide)
        have z5_S30 := hF25.1 5 (by decide)
        have f1_S30 := Fr_fa hF25 1 (by decide)
        have f2_S30 := Fr_fa hF25 2 (by decide)
        have f10_S30 := Fr_fa hF25 10 (by decide)
        have f25_S30 := Fr_fa hF25 25 (by decide)
        have f28_S30 := Fr_fa hF25 28 (by decide)
        have f35_S30 := Fr_fa hF25 35 (by decide)
        have f36_S30 := Fr_fa hF25 36 (by decide)
        have f45_S30 := Fr_fa hF25 45 (by decide)
        have f46_S30 := Fr_fa hF25 46 (by decide)
        have f48_S30 := Fr_fa hF25 48 (by decide)
        have f5_S30 := Fr_fa hF25 5 (by decide)
        have g3_S30 := Fr_ga hF25 3 (by decide)
        have g4_S30 := Fr_ga hF25 4 (by decide)
        clear hF25
        exact hk163 _ (by grind (ematch := 12) (splits := 16) [QI, SI, PT, WB, PLM, ix_1, ix_eq, LG2, XI, PI, PJ, BU, LV, LG, OH, HH, HL, ix_int, q_zz, q_za, q_zga, q_fza, q_fx, q_fga, q_gza, q_gfa, q_gx, ti_link, in2, in24, in4002]) (by grind (ematch := 12) (splits := 16) [QI, SI, PT, WB, PLM, ix_1, ix_eq, LG2, XI, PI, PJ, BU, LV, LG, OH, HH, HL, ix_int, q_zz, q_za, q_zga, q_fza, q_fx, q_fga, q_gza, q_gfa, q_gx, ti_link, in2, in24, in4002])
  intro z1 ez1
  refine ⟨by grind (ematch := 12) (splits := 16) [QI, SI, PT, WB, PLM, ix_1, ix_eq, LG2, XI, PI, PJ, BU, LV, LG, OH, HH, HL, ix_int, q_zz, q_za, q_zga, q_fza, q_fx, q_fga, q_gza, q_gfa, q_gx, ti_link, in2, in24, in4002], ?_⟩
  intro z2 ez2
  intro z3 ez3
  refine ⟨by grind (ematch := 12) (splits := 16) [QI, SI, PT, WB, PLM, ix_1, ix_eq, LG2, XI, PI, PJ, BU, LV, LG, OH, HH, HL, ix_int, q_zz, q_za, q_zga, q_fza, q_fx, q_fga, q_gza, q_gfa, q_gx, ti_link, in2, in24, in4002], ?_⟩
  intro z4 ez4
  refine ⟨fun c27 => ?_, fun c27 => ?_⟩
  · intro z6 ez6
    intro S7 eS7
    refine fm_isName _ _ _ (fun S8 r8 hF28 p29 => ?_) (sg_isName (nx := nx) (n := n) (so := so) (pl := pl) (wo := wo) (ws := ws) (by grind (ematch := 12) (splits := 16) [QI, SI, PT, WB, PLM, ix_1, ix_eq, LG2, XI, PI, PJ, BU, LV, LG, OH, HH, HL, ix_int, q_zz, q_za, q_zga, q_fza, q_fx, q_fga, q_gza, q_gfa, q_gx, ti_link, in2, in24, in4002]))
    have fa_S8 := Fr_faa hF28
    have ga_S8 := Fr_gaa hF28
    have z3_S8 := hF28.1 3 (by decide)
    have z4_S8 := hF28.1 4 (by decide)
    have z6_S8 := hF28.1 6 (by decide)
    have z7_S8 := hF28.1 7 (by decide)
    have z8_S8 := hF28.1 8 (by decide)
    have z9_S8 := hF28.1 9 (by decide)
    have z10_S8 := hF28.1 10 (by decide)
    have z11_S8 := hF28.1 11 (by decide)
    have z12_S8 := hF28.1 12 (by decide)
    have z13_S8 := hF28.1 13 (by decide)
    have z15_S8 := hF28.1 15 (by decide)
    have z17_S8 := hF28.1 17 (by decide)
    have z18_S8 := hF28.1 18 (by decide)
    have z19_S8 := hF28.1 19 (by decide)
    have z20_S8 := hF28.1 20 (by decide)
    have z5_S8 := hF28.1 5 (by decide)
    have f1_S8 := Fr_fa hF28 1 (by decide)
    have f2_S8 := Fr_fa hF28 2 (by decide)
    have f8_S8 := Fr_fa hF28 8 (by decide)
    have f10_S8 := Fr_fa hF28 10 (by decide)
    have f25_S8 := Fr_fa hF28 25 (by decide)
    have f28_S8 := Fr_fa hF28 28 (by decide)
    have f35_S8 := Fr_fa hF28 35 (by decide)
    have f36_S8 := Fr_fa hF28 36 (by decide)
    have f45_S8 := Fr_fa hF28 45 (by decide)
    have f46_S8 := Fr_fa hF28 46 (by decide)
    have f48_S8 := Fr_fa hF28 48 (by decide)
    have f5_S8 := Fr_fa hF28 5 (by decide)
    have g3_S8 := Fr_ga hF28 3 (by decide)
    have g4_S8 := Fr_ga hF28 4 (by decide)
    clear hF28
    refine ⟨fun c30 => ?_, fun c30 => ?_⟩
    · intro z10 ez10
      refine ⟨by grind (ematch := 12) (splits := 16) [QI, SI, PT, WB, PLM, ix_1, ix_eq, LG2, XI, PI, PJ, BU, LV, LG, OH, HH, HL, ix_int, q_zz, q_za, q_zga, q_fza, q_fx, q_fga, q_gza, q_gfa, q_gx, ti_link, in2, in24, in4002], ?_⟩
      intro z11 ez11
      refine ⟨by grind (ematch := 12) (splits := 16) [QI, SI, PT, WB, PLM, ix_1, ix_eq, LG2, XI, PI, PJ, BU, LV, LG, OH, HH, HL, ix_int, q_zz, q_za, q_zga, q_fza, q_fx, q_fga, q_gza, q_gfa, q_gx, ti_link, in2, in24, in4002], ?_⟩
      intro z12 ez12
      refine fm_find_r _ _ _ _ _ _ (fun S13 r13 hF31 p32 => ?_) (sg_find_r _ _ _ (by grind (ematch := 12) (splits := 16) [QI, SI, PT, WB, PLM, ix_1, ix_eq, LG2, XI, PI, PJ, BU, LV, LG, OH, HH, HL, ix_int, q_zz, q_za, q_zga, q_fza, q_fx, q_fga, q_gza, q_gfa, q_gx, ti_link, in2, in24, in4002]))
      have fa_S13 := Fr_faa hF31
      have ga_S13 := Fr_gaa hF31
      have z3_S13 := hF31.1 3 (by decide)
      have z4_S13 := hF31.1 4 (by decide)
      have z6_S13 := hF31.1 6 (by decide)
      have z7_S13 := hF31.1 7 (by decide)
      have z8_S13 := hF31.1 8 (by decide)
      have z9_S13 := hF31.1 9 (by decide)
      have z10_S13 := hF31.1 10 (by decide)
      have z11_S13 := hF31.1 11 (by decide)
      have z12_S13 := hF31.1 12 (by decide)
      have z13_S13 := hF31.1 13 (by decide)
      have z15_S13 := hF31.1 15 (by decide)
      have z17_S13 := hF31.1 17 (by decide)
      have z18_S13 := hF31.1 18 (by decide)
      have z19_S13 := hF31.1 19 (by decide)
      have z20_S13 := hF31.1 20 (by decide)
      have z5_S13 := hF31.1 5 (by decide)
      have f1_S13 := Fr_fa hF31 1 (by decide)
      have f2_S13 := Fr_fa hF31 2 (by decide)
      have f8_S13 := Fr_fa hF31 8 (by decide)
      have f10_S13 := Fr_fa hF31 10 (by decide)
      have f25_S13 := Fr_fa hF31 25 (by decide)
      have f28_S13 := Fr_fa hF31 28 (by decide)
      have f35_S13 := Fr_fa hF31 35 (by decide)
      have f36_S13 := Fr_fa hF31 36 (by decide)
      have f45_S13 := Fr_fa hF31 45 (by decide)
      have f46_S13 := Fr_fa hF31 46 (by decide)
      have f48_S13 := Fr_fa hF31 48 (by decide)
      have f5_S13 := Fr_fa hF31 5 (by decide)
      have g3_S13 := Fr_ga hF31 3 (by decide)
      have g4_S13 := Fr_ga hF31 4 (by decide)
      clear hF31
      refine ⟨fun c33 => ?_, fun c33 => ?_⟩
      · exact j104 _ _ (by grind (ematch := 12) (splits := 16) [QI, SI, PT, WB, PLM, ix_1, ix_eq, LG2, XI, PI, PJ, BU, LV, LG, OH, HH, HL, ix_int, q_zz, q_za, q_zga, q_fza, q_fx, q_fga, q_gza, q_gfa, q_gx, ti_link, in2, in24, in4002])
      · refine fm_wrong _ _ _ _ (fun S15 hF34 p35 => ?_) (sg_wrong (nx := nx) (n := n) (so := so) (pl := pl) (wo := wo) (ws := ws) _ (by grind (ematch := 12) (splits := 16) [QI, SI, PT, WB, PLM, ix_1, ix_eq, LG2, XI, PI, PJ, BU, LV, LG, OH, HH, HL, ix_int, q_zz, q_za, q_zga, q_fza, q_fx, q_fga, q_gza, q_gfa, q_gx, ti_link, in2, in24, in4002]) (by grind (ematch := 12) (splits := 16) [QI, SI, PT, WB, PLM, ix_1, ix_eq, LG2, XI, PI, PJ, BU, LV, LG, OH, HH, HL, ix_int, q_zz, q_za, q_zga, q_fza, q_fx, q_fga, q_gza, q_gfa, q_gx, ti_link, in2, in24, in4002]))
        have fa_S15 := Fr_faa hF34
        have ga_S15 := Fr_gaa hF34
        have z3_S15 := hF34.1 3 (by decide)
        have z6_S15 := hF34.1 6 (by decide)
        have z7_S15 := hF34.1 7 (by decide)
        have z8_S15 := hF34.1 8 (by decide)
        have z9_S15 := hF34.1 9 (by decide)
        have z10_S15 := hF34.1 10 (by decide)
        have z11_S15 := hF34.1 11 (by decide)
        have z12_S15 := hF34.1 12 (by decide)
        have z13_S15 := hF34.1 13 (by decide)
        have z15_S15 := hF34.1 15 (by decide)
        have z17_S15 := hF34.1 17 (by decide)
        have z18_S15 := hF34.1 18 (by decide)
        have z19_S15 := hF34.1 19 (by decide)
        have z20_S15 := hF34.1 20 (by decide)
        have z5_S15 := hF34.1 5 (by decide)
        have f1_S15 := Fr_fa hF34 1 (by decide)
        have f2_S15 := Fr_fa hF34 2 (by decide)
        have f8_S15 := Fr_fa hF34 8 (by decide)
        have f10_S15 := Fr_fa hF34 10 (by decide)
        have f25_S15 := Fr_fa hF34 25 (by decide)
        have f28_S15 := Fr_fa hF34 28 (by decide)
        have f35_S15 := Fr_fa hF34 35 (by decide)
        have f36_S15 := Fr_fa hF34 36 (by decide)
        have f45_S15 := Fr_fa hF34 45 (by decide)
        have f46_S15 := Fr_fa hF34 46 (by decide)
        have f48_S15 := Fr_fa hF34 48 (by decide)
        have f5_S15 := Fr_fa hF34 5 (by decide)
        have g3_S15 := Fr_ga hF34 3 (by decide)
        have g4_S15 := Fr_ga hF34 4 (by decide)
        clear hF34
        exact j104 _ _ (by grind (ematch := 12) (splits := 16) [QI, SI, PT, WB, PLM, ix_1, ix_eq, LG2, XI, PI, PJ, BU, LV, LG, OH, HH, HL, ix_int, q_zz, q_za, q_zga, q_fza, q_fx, q_fga, q_gza, q_gfa, q_gx, ti_link, in2, in24, in4002])
    · refine fm_wrong _ _ _ _ (fun S16 hF36 p37 => ?_) (sg_wrong (nx := nx) (n := n) (so := so) (pl := pl) (wo := wo) (ws := ws) _ (by grind (ematch := 12) (splits := 16) [QI, SI, PT, WB, PLM, ix_1, ix_eq, LG2, XI, PI, PJ, BU, LV, LG, OH, HH, HL, ix_int, q_zz, q_za, q_zga, q_fza, q_fx, q_fga, q_gza, q_gfa, q_gx, ti_link, in2, in24, in4002]) (by grind (ematch := 12) (splits := 16) [QI, SI, PT, WB, PLM, ix_1, ix_eq, LG2, XI, PI, PJ, BU, LV, LG, OH, HH, HL, ix_int, q_zz, q_za, q_zga, q_fza, q_fx, q_fga, q_gza, q_gfa, q_gx, ti_link, in2, in24, in4002]))
      have fa_S16 := Fr_faa hF36
      have ga_S16 := Fr_gaa hF36
      have z3_S16 := hF36.1 3 (by decide)
      have z6_S16 := hF36.1 6 (by decide)
      have z7_S16 := hF36.1 7 (by decide)
      have z8_S16 := hF36.1 8 (by decide)
      have z9_S16 := hF36.1 9 (by decide)
      have z10_S16 := hF36.1 10 (by decide)
      have z11_S16 := hF36.1 11 (by decide)
      have z12_S16 := hF36.1 12 (by decide)
      have z13_S16 := hF36.1 13 (by decide)
      have z15_S16 := hF36.1 15 (by decide)
      have z17_S16 := hF36.1 17 (by decide)
      have z18_S16 := hF36.1 18 (by decide)
      have z19_S16 := hF36.1 19 (by decide)
      have z20_S16 := hF36.1 20 (by decide)
      have z5_S16 := hF36.1 5 (by decide)
      have f1_S16 := Fr_fa hF36 1 (by decide)
      have f2_S16 := Fr_fa hF36 2 (by decide)
      have f8_S16 := Fr_fa hF36 8 (by decide)
      have f10_S16 := Fr_fa hF36 10 (by decide)
      have f25_S16 := Fr_fa hF36 25 (by decide)
      have f28_S16 := Fr_fa hF36 28 (by decide)
      have f35_S16 := Fr_fa hF36 35 (by decide)
      have f36_S16 := Fr_fa hF36 36 (by decide)
      have f45_S16 := Fr_fa hF36 45 (by decide)
      have f46_S16 := Fr_fa hF36 46 (by decide)
      have f48_S16 := Fr_fa hF36 48 (by decide)
      have f5_S16 := Fr_fa hF36 5 (by decide)
      have g3_S16 := Fr_ga hF36 3 (by decide)
      have g4_S16 := Fr_ga hF36 4 (by decide)
      clear hF36
      exact j104 _ _ (by grind (ematch := 12) (splits := 16) [QI, SI, PT, WB, PLM, ix_1, ix_eq, LG2, XI, PI, PJ, BU, LV, LG, OH, HH, HL, ix_int, q_zz, q_za, q_zga, q_fza, q_fx, q_fga, q_gza, q_gfa, q_gx, ti_link, in2, in24, in4002])
  · refine fm_wrong _ _ _ _ (fun S17 hF38 p39 => ?_) (sg_wrong (nx := nx) (n := n) (so := so) (pl := pl) (wo := wo) (ws := ws) _ (by grind (ematch := 12) (splits := 16) [QI, SI, PT, WB, PLM, ix_1, ix_eq, LG2, XI, PI, PJ, BU, LV, LG, OH, HH, HL, ix_int, q_zz, q_za, q_zga, q_fza, q_fx, q_fga, q_gza, q_gfa, q_gx, ti_link, in2, in24, in4002]) (by grind (ematch := 12) (splits := 16) [QI, SI, PT, WB, PLM, ix_1, ix_eq, LG2, XI, PI, PJ, BU, LV, LG, OH, HH, HL, ix_int, q_zz, q_za, q_zga, q_fza, q_fx, q_fga, q_gza, q_gfa, q_gx, ti_link, in2, in24, in4002]))
    have fa_S17 := Fr_faa hF38
    have ga_S17 := Fr_gaa hF38
    have z3_S17 := hF38.1 3 (by decide)
    have z6_S17 := hF38.1 6 (by decide)
    have z7_S17 := hF38.1 7 (by decide)
    have z8_S17 := hF38.1 8 (by decide)
    have z9_S17 := hF38.1 9 (by decide)
    have z10_S17 := hF38.1 10 (by decide)
    have z11_S17 := hF38.1 11 (by decide)
    have z12_S17 := hF38.1 12 (by decide)
    have z13_S17 := hF38.1 13 (by decide)
    have z15_S17 := hF38.1 15 (by decide)
    have z17_S17 := hF38.1 17 (by decide)
    have z18_S17 := hF38.1 18 (by decide)
    have z19_S17 := hF38.1 19 (by decide)
    have z20_S17 := hF38.1 20 (by decide)
    have z5_S17 := hF38.1 5 (by decide)
    have f1_S17 := Fr_fa hF38 1 (by decide)
    have f2_S17 := Fr_fa hF38 2 (by decide)
    have f8_S17 := Fr_fa hF38 8 (by decide)
    have f10_S17 := Fr_fa hF38 10 (by decide)
    have f25_S17 := Fr_fa hF38 25 (by decide)
    have f28_S17 := Fr_fa hF38 28 (by decide)
    have f35_S17 := Fr_fa hF38 35 (by decide)
    have f36_S17 := Fr_fa hF38 36 (by decide)
    have f45_S17 := Fr_fa hF38 45 (by decide)
    have f46_S17 := Fr_fa hF38 46 (by decide)
    have f48_S17 := Fr_fa hF38 48 (by decide)
    have f5_S17 := Fr_fa hF38 5 (by decide)
    have g3_S17 := Fr_ga hF38 3 (by decide)
    have g4_S17 := Fr_ga hF38 4 (by decide)
    clear hF38
    grind (ematch := 12) (splits := 16) [QI, SI, PT, WB, PLM, ix_1, ix_eq, LG2, XI, PI, PJ, BU, LV, LG, OH, HH, HL, ix_int, q_zz, q_za, q_zga, q_fza, q_fx, q_fga, q_gza, q_gfa, q_gx, ti_link, in2, in24, in4002]
