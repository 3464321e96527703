
set_option maxHeartbeats 4000000 in
theorem sg_isName {nx n : Nat} {so pl : Nat → Int32} {wo ws : Nat → Int64} {S : mS} (h : PI nx n so pl wo ws S) : wp_isName S (fun S1 r => S1 = S ∧ (r = 0 ∨ (r = 1 ∧ (S.1 4) = 0 ∧ (S.1 3).toInt < n ∧ so (ix (S.1 3)) = 1))) := by
  unfold wp_isName
  refine ⟨fun c1 => ?_, fun c1 => ?_⟩
  · unfold wp_isName_24
    unfold wp_isName_25
    refine it_rule (fun u : Int32 × Int32 × mS => u.2.2 = S ∧ (u.1 = 0 ∨ (u.1 = 1 ∧ (S.1 4) = 0 ∧ (S.1 3).toInt < n ∧ so (ix (S.1 3)) = 1)) ∧ 0 ≤ u.2.1.toInt ∧ u.2.1.toInt ≤ 21) (fun u => (21 - u.2.1.toInt).toNat) ?_ (by grind (ematch := 12) (splits := 16) [PI, LG, ix_int, q_zz, q_za, q_zga, q_fza, q_fx, q_fga, q_gza, q_gfa, q_gx, ti_link, in22, in4002])
    rintro ⟨x1, x2, Sl28⟩ k28 hI28 hk28
    replace hI28 : Sl28 = S ∧ (x1 = 0 ∨ (x1 = 1 ∧ (S.1 4) = 0 ∧ (S.1 3).toInt < n ∧ so (ix (S.1 3)) = 1)) ∧ 0 ≤ x2.toInt ∧ x2.toInt ≤ 21 := hI28
    replace hk28 : ∀ v : Int32 × Int32 × mS, v.2.2 = S ∧ (v.1 = 0 ∨ (v.1 = 1 ∧ (S.1 4) = 0 ∧ (S.1 3).toInt < n ∧ so (ix (S.1 3)) = 1)) ∧ 0 ≤ v.2.1.toInt ∧ v.2.1.toInt ≤ 21 → (21 - v.2.1.toInt).toNat < (21 - x2.toInt).toNat → k28 v := hk28
    show wp_isName_28 _ k28 x1 x2 Sl28
    unfold wp_isName_28
    refine ⟨fun c2 => ?_, fun c2 => ?_⟩
    · refine ⟨by grind (ematch := 12) (splits := 16) [PI, LG, ix_int, q_zz, q_za, q_zga, q_fza, q_fx, q_fga, q_gza, q_gfa, q_gx, ti_link, in22, in4002], ?_⟩
      grind (ematch := 12) (splits := 16) [PI, LG, ix_int, q_zz, q_za, q_zga, q_fza, q_fx, q_fga, q_gza, q_gfa, q_gx, ti_link, in22, in4002]
    · refine ⟨fun c3 => ?_, fun c3 => ?_⟩
      · refine ⟨by grind (ematch := 12) (splits := 16) [PI, LG, ix_int, q_zz, q_za, q_zga, q_fza, q_fx, q_fga, q_gza, q_gfa, q_gx, ti_link, in22, in4002], ?_⟩
        grind (ematch := 12) (splits := 16) [PI, LG, ix_int, q_zz, q_za, q_zga, q_fza, q_fx, q_fga, q_gza, q_gfa, q_gx, ti_link, in22, in4002]
      · refine ⟨by grind (ematch := 12) (splits := 16) [PI, LG, ix_int, q_zz, q_za, q_zga, q_fza, q_fx, q_fga, q_gza, q_gfa, q_gx, ti_link, in22, in4002], ?_⟩
        intro z6 ez6
        refine ⟨by grind (ematch := 12) (splits := 16) [PI, LG, ix_int, q_zz, q_za, q_zga, q_fza, q_fx, q_fga, q_gza, q_gfa, q_gx, ti_link, in22, in4002], ?_⟩
        intro z7 ez7
        intro z8 ez8
        refine ⟨fun c4 => ?_, fun c4 => ?_⟩
        · unfold wp_isName_62
          intro z10 ez10
          exact hk28 _ (by grind (ematch := 12) (splits := 16) [PI, LG, ix_int, q_zz, q_za, q_zga, q_fza, q_fx, q_fga, q_gza, q_gfa, q_gx, ti_link, in22, in4002]) (by grind (ematch := 12) (splits := 16) [PI, LG, ix_int, q_zz, q_za, q_zga, q_fza, q_fx, q_fga, q_gza, q_gfa, q_gx, ti_link, in22, in4002])
        · unfold wp_isName_62
          intro z10 ez10
          exact hk28 _ (by grind (ematch := 12) (splits := 16) [PI, LG, ix_int, q_zz, q_za, q_zga, q_fza, q_fx, q_fga, q_gza, q_gfa, q_gx, ti_link, in22, in4002]) (by grind (ematch := 12) (splits := 16) [PI, LG, ix_int, q_zz, q_za, q_zga, q_fza, q_fx, q_fga, q_gza, q_gfa, q_gx, ti_link, in22, in4002])
  · refine ⟨by grind (ematch := 12) (splits := 16) [PI, LG, ix_int, q_zz, q_za, q_zga, q_fza, q_fx, q_fga, q_gza, q_gfa, q_gx, ti_link, in22, in4002], ?_⟩
    intro z2 ez2
    refine ⟨fun c5 => ?_, fun c5 => ?_⟩
    · unfold wp_isName_24
      unfold wp_isName_25
      refine it_rule (fun u : Int32 × Int32 × mS => u.2.2 = S ∧ (u.1 = 0 ∨ (u.1 = 1 ∧ (S.1 4) = 0 ∧ (S.1 3).toInt < n ∧ so (ix (S.1 3)) = 1)) ∧ 0 ≤ u.2.1.toInt ∧ u.2.1.toInt ≤ 21) (fun u => (21 - u.2.1.toInt).toNat) ?_ (by grind (ematch := 12) (splits := 16) [PI, LG, ix_int, q_zz, q_za, q_zga, q_fza, q_fx, q_fga, q_gza, q_gfa, q_gx, ti_link, in22, in4002])
      rintro ⟨x1, x2, Sl28⟩ k28 hI28 hk28
      replace hI28 : Sl28 = S ∧ (x1 = 0 ∨ (x1 = 1 ∧ (S.1 4) = 0 ∧ (S.1 3).toInt < n ∧ so (ix (S.1 3)) = 1)) ∧ 0 ≤ x2.toInt ∧ x2.toInt ≤ 21 := hI28
      replace hk28 : ∀ v : Int32 × Int32 × mS, v.2.2 = S ∧ (v.1 = 0 ∨ (v.1 = 1 ∧ (S.1 4) = 0 ∧ (S.1 3).toInt < n ∧ so (ix (S.1 3)) = 1)) ∧ 0 ≤ v.2.1.toInt ∧ v.2.1.toInt ≤ 21 → (21 - v.2.1.toInt).toNat < (21 - x2.toInt).toNat → k28 v := hk28
      show wp_isName_28 _ k28 x1 x2 Sl28
      unfold wp_isName_28
      refine ⟨fun c6 => ?_, fun c6 => ?_⟩
      · refine ⟨by grind (ematch := 12) (splits := 16) [PI, LG, ix_int, q_zz, q_za, q_zga, q_fza, q_fx, q_fga, q_gza, q_gfa, q_gx, ti_link, in22, in4002], ?_⟩
        grind (ematch := 12) (splits := 16) [PI, LG, ix_int, q_zz, q_za, q_zga, q_fza, q_fx, q_fga, q_gza, q_gfa, q_gx, ti_link, in22, in4002]
      · refine ⟨fun c7 => ?_, fun c7 => ?_⟩
        · refine ⟨by grind (ematch := 12) (splits := 16) [PI, LG, ix_int, q_zz, q_za, q_zga, q_fza, q_fx, q_fga, q_gza, q_gfa, q_gx, ti_link, in22, in4002], ?_⟩
          grind (ematch := 12) (splits := 16) [PI, LG, ix_int, q_zz, q_za, q_zga, q_fza, q_fx, q_fga, q_gza, q_gfa, q_gx, ti_link, in22, in4002]
        · refine ⟨by grind (ematch := 12) (splits := 16) [PI, LG, ix_int, q_zz, q_za, q_zga, q_fza, q_fx, q_fga, q_gza, q_gfa, q_gx, ti_link, in22, in4002], ?_⟩
          intro z6 ez6
          refine ⟨by grind (ematch := 12) (splits := 16) [PI, LG, ix_int, q_zz, q_za, q_zga, q_fza, q_fx, q_fga, q_gza, q_gfa, q_gx, ti_link, in22, in4002], ?_⟩
          intro z7 ez7
          intro z8 ez8
          refine ⟨fun c8 => ?_, fun c8 => ?_⟩
          · unfold wp_isName_62
            intro z10 ez10
            exact hk28 _ (by grind (ematch := 12) (splits := 16) [PI, LG, ix_int, q_zz, q_za, q_zga, q_fza, q_fx, q_fga, q_gza, q_gfa, q_gx, ti_link, in22, in4002]) (by grind (ematch := 12) (splits := 16) [PI, LG, ix_int, q_zz, q_za, q_zga, q_fza, q_fx, q_fga, q_gza, q_gfa, q_gx, ti_link, in22, in4002])
          · unfold wp_isName_62
            intro z10 ez10
            exact hk28 _ (by grind (ematch := 12) (splits := 16) [PI, LG, ix_int, q_zz, q_za, q_zga, q_fza, q_fx, q_fga, q_gza, q_gfa, q_gx, ti_link, in22, in4002]) (by grind (ematch := 12) (splits := 16) [PI, LG, ix_int, q_zz, q_za, q_zga, q_fza, q_fx, q_fga, q_gza, q_gfa, q_gx, ti_link, in22, in4002])
    · unfold wp_isName_25
      refine it_rule (fun u : Int32 × Int32 × mS => u.2.2 = S ∧ (u.1 = 0 ∨ (u.1 = 1 ∧ (S.1 4) = 0 ∧ (S.1 3).toInt < n ∧ so (ix (S.1 3)) = 1)) ∧ 0 ≤ u.2.1.toInt ∧ u.2.1.toInt ≤ 21) (fun u => (21 - u.2.1.toInt).toNat) ?_ (by grind (ematch := 12) (splits := 16) [PI, LG, ix_int, q_zz, q_za, q_zga, q_fza, q_fx, q_fga, q_gza, q_gfa, q_gx, ti_link, in22, in4002])
      rintro ⟨x1, x2, Sl28⟩ k28 hI28 hk28
      replace hI28 : Sl28 = S ∧ (x1 = 0 ∨ (x1 = 1 ∧ (S.1 4) = 0 ∧ (S.1 3).toInt < n ∧ so (ix (S.1 3)) = 1)) ∧ 0 ≤ x2.toInt ∧ x2.toInt ≤ 21 := hI28
      replace hk28 : ∀ v : Int32 × Int32 × mS, v.2.2 = S ∧ (v.1 = 0 ∨ (v.1 = 1 ∧ (S.1 4) = 0 ∧ (S.1 3).toInt < n ∧ so (ix (S.1 3)) = 1)) ∧ 0 ≤ v.2.1.toInt ∧ v.2.1.toInt ≤ 21 → (21 - v.2.1.toInt).toNat < (21 - x2.toInt).toNat → k28 v := hk28
      show wp_isName_28 _ k28 x1 x2 Sl28
      unfold wp_isName_28
      refine ⟨fun c9 => ?_, fun c9 => ?_⟩
      · refine ⟨by grind (ematch := 12) (splits := 16) [PI, LG, ix_int, q_zz, q_za, q_zga, q_fza, q_fx, q_fga, q_gza, q_gfa, q_gx, ti_link, in22, in4002], ?_⟩
        grind (ematch := 12) (splits := 16) [PI, LG, ix_int, q_zz, q_za, q_zga, q_fza, q_fx, q_fga, q_gza, q_gfa, q_gx, ti_link, in22, in4002]
      · refine ⟨fun c10 => ?_, fun c10 => ?_⟩
        · refine ⟨by grind (ematch := 12) (splits := 16) [PI, LG, ix_int, q_zz, q_za, q_zga, q_fza, q_fx, q_fga, q_gza, q_gfa, q_gx, ti_link, in22, in4002], ?_⟩
          grind (ematch := 12) (splits := 16) [PI, LG, ix_int, q_zz, q_za, q_zga, q_fza, q_fx, q_fga, q_gza, q_gfa, q_gx, ti_link, in22, in4002]
        · refine ⟨by grind (ematch := 12) (splits := 16) [PI, LG, ix_int, q_zz, q_za, q_zga, q_fza, q_fx, q_fga, q_gza, q_gfa, q_gx, ti_link, in22, in4002], ?_⟩
          intro z6 ez6
          refine ⟨by grind (ematch := 12) (splits := 16) [PI, LG, ix_int, q_zz, q_za, q_zga, q_fza, q_fx, q_fga, q_gza, q_gfa, q_gx, ti_link, in22, in4002], ?_⟩
          intro z7 ez7
          intro z8 ez8
          refine ⟨fun c11 => ?_, fun c11 => ?_⟩
          · unfold wp_isName_62
            intro z10 ez10
            exact hk28 _ (by grind (ematch := 12) (splits := 16) [PI, LG, ix_int, q_zz, q_za, q_zga, q_fza, q_fx, q_fga, q_gza, q_gfa, q_gx, ti_link, in22, in4002]) (by grind (ematch := 12) (splits := 16) [PI, LG, ix_int, q_zz, q_za, q_zga, q_fza, q_fx, q_fga, q_gza, q_gfa, q_gx, ti_link, in22, in4002])
          · unfold wp_isName_62
            intro z10 ez10
            exact hk28 _ (by grind (ematch := 12) (splits := 16) [PI, LG, ix_int, q_zz, q_za, q_zga, q_fza, q_fx, q_fga, q_gza, q_gfa, q_gx, ti_link, in22, in4002]) (by grind (ematch := 12) (splits := 16) [PI, LG, ix_int, q_zz, q_za, q_zga, q_fza, q_fx, q_fga, q_gza, q_gfa, q_gx, ti_link, in22, in4002])
set_option maxHeartbeats 4000000 in
theorem sg_takeNumber {nx n : Nat} {so pl : Nat → Int32} {wo ws : Nat → Int64} (a0 : Int32) (a1 : Int32) {S : mS} (h : PI nx n so pl wo ws S) : wp_takeNumber a0 a1 S (fun S1 r => PI nx n so pl wo ws S1 ∧ (0 < (S1.1 4).toInt ∨ ((S1.1 4) = 0 ∧ (S.1 4) = 0 ∧ (S.1 3).toInt < n ∧ (S1.1 3).toInt = (S.1 3).toInt + 1))) := by
  unfold wp_takeNumber
  refine ⟨fun c1 => ?_, fun c1 => ?_⟩
  · unfold wp_takeNumber_28
    refine ⟨fun c2 => ?_, fun c2 => ?_⟩
    · unfold wp_takeNumber_70
      intro z5 ez5
      intro S6 eS6
      refine ⟨fun c3 => ?_, fun c3 => ?_⟩
      · intro z8 ez8
        refine ⟨by grind (ematch := 12) (splits := 16) [PI, LG, ix_int, q_zz, q_za, q_zga, q_fza, q_fx, q_fga, q_gza, q_gfa, q_gx, ti_link, in4002], ?_⟩
        intro z9 ez9
        intro z10 ez10
        grind (ematch := 12) (splits := 16) [PI, LG, ix_int, q_zz, q_za, q_zga, q_fza, q_fx, q_fga, q_gza, q_gfa, q_gx, ti_link, in4002]
      · grind (ematch := 12) (splits := 16) [PI, LG, ix_int, q_zz, q_za, q_zga, q_fza, q_fx, q_fga, q_gza, q_gfa, q_gx, ti_link, in4002]
    · refine ⟨by grind (ematch := 12) (splits := 16) [PI, LG, ix_int, q_zz, q_za, q_zga, q_fza, q_fx, q_fga, q_gza, q_gfa, q_gx, ti_link, in4002], ?_⟩
      intro z12 ez12
      intro z13 ez13
      intro z14 ez14
      refine ⟨fun c4 => ?_, fun c4 => ?_⟩
      · unfold wp_takeNumber_65
        refine fm_wrong _ _ _ _ (fun S20 hF5 p6 => ?_) (sg_wrong (nx := nx) (n := n) (so := so) (pl := pl) (wo := wo) (ws := ws) _ (by grind (ematch := 12) (splits := 16) [PI, LG, ix_int, q_zz, q_za, q_zga, q_fza, q_fx, q_fga, q_gza, q_gfa, q_gx, ti_link, in4002]) (by grind (ematch := 12) (splits := 16) [PI, LG, ix_int, q_zz, q_za, q_zga, q_fza, q_fx, q_fga, q_gza, q_gfa, q_gx, ti_link, in4002]))
        have z3_S20 := hF5.1 3 (by decide)
        have z6_S20 := hF5.1 6 (by decide)
        have f1_S20 := Fr_fa hF5 1 (by decide)
        have f2_S20 := Fr_fa hF5 2 (by decide)
        have g3_S20 := Fr_ga hF5 3 (by decide)
        have g4_S20 := Fr_ga hF5 4 (by decide)
        clear hF5
        unfold wp_takeNumber_70
        intro z5 ez5
        intro S6 eS6
        refine ⟨fun c7 => ?_, fun c7 => ?_⟩
        · intro z8 ez8
          refine ⟨by grind (ematch := 12) (splits := 16) [PI, LG, ix_int, q_zz, q_za, q_zga, q_fza, q_fx, q_fga, q_gza, q_gfa, q_gx, ti_link, in4002], ?_⟩
          intro z9 ez9
          intro z10 ez10
          grind (ematch := 12) (splits := 16) [PI, LG, ix_int, q_zz, q_za, q_zga, q_fza, q_fx, q_fga, q_gza, q_gfa, q_gx, ti_link, in4002]
        · grind (ematch := 12) (splits := 16) [PI, LG, ix_int, q_zz, q_za, q_zga, q_fza, q_fx, q_fga, q_gza, q_gfa, q_gx, ti_link, in4002]
      · refine ⟨by grind (ematch := 12) (splits := 16) [PI, LG, ix_int, q_zz, q_za, q_zga, q_fza, q_fx, q_fga, q_gza, q_gfa, q_gx, ti_link, in4002], ?_⟩
        intro z16 ez16
        intro z17 ez17
        intro z18 ez18
        refine ⟨fun c8 => ?_, fun c8 => ?_⟩
        · unfold wp_takeNumber_70
          intro z5 ez5
          intro S6 eS6
          refine ⟨fun c9 => ?_, fun c9 => ?_⟩
          · intro z8 ez8
            refine ⟨by grind (ematch := 12) (splits := 16) [PI, LG, ix_int, q_zz, q_za, q_zga, q_fza, q_fx, q_fga, q_gza, q_gfa, q_gx, ti_link, in4002], ?_⟩
            intro z9 ez9
            intro z10 ez10
            grind (ematch := 12) (splits := 16) [PI, LG, ix_int, q_zz, q_za, q_zga, q_fza, q_fx, q_fga, q_gza, q_gfa, q_gx, ti_link, in4002]
          · grind (ematch := 12) (splits := 16) [PI, LG, ix_int, q_zz, q_za, q_zga, q_fza, q_fx, q_fga, q_gza, q_gfa, q_gx, ti_link, in4002]
        · unfold wp_takeNumber_65
          refine fm_wrong _ _ _ _ (fun S20 hF10 p11 => ?_) (sg_wrong (nx := nx) (n := n) (so := so) (pl := pl) (wo := wo) (ws := ws) _ (by grind (ematch := 12) (splits := 16) [PI, LG, ix_int, q_zz, q_za, q_zga, q_fza, q_fx, q_fga, q_gza, q_gfa, q_gx, ti_link, in4002]) (by grind (ematch := 12) (splits := 16) [PI, LG, ix_int, q_zz, q_za, q_zga, q_fza, q_fx, q_fga, q_gza, q_gfa, q_gx, ti_link, in4002]))
          have z3_S20 := hF10.1 3 (by decide)
          have z6_S20 := hF10.1 6 (by decide)
          have f1_S20 := Fr_fa hF10 1 (by decide)
          have f2_S20 := Fr_fa hF10 2 (by decide)
          have g3_S20 := Fr_ga hF10 3 (by decide)
          have g4_S20 := Fr_ga hF10 4 (by decide)
          clear hF10
          unfold wp_takeNumber_70
          intro z5 ez5
          intro S6 eS6
          refine ⟨fun c12 => ?_, fun c12 => ?_⟩
          · intro z8 ez8
            refine ⟨by grind (ematch := 12) (splits := 16) [PI, LG, ix_int, q_zz, q_za, q_zga, q_fza, q_fx, q_fga, q_gza, q_gfa, q_gx, ti_link, in4002], ?_⟩
            intro z9 ez9
            intro z10 ez10
            grind (ematch := 12) (splits := 16) [PI, LG, ix_int, q_zz, q_za, q_zga, q_fza, q_fx, q_fga, q_gza, q_gfa, q_gx, ti_link, in4002]
          · grind (ematch := 12) (splits := 16) [PI, LG, ix_int, q_zz, q_za, q_zga, q_fza, q_fx, q_fga, q_gza, q_gfa, q_gx, ti_link, in4002]
  · refine ⟨by grind (ematch := 12) (splits := 16) [PI, LG, ix_int, q_zz, q_za, q_zga, q_fza, q_fx, q_fga, q_gza, q_gfa, q_gx, ti_link, in4002], ?_⟩
    intro z2 ez2
    refine ⟨fun c13 => ?_, fun c13 => ?_⟩
    · unfold wp_takeNumber_28
      refine ⟨fun c14 => ?_, fun c14 => ?_⟩
      · unfold wp_takeNumber_70
        intro z5 ez5
        intro S6 eS6
        refine ⟨fun c15 => ?_, fun c15 => ?_⟩
        · intro z8 ez8
          refine ⟨by grind (ematch := 12) (splits := 16) [PI, LG, ix_int, q_zz, q_za, q_zga, q_fza, q_fx, q_fga, q_gza, q_gfa, q_gx, ti_link, in4002], ?_⟩
          intro z9 ez9
          intro z10 ez10
          grind (ematch := 12) (splits := 16) [PI, LG, ix_int, q_zz, q_za, q_zga, q_fza, q_fx, q_fga, q_gza, q_gfa, q_gx, ti_link, in4002]
        · grind (ematch := 12) (splits := 16) [PI, LG, ix_int, q_zz, q_za, q_zga, q_fza, q_fx, q_fga, q_gza, q_gfa, q_gx, ti_link, in4002]
      · refine ⟨by grind (ematch := 12) (splits := 16) [PI, LG, ix_int, q_zz, q_za, q_zga, q_fza, q_fx, q_fga, q_gza, q_gfa, q_gx, ti_link, in4002], ?_⟩
        intro z12 ez12
        intro z13 ez13
        intro z14 ez14
        refine ⟨fun c16 => ?_, fun c16 => ?_⟩
        · unfold wp_takeNumber_65
          refine fm_wrong _ _ _ _ (fun S20 hF17 p18 => ?_) (sg_wrong (nx := nx) (n := n) (so := so) (pl := pl) (wo := wo) (ws := ws) _ (by grind (ematch := 12) (splits := 16) [PI, LG, ix_int, q_zz, q_za, q_zga, q_fza, q_fx, q_fga, q_gza, q_gfa, q_gx, ti_link, in4002]) (by grind (ematch := 12) (splits := 16) [PI, LG, ix_int, q_zz, q_za, q_zga, q_fza, q_fx, q_fga, q_gza, q_gfa, q_gx, ti_link, in4002]))
          have z3_S20 := hF17.1 3 (by decide)
          have z6_S20 := hF17.1 6 (by decide)
          have f1_S20 := Fr_fa hF17 1 (by decide)
          have f2_S20 := Fr_fa hF17 2 (by decide)
          have g3_S20 := Fr_ga hF17 3 (by decide)
          have g4_S20 := Fr_ga hF17 4 (by decide)
          clear hF17
          unfold wp_takeNumber_70
          intro z5 ez5
          intro S6 eS6
          refine ⟨fun c19 => ?_, fun c19 => ?_⟩
          · intro z8 ez8
            refine ⟨by grind (ematch := 12) (splits := 16) [PI, LG, ix_int, q_zz, q_za, q_zga, q_fza, q_fx, q_fga, q_gza, q_gfa, q_gx, ti_link, in4002], ?_⟩
            intro z9 ez9
            intro z10 ez10
            grind (ematch := 12) (splits := 16) [PI, LG, ix_int, q_zz, q_za, q_zga, q_fza, q_fx, q_fga, q_gza, q_gfa, q_gx, ti_link, in4002]
          · grind (ematch := 12) (splits := 16) [PI, LG, ix_int, q_zz, q_za, q_zga, q_fza, q_fx, q_fga, q_gza, q_gfa, q_gx, ti_link, in4002]
        · refine ⟨by grind (ematch := 12) (splits := 16) [PI, LG, ix_int, q_zz, q_za, q_zga, q_fza, q_fx, q_fga, q_gza, q_gfa, q_gx, ti_link, in4002], ?_⟩
          intro z16 ez16
          intro z17 ez17
          intro z18 ez18
          refine ⟨fun c20 => ?_, fun c20 => ?_⟩
          · unfold wp_takeNumber_70
            intro z5 ez5
            intro S6 eS6
            refine ⟨fun c21 => ?_, fun c21 => ?_⟩
            · intro z8 ez8
              refine ⟨by grind (ematch := 12) (splits := 16) [PI, LG, ix_int, q_zz, q_za, q_zga, q_fza, q_fx, q_fga, q_gza, q_gfa, q_gx, ti_link, in4002], ?_⟩
              intro z9 ez9
              intro z10 ez10
              grind (ematch := 12) (splits := 16) [PI, LG, ix_int, q_zz, q_za, q_zga, q_fza, q_fx, q_fga, q_gza, q_gfa, q_gx, ti_link, in4002]
            · grind (ematch := 12) (splits := 16) [PI, LG, ix_int, q_zz, q_za, q_zga, q_fza, q_fx, q_fga, q_gza, q_gfa, q_gx, ti_link, in4002]
          · unfold wp_takeNumber_65
            refine fm_wrong _ _ _ _ (fun S20 hF22 p23 => ?_) (sg_wrong (nx := nx) (n := n) (so := so) (pl := pl) (wo := wo) (ws := ws) _ (by grind (ematch := 12) (splits := 16) [PI, LG, ix_int, q_zz, q_za, q_zga, q_fza, q_fx, q_fga, q_gza, q_gfa, q_gx, ti_link, in4002]) (by grind (ematch := 12) (splits := 16) [PI, LG, ix_int, q_zz, q_za, q_zga, q_fza, q_fx, q_fga, q_gza, q_gfa, q_gx, ti_link, in4002]))
            have z3_S20 := hF22.1 3 (by decide)
            have z6_S20 := hF22.1 6 (by decide)
            have f1_S20 := Fr_fa hF22 1 (by decide)
            have f2_S20 := Fr_fa hF22 2 (by decide)
            have g3_S20 := Fr_ga hF22 3 (by decide)
            have g4_S20 := Fr_ga hF22 4 (by decide)
            clear hF22
            unfold wp_takeNumber_70
            intro z5 ez5
            intro S6 eS6
            refine ⟨fun c24 => ?_, fun c24 => ?_⟩
            · intro z8 ez8
              refine ⟨by grind (ematch := 12) (splits := 16) [PI, LG, ix_int, q_zz, q_za, q_zga, q_fza, q_fx, q_fga, q_gza, q_gfa, q_gx, ti_link, in4002], ?_⟩
              intro z9 ez9
              intro z10 ez10
              grind (ematch := 12) (splits := 16) [PI, LG, ix_int, q_zz, q_za, q_zga, q_fza, q_fx, q_fga, q_gza, q_gfa, q_gx, ti_link, in4002]
            · grind (ematch := 12) (splits := 16) [PI, LG, ix_int, q_zz, q_za, q_zga, q_fza, q_fx, q_fga, q_gza, q_gfa, q_gx, ti_link, in4002]
    · refine fm_wrong _ _ _ _ (fun S4 hF25 p26 => ?_) (sg_wrong (nx := nx) (n := n) (so := so) (pl := pl) (wo := wo) (ws := ws) _ (by grind (ematch := 12) (splits := 16) [PI, LG, ix_int, q_zz, q_za, q_zga, q_fza, q_fx, q_fga, q_gza, q_gfa, q_gx, ti_link, in4002]) (by grind (ematch := 12) (splits := 16) [PI, LG, ix_int, q_zz, q_za, q_zga, q_fza, q_fx, q_fga, q_gza, q_gfa, q_gx, ti_link, in4002]))
      have z3_S4 := hF25.1 3 (by decide)
      have z6_S4 := hF25.1 6 (by decide)
      have f1_S4 := Fr_fa hF25 1 (by decide)
      have f2_S4 := Fr_fa hF25 2 (by decide)
      have g3_S4 := Fr_ga hF25 3 (by decide)
      have g4_S4 := Fr_ga hF25 4 (by decide)
      clear hF25
      unfold wp_takeNumber_70
      intro z5 ez5
      intro S6 eS6
      refine ⟨fun c27 => ?_, fun c27 => ?_⟩
      · intro z8 ez8
        refine ⟨by grind (ematch := 12) (splits := 16) [PI, LG, ix_int, q_zz, q_za, q_zga, q_fza, q_fx, q_fga, q_gza, q_gfa, q_gx, ti_link, in4002], ?_⟩
        intro z9 ez9
        intro z10 ez10
        grind (ematch := 12) (splits := 16) [PI, LG, ix_int, q_zz, q_za, q_zga, q_fza, q_fx, q_fga, q_gza, q_gfa, q_gx, ti_link, in4002]
      · grind (ematch := 12) (splits := 16) [PI, LG, ix_int, q_zz, q_za, q_zga, q_fza, q_fx, q_fga, q_gza, q_gfa, q_gx, ti_link, in4002]
set_option maxHeartbeats 4000000 in
theorem sg_find_c (a1 : Int32) (a2 : Int32) (a3 : Int64) {S : mS} (h : 0 ≤ a1.toInt ∧ 0 ≤ a2.toInt ∧ a1.toInt + a2.toInt ≤ 288) : wp_find_c a1 a2 a3 S (fun S1 r => S1 = S ∧ -1 ≤ r.toInt ∧ (r.toInt < a2.toInt ∨ r.toInt = -1)) := by
  unfold wp_find_c
  refine it_rule (fun u : Int32 × Int32 × Int64 × Int32 × Int32 × mS => u.1 = a1 ∧ u.2.1 = a2 ∧ u.2.2.2.2.2 = S ∧ -1 ≤ u.2.2.2.1.toInt ∧ (u.2.2.2.1.toInt < a2.toInt ∨ u.2.2.2.1.toInt = -1) ∧ 0 ≤ u.2.2.2.2.1.toInt ∧ u.2.2.2.2.1.toInt ≤ a2.toInt) (fun u => (a2.toInt - u.2.2.2.2.1.toInt).toNat) ?_ (by grind (ematch := 12) (splits := 16) [q_zz, q_za, q_zga, q_fza, q_fx, q_fga, q_gza, q_gfa, q_gx, ti_link, in288])
  rintro ⟨x2, x3, x4, x6, x7, Sl6⟩ k6 hI6 hk6
  replace hI6 : x2 = a1 ∧ x3 = a2 ∧ Sl6 = S ∧ -1 ≤ x6.toInt ∧ (x6.toInt < a2.toInt ∨ x6.toInt = -1) ∧ 0 ≤ x7.toInt ∧ x7.toInt ≤ a2.toInt := hI6
  replace hk6 : ∀ v : Int32 × Int32 × Int64 × Int32 × Int32 × mS, v.1 = a1 ∧ v.2.1 = a2 ∧ v.2.2.2.2.2 = S ∧ -1 ≤ v.2.2.2.1.toInt ∧ (v.2.2.2.1.toInt < a2.toInt ∨ v.2.2.2.1.toInt = -1) ∧ 0 ≤ v.2.2.2.2.1.toInt ∧ v.2.2.2.2.1.toInt ≤ a2.toInt → (a2.toInt - v.2.2.2.2.1.toInt).toNat < (a2.toInt - x7.toInt).toNat → k6 v := hk6
  show wp_find_c_6 _ k6 x2 x3 x4 x6 x7 Sl6
  unfold wp_find_c_6
  refine ⟨fun c1 => ?_, fun c1 => ?_⟩
  · grind (ematch := 12) (splits := 16) [q_zz, q_za, q_zga, q_fza, q_fx, q_fga, q_gza, q_gfa, q_gx, ti_link, in288]
  · intro z2 ez2
    refine ⟨by grind (ematch := 12) (splits := 16) [q_zz, q_za, q_zga, q_fza, q_fx, q_fga, q_gza, q_gfa, q_gx, ti_link, in288], ?_⟩
    intro z3 ez3
    intro z4 ez4
    refine ⟨fun c2 => ?_, fun c2 => ?_⟩
    · unfold wp_find_c_31
      intro z6 ez6
      exact hk6 _ (by grind (ematch := 12) (splits := 16) [q_zz, q_za, q_zga, q_fza, q_fx, q_fga, q_gza, q_gfa, q_gx, ti_link, in288]) (by grind (ematch := 12) (splits := 16) [q_zz, q_za, q_zga, q_fza, q_fx, q_fga, q_gza, q_gfa, q_gx, ti_link, in288])
    · unfold wp_find_c_31
      intro z6 ez6
      exact hk6 _ (by grind (ematch := 12) (splits := 16) [q_zz, q_za, q_zga, q_fza, q_fx, q_fga, q_gza, q_gfa, q_gx, ti_link, in288]) (by grind (ematch := 12) (splits := 16) [q_zz, q_za, q_zga, q_fza, q_fx, q_fga, q_gza, q_gfa, q_gx, ti_link, in288])
set_option maxHeartbeats 4000000 in
theorem sg_find_r (a1 : Int32) (a2 : Int32) (a3 : Int64) {S : mS} (h : 0 ≤ a1.toInt ∧ 0 ≤ a2.toInt ∧ a1.toInt + a2.toInt ≤ 24) : wp_find_r a1 a2 a3 S (fun S1 r => S1 = S ∧ -1 ≤ r.toInt ∧ (r.toInt < a2.toInt ∨ r.toInt = -1)) := by
  unfold wp_find_r
  refine it_rule (fun u : Int32 × Int32 × Int64 × Int32 × Int32 × mS => u.1 = a1 ∧ u.2.1 = a2 ∧ u.2.2.2.2.2 = S ∧ -1 ≤ u.2.2.2.1.toInt ∧ (u.2.2.2.1.toInt < a2.toInt ∨ u.2.2.2.1.toInt = -1) ∧ 0 ≤ u.2.2.2.2.1.toInt ∧ u.2.2.2.2.1.toInt ≤ a2.toInt) (fun u => (a2.toInt - u.2.2.2.2.1.toInt).toNat) ?_ (by grind (ematch := 12) (splits := 16) [q_zz, q_za, q_zga, q_fza, q_fx, q_fga, q_gza, q_gfa, q_gx, ti_link, in24])
  rintro ⟨x2, x3, x4, x6, x7, Sl6⟩ k6 hI6 hk6
  replace hI6 : x2 = a1 ∧ x3 = a2 ∧ Sl6 = S ∧ -1 ≤ x6.toInt ∧ (x6.toInt < a2.toInt ∨ x6.toInt = -1) ∧ 0 ≤ x7.toInt ∧ x7.toInt ≤ a2.toInt := hI6
  replace hk6 : ∀ v : Int32 × Int32 × Int64 × Int32 × Int32 × mS, v.1 = a1 ∧ v.2.1 = a2 ∧ v.2.2.2.2.2 = S ∧ -1 ≤ v.2.2.2.1.toInt ∧ (v.2.2.2.1.toInt < a2.toInt ∨ v.2.2.2.1.toInt = -1) ∧ 0 ≤ v.2.2.2.2.1.toInt ∧ v.2.2.2.2.1.toInt ≤ a2.toInt → (a2.toInt - v.2.2.2.2.1.toInt).toNat < (a2.toInt - x7.toInt).toNat → k6 v := hk6
  show wp_find_r_6 _ k6 x2 x3 x4 x6 x7 Sl6
  unfold wp_find_r_6
  refine ⟨fun c1 => ?_, fun c1 => ?_⟩
  · grind (ematch := 12) (splits := 16) [q_zz, q_za, q_zga, q_fza, q_fx, q_fga, q_gza, q_gfa, q_gx, ti_link, in24]
  · intro z2 ez2
    refine ⟨by grind (ematch := 12) (splits := 16) [q_zz, q_za, q_zga, q_fza, q_fx, q_fga, q_gza, q_gfa, q_gx, ti_link, in24], ?_⟩
    intro z3 ez3
    intro z4 ez4
    refine ⟨fun c2 => ?_, fun c2 => ?_⟩
    · unfold wp_find_r_31
      intro z6 ez6
      exact hk6 _ (by grind (ematch := 12) (splits := 16) [q_zz, q_za, q_zga, q_fza, q_fx, q_fga, q_gza, q_gfa, q_gx, ti_link, in24]) (by grind (ematch := 12) (splits := 16) [q_zz, q_za, q_zga, q_fza, q_fx, q_fga, q_gza, q_gfa, q_gx, ti_link, in24])
    · unfold wp_find_r_31
      intro z6 ez6
      exact hk6 _ (by grind (ematch := 12) (splits := 16) [q_zz, q_za, q_zga, q_fza, q_fx, q_fga, q_gza, q_gfa, q_gx, ti_link, in24]) (by grind (ematch := 12) (splits := 16) [q_zz, q_za, q_zga, q_fza, q_fx, q_fga, q_gza, q_gfa, q_gx, ti_link, in24])
set_option maxHeartbeats 4000000 in
theorem sg_givenCell {nx n : Nat} {so pl : Nat → Int32} {wo ws : Nat → Int64} (a0 : Int32) {S : mS} (h : PI nx n so pl wo ws S) (hc : (∀ i, i < 24 → 0 ≤ ((S.2.1 8) i).toInt ∧ ((S.2.1 8) i).toInt ≤ 12)) (ha : 0 ≤ a0.toInt ∧ a0.toInt < 24) : wp_givenCell a0 S (fun S1 => PI nx n so pl wo ws S1 ∧ (∀ i, i < 24 → 0 ≤ ((S1.2.1 8) i).toInt ∧ ((S1.2.1 8) i).toInt ≤ 12) ∧ ((S1.1 4) = 0 → (S.1 4) = 0 ∧ (S.1 3).toInt < n ∧ (S1.1 3).toInt = (S.1 3).toInt + 1 ∧ ((S.2.1 8) (ix a0)).toInt < 12) ∧ (∀ k i, ¬ (k = 8 ∧ i = ix a0) → S1.2.1 k i = S.2.1 k i) ∧ (∀ k i : Nat, ¬ (k = 9 ∧ 12 * a0.toInt ≤ (i : Int) ∧ (i : Int) < 12 * a0.toInt + 12) → S1.2.2 k i = S.2.2 k i)) := by
  unfold wp_givenCell
  have j90 : ∀ (x1 : Int32) (Sx : mS), (PI nx n so pl wo ws Sx ∧ (∀ i, i < 24 → 0 ≤ ((Sx.2.1 8) i).toInt ∧ ((Sx.2.1 8) i).toInt ≤ 12) ∧ x1 = a0 ∧ ((Sx.1 4) = 0 → (S.1 4) = 0 ∧ (Sx.1 3) = (S.1 3) ∧ (S.1 3).toInt < n ∧ (Sx.2.1 8) (ix a0) = (S.2.1 8) (ix a0) ∧ ((S.2.1 8) (ix a0)).toInt < 12) ∧ (∀ k i, Sx.2.1 k i = S.2.1 k i) ∧ (∀ k i, Sx.2.2 k i = S.2.2 k i)) → wp_givenCell_90 (fun S1 => PI nx n so pl wo ws S1 ∧ (∀ i, i < 24 → 0 ≤ ((S1.2.1 8) i).toInt ∧ ((S1.2.1 8) i).toInt ≤ 12) ∧ ((S1.1 4) = 0 → (S.1 4) = 0 ∧ (S.1 3).toInt < n ∧ (S1.1 3).toInt = (S.1 3).toInt + 1 ∧ ((S.2.1 8) (ix a0)).toInt < 12) ∧ (∀ k i, ¬ (k = 8 ∧ i = ix a0) → S1.2.1 k i = S.2.1 k i) ∧ (∀ k i : Nat, ¬ (k = 9 ∧ 12 * a0.toInt ≤ (i : Int) ∧ (i : Int) < 12 * a0.toInt + 12) → S1.2.2 k i = S.2.2 k i)) x1 Sx := by
    intro x1 Sx hJ90
    unfold wp_givenCell_90
    refine ⟨fun c1 => ?_, fun c1 => ?_⟩
    · unfold wp_givenCell_132
      intro z14 ez14
      intro S15 eS15
      grind (ematch := 12) (splits := 16) [PI, LG, ix_int, ix_lt, q_zz, q_za, q_zga, q_fza, q_fx, q_fga, q_gza, q_gfa, q_gx, ti_link, in24, in288, in4002]
    · intro z6 ez6
      refine ⟨by grind (ematch := 12) (splits := 16) [PI, LG, ix_int, ix_lt, q_zz, q_za, q_zga, q_fza, q_fx, q_fga, q_gza, q_gfa, q_gx, ti_link, in24, in288, in4002], ?_⟩
      intro z7 ez7
      intro z8 ez8
      refine ⟨by grind (ematch := 12) (splits := 16) [PI, LG, ix_int, ix_lt, q_zz, q_za, q_zga, q_fza, q_fx, q_fga, q_gza, q_gfa, q_gx, ti_link, in24, in288, in4002], ?_⟩
      intro z9 ez9
      refine ⟨by grind (ematch := 12) (splits := 16) [PI, LG, ix_int, ix_lt, q_zz, q_za, q_zga, q_fza, q_fx, q_fga, q_gza, q_gfa, q_gx, ti_link, in24, in288, in4002], ?_⟩
      intro S10 eS10
      refine ⟨by grind (ematch := 12) (splits := 16) [PI, LG, ix_int, ix_lt, q_zz, q_za, q_zga, q_fza, q_fx, q_fga, q_gza, q_gfa, q_gx, ti_link, in24, in288, in4002], ?_⟩
      intro z11 ez11
      intro z12 ez12
      refine ⟨by grind (ematch := 12) (splits := 16) [PI, LG, ix_int, ix_lt, q_zz, q_za, q_zga, q_fza, q_fx, q_fga, q_gza, q_gfa, q_gx, ti_link, in24, in288, in4002], ?_⟩
      intro S13 eS13
      unfold wp_givenCell_132
      intro z14 ez14
      intro S15 eS15
      grind (ematch := 12) (splits := 16) [PI, LG, ix_int, ix_lt, q_zz, q_za, q_zga, q_fza, q_fx, q_fga, q_gza, q_gfa, q_gx, ti_link, in24, in288, in4002]
  have j67 : ∀ (x1 : Int32) (Sx : mS), (PI nx n so pl wo ws Sx ∧ (∀ i, i < 24 → 0 ≤ ((Sx.2.1 8) i).toInt ∧ ((Sx.2.1 8) i).toInt ≤ 12) ∧ x1 = a0 ∧ ((Sx.1 4) = 0 → (S.1 4) = 0 ∧ (Sx.1 3) = (S.1 3) ∧ (S.1 3).toInt < n ∧ (Sx.2.1 8) (ix a0) = (S.2.1 8) (ix a0)) ∧ (∀ k i, Sx.2.1 k i = S.2.1 k i) ∧ (∀ k i, Sx.2.2 k i = S.2.2 k i)) → wp_givenCell_67 (fun S1 => PI nx n so pl wo ws S1 ∧ (∀ i, i < 24 → 0 ≤ ((S1.2.1 8) i).toInt ∧ ((S1.2.1 8) i).toInt ≤ 12) ∧ ((S1.1 4) = 0 → (S.1 4) = 0 ∧ (S.1 3).toInt < n ∧ (S1.1 3).toInt = (S.1 3).toInt + 1 ∧ ((S.2.1 8) (ix a0)).toInt < 12) ∧ (∀ k i, ¬ (k = 8 ∧ i = ix a0) → S1.2.1 k i = S.2.1 k i) ∧ (∀ k i : Nat, ¬ (k = 9 ∧ 12 * a0.toInt ≤ (i : Int) ∧ (i : Int) < 12 * a0.toInt + 12) → S1.2.2 k i = S.2.2 k i)) x1 Sx := by
    intro x1 Sx hJ67
    unfold wp_givenCell_67
    refine ⟨fun c2 => ?_, fun c2 => ?_⟩
    · exact j90 _ _ (by grind (ematch := 12) (splits := 16) [PI, LG, ix_int, ix_lt, q_zz, q_za, q_zga, q_fza, q_fx, q_fga, q_gza, q_gfa, q_gx, ti_link, in24, in288, in4002])
    · refine ⟨by grind (ematch := 12) (splits := 16) [PI, LG, ix_int, ix_lt, q_zz, q_za, q_zga, q_fza, q_fx, q_fga, q_gza, q_gfa, q_gx, ti_link, in24, in288, in4002], ?_⟩
      intro z24 ez24
      refine ⟨fun c3 => ?_, fun c3 => ?_⟩
      · exact j90 _ _ (by grind (ematch := 12) (splits := 16) [PI, LG, ix_int, ix_lt, q_zz, q_za, q_zga, q_fza, q_fx, q_fga, q_gza, q_gfa, q_gx, ti_link, in24, in288, in4002])
      · refine fm_wrong _ _ _ _ (fun S26 hF4 p5 => ?_) (sg_wrong (nx := nx) (n := n) (so := so) (pl := pl) (wo := wo) (ws := ws) _ (by grind (ematch := 12) (splits := 16) [PI, LG, ix_int, ix_lt, q_zz, q_za, q_zga, q_fza, q_fx, q_fga, q_gza, q_gfa, q_gx, ti_link, in24, in288, in4002]) (by grind (ematch := 12) (splits := 16) [PI, LG, ix_int, ix_lt, q_zz, q_za, q_zga, q_fza, q_fx, q_fga, q_gza, q_gfa, q_gx, ti_link, in24, in288, in4002]))
        have fa_S26 := Fr_faa hF4
        have ga_S26 := Fr_gaa hF4
        have z3_S26 := hF4.1 3 (by decide)
        have z6_S26 := hF4.1 6 (by decide)
        have f1_S26 := Fr_fa hF4 1 (by decide)
        have f2_S26 := Fr_fa hF4 2 (by decide)
        have f8_S26 := Fr_fa hF4 8 (by decide)
        have g3_S26 := Fr_ga hF4 3 (by decide)
        have g4_S26 := Fr_ga hF4 4 (by decide)
        clear hF4
        exact j90 _ _ (by grind (ematch := 12) (splits := 16) [PI, LG, ix_int, ix_lt, q_zz, q_za, q_zga, q_fza, q_fx, q_fga, q_gza, q_gfa, q_gx, ti_link, in24, in288, in4002])
  have j22 : ∀ (x1 : Int32) (Sx : mS), (PI nx n so pl wo ws Sx ∧ (∀ i, i < 24 → 0 ≤ ((Sx.2.1 8) i).toInt ∧ ((Sx.2.1 8) i).toInt ≤ 12) ∧ x1 = a0 ∧ ((Sx.1 4) = 0 → (S.1 4) = 0 ∧ (Sx.1 3) = (S.1 3) ∧ (S.1 3).toInt < n ∧ (Sx.2.1 8) (ix a0) = (S.2.1 8) (ix a0)) ∧ (∀ k i, Sx.2.1 k i = S.2.1 k i) ∧ (∀ k i, Sx.2.2 k i = S.2.2 k i)) → wp_givenCell_22 (fun S1 => PI nx n so pl wo ws S1 ∧ (∀ i, i < 24 → 0 ≤ ((S1.2.1 8) i).toInt ∧ ((S1.2.1 8) i).toInt ≤ 12) ∧ ((S1.1 4) = 0 → (S.1 4) = 0 ∧ (S.1 3).toInt < n ∧ (S1.1 3).toInt = (S.1 3).toInt + 1 ∧ ((S.2.1 8) (ix a0)).toInt < 12) ∧ (∀ k i, ¬ (k = 8 ∧ i = ix a0) → S1.2.1 k i = S.2.1 k i) ∧ (∀ k i : Nat, ¬ (k = 9 ∧ 12 * a0.toInt ≤ (i : Int) ∧ (i : Int) < 12 * a0.toInt + 12) → S1.2.2 k i = S.2.2 k i)) x1 Sx := by
    intro x1 Sx hJ22
    unfold wp_givenCell_22
    refine ⟨fun c6 => ?_, fun c6 => ?_⟩
    · exact j67 _ _ (by grind (ematch := 12) (splits := 16) [PI, LG, ix_int, ix_lt, q_zz, q_za, q_zga, q_fza, q_fx, q_fga, q_gza, q_gfa, q_gx, ti_link, in24, in288, in4002])
    · intro z17 ez17
      refine ⟨by grind (ematch := 12) (splits := 16) [PI, LG, ix_int, ix_lt, q_zz, q_za, q_zga, q_fza, q_fx, q_fga, q_gza, q_gfa, q_gx, ti_link, in24, in288, in4002], ?_⟩
      intro z18 ez18
      refine ⟨by grind (ematch := 12) (splits := 16) [PI, LG, ix_int, ix_lt, q_zz, q_za, q_zga, q_fza, q_fx, q_fga, q_gza, q_gfa, q_gx, ti_link, in24, in288, in4002], ?_⟩
      intro z19 ez19
      refine fm_find_c _ _ _ _ _ _ (fun S20 r20 hF7 p8 => ?_) (sg_find_c _ _ _ (by grind (ematch := 12) (splits := 16) [PI, LG, ix_int, ix_lt, q_zz, q_za, q_zga, q_fza, q_fx, q_fga, q_gza, q_gfa, q_gx, ti_link, in24, in288, in4002]))
      have fa_S20 := Fr_faa hF7
      have ga_S20 := Fr_gaa hF7
      have z3_S20 := hF7.1 3 (by decide)
      have z4_S20 := hF7.1 4 (by decide)
      have z6_S20 := hF7.1 6 (by decide)
      have f1_S20 := Fr_fa hF7 1 (by decide)
      have f2_S20 := Fr_fa hF7 2 (by decide)
      have f8_S20 := Fr_fa hF7 8 (by decide)
      have g3_S20 := Fr_ga hF7 3 (by decide)
      have g4_S20 := Fr_ga hF7 4 (by decide)
      clear hF7
      refine ⟨fun c9 => ?_, fun c9 => ?_⟩
      · exact j67 _ _ (by grind (ematch := 12) (splits := 16) [PI, LG, ix_int, ix_lt, q_zz, q_za, q_zga, q_fza, q_fx, q_fga, q_gza, q_gfa, q_gx, ti_link, in24, in288, in4002])
      · refine fm_wrong _ _ _ _ (fun S22 hF10 p11 => ?_) (sg_wrong (nx := nx) (n := n) (so := so) (pl := pl) (wo := wo) (ws := ws) _ (by grind (ematch := 12) (splits := 16) [PI, LG, ix_int, ix_lt, q_zz, q_za, q_zga, q_fza, q_fx, q_fga, q_gza, q_gfa, q_gx, ti_link, in24, in288, in4002]) (by grind (ematch := 12) (splits := 16) [PI, LG, ix_int, ix_lt, q_zz, q_za, q_zga, q_fza, q_fx, q_fga, q_gza, q_gfa, q_gx, ti_link, in24, in288, in4002]))
        have fa_S22 := Fr_faa hF10
        have ga_S22 := Fr_gaa hF10
        have z3_S22 := hF10.1 3 (by decide)
        have z6_S22 := hF10.1 6 (by decide)
        have f1_S22 := Fr_fa hF10 1 (by decide)
        have f2_S22 := Fr_fa hF10 2 (by decide)
        have f8_S22 := Fr_fa hF10 8 (by decide)
        have g3_S22 := Fr_ga hF10 3 (by decide)
        have g4_S22 := Fr_ga hF10 4 (by decide)
        clear hF10
        exact j90 _ _ (by grind (ematch := 12) (splits := 16) [PI, LG, ix_int, ix_lt, q_zz, q_za, q_zga, q_fza, q_fx, q_fga, q_gza, q_gfa, q_gx, ti_link, in24, in288, in4002])
  refine ⟨fun c12 => ?_, fun c12 => ?_⟩
  · exact j22 _ _ (by grind (ematch := 12) (splits := 16) [PI, LG, ix_int, ix_lt, q_zz, q_za, q_zga, q_fza, q_fx, q_fga, q_gza, q_gfa, q_gx, ti_link, in24, in288, in4002])
  · refine fm_isName _ _ _ (fun S2 r2 hF13 p14 => ?_) (sg_isName (nx := nx) (n := n) (so := so) (pl := pl) (wo := wo) (ws := ws) (by grind (ematch := 12) (splits := 16) [PI, LG, ix_int, ix_lt, q_zz, q_za, q_zga, q_fza, q_fx, q_fga, q_gza, q_gfa, q_gx, ti_link, in24, in288, in4002]))
    have fa_S2 := Fr_faa hF13
    have ga_S2 := Fr_gaa hF13
    have z3_S2 := hF13.1 3 (by decide)
    have z4_S2 := hF13.1 4 (by decide)
    have z6_S2 := hF13.1 6 (by decide)
    have f1_S2 := Fr_fa hF13 1 (by decide)
    have f2_S2 := Fr_fa hF13 2 (by decide)
    have f8_S2 := Fr_fa hF13 8 (by decide)
    have g3_S2 := Fr_ga hF13 3 (by decide)
    have g4_S2 := Fr_ga hF13 4 (by decide)
    clear hF13
    refine ⟨fun c15 => ?_, fun c15 => ?_⟩
    · exact j22 _ _ (by grind (ematch := 12) (splits := 16) [PI, LG, ix_int, ix_lt, q_zz, q_za, q_zga, q_fza, q_fx, q_fga, q_gza, q_gfa, q_gx, ti_link, in24, in288, in4002])
    · refine fm_wrong _ _ _ _ (fun S4 hF16 p17 => ?_) (sg_wrong (nx := nx) (n := n) (so := so) (pl := pl) (wo := wo) (ws := ws) _ (by grind (ematch := 12) (splits := 16) [PI, LG, ix_int, ix_lt, q_zz, q_za, q_zga, q_fza, q_fx, q_fga, q_gza, q_gfa, q_gx, ti_link, in24, in288, in4002]) (by grind (ematch := 12) (splits := 16) [PI, LG, ix_int, ix_lt, q_zz, q_za, q_zga, q_fza, q_fx, q_fga, q_gza, q_gfa, q_gx, ti_link, in24, in288, in4002]))
      have fa_S4 := Fr_faa hF16
      have ga_S4 := Fr_gaa hF16
      have z3_S4 := hF16.1 3 (by decide)
      have z6_S4 := hF16.1 6 (by decide)
      have f1_S4 := Fr_fa hF16 1 (by decide)
      have f2_S4 := Fr_fa hF16 2 (by decide)
      have f8_S4 := Fr_fa hF16 8 (by decide)
      have g3_S4 := Fr_ga hF16 3 (by decide)
      have g4_S4 := Fr_ga hF16 4 (by decide)
      clear hF16
      exact j90 _ _ (by grind (ematch := 12) (splits := 16) [PI, LG, ix_int, ix_lt, q_zz, q_za, q_zga, q_fza, q_fx, q_fga, q_gza, q_gfa, q_gx, ti_link, in24, in288, in4002])
set_option maxHeartbeats 4000000 in
theorem sg_takeCell {nx n : Nat} {so pl : Nat → Int32} {wo ws : Nat → Int64} {S : mS} (h : PI nx n so pl wo ws S) (hc : (∀ i, i < 24 → 0 ≤ ((S.2.1 8) i).toInt ∧ ((S.2.1 8) i).toInt ≤ 12)) (ha : 0 ≤ (S.1 12).toInt ∧ (S.1 12).toInt < 24) : wp_takeCell S (fun S1 r => PI nx n so pl wo ws S1 ∧ (∀ i, i < 24 → 0 ≤ ((S1.2.1 8) i).toInt ∧ ((S1.2.1 8) i).toInt ≤ 12) ∧ ((S1.1 4) = 0 → (S.1 4) = 0 ∧ (S.1 3).toInt < n ∧ (S1.1 3).toInt = (S.1 3).toInt + 1 ∧ 0 ≤ r.toInt ∧ r.toInt < 12) ∧ (∀ k i, ¬ (k = 8 ∧ i = ix (S.1 12)) → S1.2.1 k i = S.2.1 k i) ∧ (∀ k i : Nat, ¬ (k = 9 ∧ 12 * (S.1 12).toInt ≤ (i : Int) ∧ (i : Int) < 12 * (S.1 12).toInt + 12) → S1.2.2 k i = S.2.2 k i)) := by
  unfold wp_takeCell
  have j63 : ∀ (y0 : Int32) (Sx : mS), (PI nx n so pl wo ws Sx ∧ (∀ i, i < 24 → 0 ≤ ((Sx.2.1 8) i).toInt ∧ ((Sx.2.1 8) i).toInt ≤ 12) ∧ (Sx.1 12) = (S.1 12) ∧ ((Sx.1 4) = 0 → (S.1 4) = 0 ∧ (Sx.1 3) = (S.1 3) ∧ (S.1 3).toInt < n ∧ y0.toInt < 12) ∧ (∀ k i, Sx.2.1 k i = S.2.1 k i) ∧ (∀ k i, Sx.2.2 k i = S.2.2 k i)) → wp_takeCell_63 (fun S1 r => PI nx n so pl wo ws S1 ∧ (∀ i, i < 24 → 0 ≤ ((S1.2.1 8) i).toInt ∧ ((S1.2.1 8) i).toInt ≤ 12) ∧ ((S1.1 4) = 0 → (S.1 4) = 0 ∧ (S.1 3).toInt < n ∧ (S1.1 3).toInt = (S.1 3).toInt + 1 ∧ 0 ≤ r.toInt ∧ r.toInt < 12) ∧ (∀ k i, ¬ (k = 8 ∧ i = ix (S.1 12)) → S1.2.1 k i = S.2.1 k i) ∧ (∀ k i : Nat, ¬ (k = 9 ∧ 12 * (S.1 12).toInt ≤ (i : Int) ∧ (i : Int) < 12 * (S.1 12).toInt + 12) → S1.2.2 k i = S.2.2 k i)) y0 Sx := by
    intro y0 Sx hJ63
    unfold wp_takeCell_63
    refine ⟨fun c1 => ?_, fun c1 => ?_⟩
    · unfold wp_takeCell_96
      intro z14 ez14
      intro S15 eS15
      grind (ematch := 12) (splits := 16) [PI, LG, ix_int, ix_lt, q_zz, q_za, q_zga, q_fza, q_fx, q_fga, q_gza, q_gfa, q_gx, ti_link, in24, in4002]
    · refine ⟨fun c2 => ?_, fun c2 => ?_⟩
      · unfold wp_takeCell_96
        intro z14 ez14
        intro S15 eS15
        grind (ematch := 12) (splits := 16) [PI, LG, ix_int, ix_lt, q_zz, q_za, q_zga, q_fza, q_fx, q_fga, q_gza, q_gfa, q_gx, ti_link, in24, in4002]
      · refine ⟨by grind (ematch := 12) (splits := 16) [PI, LG, ix_int, ix_lt, q_zz, q_za, q_zga, q_fza, q_fx, q_fga, q_gza, q_gfa, q_gx, ti_link, in24, in4002], ?_⟩
        intro z12 ez12
        refine fm_givenCell _ _ _ _ (fun S13 hF3 p4 => ?_) (sg_givenCell (nx := nx) (n := n) (so := so) (pl := pl) (wo := wo) (ws := ws) _ (by grind (ematch := 12) (splits := 16) [PI, LG, ix_int, ix_lt, q_zz, q_za, q_zga, q_fza, q_fx, q_fga, q_gza, q_gfa, q_gx, ti_link, in24, in4002]) (by grind (ematch := 12) (splits := 16) [PI, LG, ix_int, ix_lt, q_zz, q_za, q_zga, q_fza, q_fx, q_fga, q_gza, q_gfa, q_gx, ti_link, in24, in4002]) (by grind (ematch := 12) (splits := 16) [PI, LG, ix_int, ix_lt, q_zz, q_za, q_zga, q_fza, q_fx, q_fga, q_gza, q_gfa, q_gx, ti_link, in24, in4002]))
        have z6_S13 := hF3.1 6 (by decide)
        have z12_S13 := hF3.1 12 (by decide)
        have f1_S13 := Fr_fa hF3 1 (by decide)
        have f2_S13 := Fr_fa hF3 2 (by decide)
        have g3_S13 := Fr_ga hF3 3 (by decide)
        have g4_S13 := Fr_ga hF3 4 (by decide)
        clear hF3
        grind (ematch := 12) (splits := 16) [PI, LG, ix_int, ix_lt, q_zz, q_za, q_zga, q_fza, q_fx, q_fga, q_gza, q_gfa, q_gx, ti_link, in24, in4002]
  have j19 : ∀ (Sx : mS), (PI nx n so pl wo ws Sx ∧ (∀ i, i < 24 → 0 ≤ ((Sx.2.1 8) i).toInt ∧ ((Sx.2.1 8) i).toInt ≤ 12) ∧ (Sx.1 12) = (S.1 12) ∧ ((Sx.1 4) = 0 → (S.1 4) = 0 ∧ (Sx.1 3) = (S.1 3) ∧ (S.1 3).toInt < n) ∧ (∀ k i, Sx.2.1 k i = S.2.1 k i) ∧ (∀ k i, Sx.2.2 k i = S.2.2 k i)) → wp_takeCell_19 (fun S1 r => PI nx n so pl wo ws S1 ∧ (∀ i, i < 24 → 0 ≤ ((S1.2.1 8) i).toInt ∧ ((S1.2.1 8) i).toInt ≤ 12) ∧ ((S1.1 4) = 0 → (S.1 4) = 0 ∧ (S.1 3).toInt < n ∧ (S1.1 3).toInt = (S.1 3).toInt + 1 ∧ 0 ≤ r.toInt ∧ r.toInt < 12) ∧ (∀ k i, ¬ (k = 8 ∧ i = ix (S.1 12)) → S1.2.1 k i = S.2.1 k i) ∧ (∀ k i : Nat, ¬ (k = 9 ∧ 12 * (S.1 12).toInt ≤ (i : Int) ∧ (i : Int) < 12 * (S.1 12).toInt + 12) → S1.2.2 k i = S.2.2 k i)) Sx := by
    intro Sx hJ19
    unfold wp_takeCell_19
    refine ⟨fun c5 => ?_, fun c5 => ?_⟩
    · exact j63 _ _ (by grind (ematch := 12) (splits := 16) [PI, LG, ix_int, ix_lt, q_zz, q_za, q_zga, q_fza, q_fx, q_fga, q_gza, q_gfa, q_gx, ti_link, in24, in4002])
    · intro z6 ez6
      refine ⟨by grind (ematch := 12) (splits := 16) [PI, LG, ix_int, ix_lt, q_zz, q_za, q_zga, q_fza, q_fx, q_fga, q_gza, q_gfa, q_gx, ti_link, in24, in4002], ?_⟩
      intro z7 ez7
      refine ⟨by grind (ematch := 12) (splits := 16) [PI, LG, ix_int, ix_lt, q_zz, q_za, q_zga, q_fza, q_fx, q_fga, q_gza, q_gfa, q_gx, ti_link, in24, in4002], ?_⟩
      intro z8 ez8
      refine fm_find_c _ _ _ _ _ _ (fun S9 r9 hF6 p7 => ?_) (sg_find_c _ _ _ (by grind (ematch := 12) (splits := 16) [PI, LG, ix_int, ix_lt, q_zz, q_za, q_zga, q_fza, q_fx, q_fga, q_gza, q_gfa, q_gx, ti_link, in24, in4002]))
      have fa_S9 := Fr_faa hF6
      have ga_S9 := Fr_gaa hF6
      have z3_S9 := hF6.1 3 (by decide)
      have z4_S9 := hF6.1 4 (by decide)
      have z6_S9 := hF6.1 6 (by decide)
      have z12_S9 := hF6.1 12 (by decide)
      have f1_S9 := Fr_fa hF6 1 (by decide)
      have f2_S9 := Fr_fa hF6 2 (by decide)
      have f8_S9 := Fr_fa hF6 8 (by decide)
      have g3_S9 := Fr_ga hF6 3 (by decide)
      have g4_S9 := Fr_ga hF6 4 (by decide)
      clear hF6
      exact j63 _ _ (by grind (ematch := 12) (splits := 16) [PI, LG, ix_int, ix_lt, q_zz, q_za, q_zga, q_fza, q_fx, q_fga, q_gza, q_gfa, q_gx, ti_link, in24, in4002])
  refine ⟨fun c8 => ?_, fun c8 => ?_⟩
  · exact j19 _ (by grind (ematch := 12) (splits := 16) [PI, LG, ix_int, ix_lt, q_zz, q_za, q_zga, q_fza, q_fx, q_fga, q_gza, q_gfa, q_gx, ti_link, in24, in4002])
  · refine fm_isName _ _ _ (fun S2 r2 hF9 p10 => ?_) (sg_isName (nx := nx) (n := n) (so := so) (pl := pl) (wo := wo) (ws := ws) (by grind (ematch := 12) (splits := 16) [PI, LG, ix_int, ix_lt, q_zz, q_za, q_zga, q_fza, q_fx, q_fga, q_gza, q_gfa, q_gx, ti_link, in24, in4002]))
    have fa_S2 := Fr_faa hF9
    have ga_S2 := Fr_gaa hF9
    have z3_S2 := hF9.1 3 (by decide)
    have z4_S2 := hF9.1 4 (by decide)
    have z6_S2 := hF9.1 6 (by decide)
    have z12_S2 := hF9.1 12 (by decide)
    have f1_S2 := Fr_fa hF9 1 (by decide)
    have f2_S2 := Fr_fa hF9 2 (by decide)
    have f8_S2 := Fr_fa hF9 8 (by decide)
    have g3_S2 := Fr_ga hF9 3 (by decide)
    have g4_S2 := Fr_ga hF9 4 (by decide)
    clear hF9
    refine ⟨fun c11 => ?_, fun c11 => ?_⟩
    · exact j19 _ (by grind (ematch := 12) (splits := 16) [PI, LG, ix_int, ix_lt, q_zz, q_za, q_zga, q_fza, q_fx, q_fga, q_gza, q_gfa, q_gx, ti_link, in24, in4002])
    · refine fm_wrong _ _ _ _ (fun S4 hF12 p13 => ?_) (sg_wrong (nx := nx) (n := n) (so := so) (pl := pl) (wo := wo) (ws := ws) _ (by grind (ematch := 12) (splits := 16) [PI, LG, ix_int, ix_lt, q_zz, q_za, q_zga, q_fza, q_fx, q_fga, q_gza, q_gfa, q_gx, ti_link, in24, in4002]) (by grind (ematch := 12) (splits := 16) [PI, LG, ix_int, ix_lt, q_zz, q_za, q_zga, q_fza, q_fx, q_fga, q_gza, q_gfa, q_gx, ti_link, in24, in4002]))
      have fa_S4 := Fr_faa hF12
      have ga_S4 := Fr_gaa hF12
      have z3_S4 := hF12.1 3 (by decide)
      have z6_S4 := hF12.1 6 (by decide)
      have z12_S4 := hF12.1 12 (by decide)
      have f1_S4 := Fr_fa hF12 1 (by decide)
      have f2_S4 := Fr_fa hF12 2 (by decide)
      have f8_S4 := Fr_fa hF12 8 (by decide)
      have g3_S4 := Fr_ga hF12 3 (by decide)
      have g4_S4 := Fr_ga hF12 4 (by decide)
      clear hF12
      exact j19 _ (by grind (ematch := 12) (splits := 16) [PI, LG, ix_int, ix_lt, q_zz, q_za, q_zga, q_fza, q_fx, q_fga, q_gza, q_gfa, q_gx, ti_link, in24, in4002])
set_option maxHeartbeats 4000000 in
theorem sg_emit (a0 : Int32) (a1 : Int32) (a2 : Int32) {S : mS} (h : 0 ≤ (S.1 7).toInt ∧ (S.1 7).toInt < 24000) : wp_emit a0 a1 a2 S (fun S1 r => r = (S.1 7) ∧ (S1.1 7).toInt = (S.1 7).toInt + 1 ∧ (∀ k i, ¬ (12 ≤ k ∧ k ≤ 14 ∧ i = ix (S.1 7)) → S1.2.1 k i = S.2.1 k i)) := by
  unfold wp_emit
  refine ⟨by grind (ematch := 12) (splits := 16) [q_zz, q_za, q_zga, q_fza, q_fx, q_fga, q_gza, q_gfa, q_gx, ti_link, in24000], ?_⟩
  intro S1 eS1
  refine ⟨by grind (ematch := 12) (splits := 16) [q_zz, q_za, q_zga, q_fza, q_fx, q_fga, q_gza, q_gfa, q_gx, ti_link, in24000], ?_⟩
  intro S2 eS2
  refine ⟨by grind (ematch := 12) (splits := 16) [q_zz, q_za, q_zga, q_fza, q_fx, q_fga, q_gza, q_gfa, q_gx, ti_link, in24000], ?_⟩
  intro S3 eS3
  intro z4 ez4
  intro S5 eS5
  intro z6 ez6
  grind (ematch := 12) (splits := 16) [q_zz, q_za, q_zga, q_fza, q_fx, q_fga, q_gza, q_gfa, q_gx, ti_link, in24000]
set_option maxHeartbeats 4000000 in
theorem sg_act (a0 : Int32) (a1 : Int32) {S : mS} (h : 0 ≤ (S.1 8).toInt ∧ (S.1 8).toInt < 24000) : wp_act a0 a1 S (fun S1 r => r = (S.1 8) ∧ (S1.1 8).toInt = (S.1 8).toInt + 1 ∧ (∀ k i, ¬ (15 ≤ k ∧ k ≤ 21 ∧ i = ix (S.1 8)) → S1.2.1 k i = S.2.1 k i)) := by
  unfold wp_act
  refine ⟨by grind (ematch := 12) (splits := 16) [q_zz, q_za, q_zga, q_fza, q_fx, q_fga, q_gza, q_gfa, q_gx, ti_link, in24000], ?_⟩
  intro S1 eS1
  refine ⟨by grind (ematch := 12) (splits := 16) [q_zz, q_za, q_zga, q_fza, q_fx, q_fga, q_gza, q_gfa, q_gx, ti_link, in24000], ?_⟩
  intro S2 eS2
  refine ⟨by grind (ematch := 12) (splits := 16) [q_zz, q_za, q_zga, q_fza, q_fx, q_fga, q_gza, q_gfa, q_gx, ti_link, in24000], ?_⟩
  intro S3 eS3
  refine ⟨by grind (ematch := 12) (splits := 16) [q_zz, q_za, q_zga, q_fza, q_fx, q_fga, q_gza, q_gfa, q_gx, ti_link, in24000], ?_⟩
  intro S4 eS4
  refine ⟨by grind (ematch := 12) (splits := 16) [q_zz, q_za, q_zga, q_fza, q_fx, q_fga, q_gza, q_gfa, q_gx, ti_link, in24000], ?_⟩
  intro S5 eS5
  refine ⟨by grind (ematch := 12) (splits := 16) [q_zz, q_za, q_zga, q_fza, q_fx, q_fga, q_gza, q_gfa, q_gx, ti_link, in24000], ?_⟩
  intro S6 eS6
  refine ⟨by grind (ematch := 12) (splits := 16) [q_zz, q_za, q_zga, q_fza, q_fx, q_fga, q_gza, q_gfa, q_gx, ti_link, in24000], ?_⟩
  intro S7 eS7
  intro z8 ez8
  intro S9 eS9
  intro z10 ez10
  grind (ematch := 12) (splits := 16) [q_zz, q_za, q_zga, q_fza, q_fx, q_fga, q_gza, q_gfa, q_gx, ti_link, in24000]
set_option maxHeartbeats 4000000 in
theorem sg_lead (a0 : Int32) {S : mS} (h : (S.1 19).toInt < 24000) : wp_lead a0 S (fun S1 => (∀ k i, ¬ (17 ≤ k ∧ k ≤ 18 ∧ 0 ≤ (S.1 19).toInt ∧ i = ix (S.1 19)) → S1.2.1 k i = S.2.1 k i)) := by
  unfold wp_lead
  refine ⟨fun c1 => ?_, fun c1 => ?_⟩
  · refine ⟨by grind (ematch := 12) (splits := 16) [q_zz, q_za, q_zga, q_fza, q_fx, q_fga, q_gza, q_gfa, q_gx, ti_link, in24000], ?_⟩
    intro z2 ez2
    refine ⟨fun c2 => ?_, fun c2 => ?_⟩
    · refine ⟨by grind (ematch := 12) (splits := 16) [q_zz, q_za, q_zga, q_fza, q_fx, q_fga, q_gza, q_gfa, q_gx, ti_link, in24000], ?_⟩
      intro S4 eS4
      grind (ematch := 12) (splits := 16) [q_zz, q_za, q_zga, q_fza, q_fx, q_fga, q_gza, q_gfa, q_gx, ti_link, in24000]
    · refine ⟨by grind (ematch := 12) (splits := 16) [q_zz, q_za, q_zga, q_fza, q_fx, q_fga, q_gza, q_gfa, q_gx, ti_link, in24000], ?_⟩
      intro S5 eS5
      grind (ematch := 12) (splits := 16) [q_zz, q_za, q_zga, q_fza, q_fx, q_fga, q_gza, q_gfa, q_gx, ti_link, in24000]
  · grind (ematch := 12) (splits := 16) [q_zz, q_za, q_zga, q_fza, q_fx, q_fga, q_gza, q_gfa, q_gx, ti_link, in24000]
set_option maxHeartbeats 4000000 in
theorem sg_then (a0 : Int32) (a1 : Int32) {S : mS} (h : 0 ≤ (S.1 8).toInt ∧ (S.1 8).toInt < 24000 ∧ (S.1 19).toInt < 24000) : wp_then a0 a1 S (fun S1 r => r = (S.1 8) ∧ (S1.1 8).toInt = (S.1 8).toInt + 1 ∧ (S1.1 19) = (S.1 8) ∧ (∀ k i, ¬ (15 ≤ k ∧ k ≤ 21 ∧ (i = ix (S.1 8) ∨ (0 ≤ (S.1 19).toInt ∧ i = ix (S.1 19)))) → S1.2.1 k i = S.2.1 k i)) := by
  unfold wp_then
  refine fm_act _ _ _ _ _ (fun S1 r1 hF1 p2 => ?_) (sg_act _ _ (by grind (ematch := 12) (splits := 16) [q_zz, q_za, q_zga, q_fza, q_fx, q_fga, q_gza, q_gfa, q_gx, ti_link]))
  have z19_S1 := hF1.1 19 (by decide)
  clear hF1
  refine fm_lead _ _ _ _ (fun S2 hF3 p4 => ?_) (sg_lead _ (by grind (ematch := 12) (splits := 16) [q_zz, q_za, q_zga, q_fza, q_fx, q_fga, q_gza, q_gfa, q_gx, ti_link]))
  have z8_S2 := hF3.1 8 (by decide)
  have z19_S2 := hF3.1 19 (by decide)
  clear hF3
  intro S3 eS3
  grind (ematch := 12) (splits := 16) [q_zz, q_za, q_zga, q_fza, q_fx, q_fga, q_gza, q_gfa, q_gx, ti_link]
set_option maxHeartbeats 4000000 in
theorem sg_join (a0 : Int32) {S : mS} (h : 0 ≤ (S.1 8).toInt ∧ (S.1 8).toInt < 24000 ∧ (S.1 19).toInt < 24000 ∧ a0.toInt < 24000) : wp_join a0 S (fun S1 => (S1.1 8).toInt = (S.1 8).toInt + 1 ∧ (S1.1 19) = (S.1 8) ∧ (∀ k i, ¬ (15 ≤ k ∧ k ≤ 21 ∧ (i = ix (S.1 8) ∨ (0 ≤ (S.1 19).toInt ∧ i = ix (S.1 19)) ∨ (0 ≤ a0.toInt ∧ i = ix a0))) → S1.2.1 k i = S.2.1 k i)) := by
  unfold wp_join
  refine fm_act _ _ _ _ _ (fun S1 r1 hF1 p2 => ?_) (sg_act _ _ (by grind (ematch := 12) (splits := 16) [q_zz, q_za, q_zga, q_fza, q_fx, q_fga, q_gza, q_gfa, q_gx, ti_link]))
  have z19_S1 := hF1.1 19 (by decide)
  clear hF1
  refine fm_lead _ _ _ _ (fun S2 hF3 p4 => ?_) (sg_lead _ (by grind (ematch := 12) (splits := 16) [q_zz, q_za, q_zga, q_fza, q_fx, q_fga, q_gza, q_gfa, q_gx, ti_link]))
  have z8_S2 := hF3.1 8 (by decide)
  have z19_S2 := hF3.1 19 (by decide)
  clear hF3
  intro S3 eS3
  refine fm_lead _ _ _ _ (fun S4 hF5 p6 => ?_) (sg_lead _ (by grind (ematch := 12) (splits := 16) [q_zz, q_za, q_zga, q_fza, q_fx, q_fga, q_gza, q_gfa, q_gx, ti_link]))
  have z8_S4 := hF5.1 8 (by decide)
  have z19_S4 := hF5.1 19 (by decide)
  clear hF5
  intro S5 eS5
  grind (ematch := 12) (splits := 16) [q_zz, q_za, q_zga, q_fza, q_fx, q_fga, q_gza, q_gfa, q_gx, ti_link]
set_option maxHeartbeats 4000000 in
theorem sg_within {nx n : Nat} {so pl : Nat → Int32} {wo ws : Nat → Int64} (a0 : Int32) {S : mS} (h : PI nx n so pl wo ws S) (hd : (S.1 4) = 0 → 0 ≤ (S.1 18).toInt ∧ (S.1 18).toInt ≤ 10) : wp_within a0 S (fun S1 => PI nx n so pl wo ws S1 ∧ (S1.1 3) = (S.1 3) ∧ ((S1.1 4) = 0 → (S.1 4) = 0 ∧ ¬ a0 = 0 ∧ (S.1 18).toInt ≠ 10 ∧ (S1.1 18).toInt = (S.1 18).toInt + 1)) := by
  unfold wp_within
  refine ⟨fun c1 => ?_, fun c1 => ?_⟩
  · refine ⟨fun c2 => ?_, fun c2 => ?_⟩
    · unfold wp_within_26
      intro z5 ez5
      intro S6 eS6
      grind (ematch := 12) (splits := 16) [PI, LG, ix_int, q_zz, q_za, q_zga, q_fza, q_fx, q_fga, q_gza, q_gfa, q_gx, ti_link]
    · refine fm_wrong _ _ _ _ (fun S3 hF3 p4 => ?_) (sg_wrong (nx := nx) (n := n) (so := so) (pl := pl) (wo := wo) (ws := ws) _ (by grind (ematch := 12) (splits := 16) [PI, LG, ix_int, q_zz, q_za, q_zga, q_fza, q_fx, q_fga, q_gza, q_gfa, q_gx, ti_link]) (by grind (ematch := 12) (splits := 16) [PI, LG, ix_int, q_zz, q_za, q_zga, q_fza, q_fx, q_fga, q_gza, q_gfa, q_gx, ti_link]))
      have z3_S3 := hF3.1 3 (by decide)
      have z6_S3 := hF3.1 6 (by decide)
      have z18_S3 := hF3.1 18 (by decide)
      have f1_S3 := Fr_fa hF3 1 (by decide)
      have f2_S3 := Fr_fa hF3 2 (by decide)
      have g3_S3 := Fr_ga hF3 3 (by decide)
      have g4_S3 := Fr_ga hF3 4 (by decide)
      clear hF3
      unfold wp_within_26
      intro z5 ez5
      intro S6 eS6
      grind (ematch := 12) (splits := 16) [PI, LG, ix_int, q_zz, q_za, q_zga, q_fza, q_fx, q_fga, q_gza, q_gfa, q_gx, ti_link]
  · refine fm_wrong _ _ _ _ (fun S4 hF5 p6 => ?_) (sg_wrong (nx := nx) (n := n) (so := so) (pl := pl) (wo := wo) (ws := ws) _ (by grind (ematch := 12) (splits := 16) [PI, LG, ix_int, q_zz, q_za, q_zga, q_fza, q_fx, q_fga, q_gza, q_gfa, q_gx, ti_link]) (by grind (ematch := 12) (splits := 16) [PI, LG, ix_int, q_zz, q_za, q_zga, q_fza, q_fx, q_fga, q_gza, q_gfa, q_gx, ti_link]))
    have z3_S4 := hF5.1 3 (by decide)
    have z6_S4 := hF5.1 6 (by decide)
    have z18_S4 := hF5.1 18 (by decide)
    have f1_S4 := Fr_fa hF5 1 (by decide)
    have f2_S4 := Fr_fa hF5 2 (by decide)
    have g3_S4 := Fr_ga hF5 3 (by decide)
    have g4_S4 := Fr_ga hF5 4 (by decide)
    clear hF5
    unfold wp_within_26
    intro z5 ez5
    intro S6 eS6
    grind (ematch := 12) (splits := 16) [PI, LG, ix_int, q_zz, q_za, q_zga, q_fza, q_fx, q_fga, q_gza, q_gfa, q_gx, ti_link]
