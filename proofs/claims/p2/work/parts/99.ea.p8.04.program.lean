
set_option maxHeartbeats 4000000 in
theorem sg_program {m : Nat} {S : mS} (h0 : (S.1 1).toInt = m ∧ m ≤ 4000) (hn : (S.1 5).toInt = 0 ∨ (S.1 5).toInt = 1) (hc : CE ((S.2.1 8))) (hm : (S.1 20) = 0 ∨ (S.1 20) = 1) (hw : WD (S.2.2 4)) : wp_program S (fun S1 r => (S1.1 1) = 0 ∧ (∀ nx : Nat, (nx : Int) = 1 - (S.1 5).toInt → (r = 0 → (S1.1 5).toInt = nx) ∧ 0 ≤ ((S1.2.1 5) nx).toInt ∧ ((S1.2.1 5) nx).toInt ≤ 12) ∧ (¬ r = 0 → (S1.1 5) = (S.1 5)) ∧ CE ((S1.2.1 8)) ∧ ((S1.1 20) = 0 ∨ (S1.1 20) = 1)) := by
  unfold wp_program
  intro S1 eS1
  refine fm_cutAll _ _ _ (fun S2 hF1 pS2 => ?_) (sg_cutAll (m := m) (by (try clear hk82); (try clear hk126); grind [QI, WB, PI, LG, TK, PL, BU, CE, PTc, PW, ix_int, ix_eq, q_zz, q_za, q_zga, q_fza, q_fx, q_fga, q_gza, q_gfa, q_gx, q_zf1, q_zg1, q_ff, q_fg1, q_gf1, q_gg, ti_link, in1000, in2, in24, in24000, in4002]) (by (try clear hk82); (try clear hk126); grind [QI, WB, PI, LG, TK, PL, BU, CE, PTc, PW, ix_int, ix_eq, q_zz, q_za, q_zga, q_fza, q_fx, q_fga, q_gza, q_gfa, q_gx, q_zf1, q_zg1, q_ff, q_fg1, q_gf1, q_gg, ti_link, in1000, in2, in24, in24000, in4002]))
  have z5_S2 := hF1.1 5 (by decide)
  have z6_S2 := hF1.1 6 (by decide)
  have z7_S2 := hF1.1 7 (by decide)
  have z8_S2 := hF1.1 8 (by decide)
  have z9_S2 := hF1.1 9 (by decide)
  have z10_S2 := hF1.1 10 (by decide)
  have z11_S2 := hF1.1 11 (by decide)
  have z12_S2 := hF1.1 12 (by decide)
  have z20_S2 := hF1.1 20 (by decide)
  have f0_S2 := hF1.2.1 0 (by decide)
  have f0a_S2 := Fr_fa hF1 0 (by decide)
  have f5_S2 := hF1.2.1 5 (by decide)
  have f5a_S2 := Fr_fa hF1 5 (by decide)
  have f7_S2 := hF1.2.1 7 (by decide)
  have f7a_S2 := Fr_fa hF1 7 (by decide)
  have f8_S2 := hF1.2.1 8 (by decide)
  have f8a_S2 := Fr_fa hF1 8 (by decide)
  have f46_S2 := hF1.2.1 46 (by decide)
  have f46a_S2 := Fr_fa hF1 46 (by decide)
  have f47_S2 := hF1.2.1 47 (by decide)
  have f47a_S2 := Fr_fa hF1 47 (by decide)
  have f48_S2 := hF1.2.1 48 (by decide)
  have f48a_S2 := Fr_fa hF1 48 (by decide)
  have g4_S2 := hF1.2.2 4 (by decide)
  have g4a_S2 := Fr_ga hF1 4 (by decide)
  clear hF1
  have hw2 : WD (S2.2.2 4) := by have q4 : S2.2.2 4 = S.2.2 4 := by funext i; rw [g4_S2, eS1]; rfl
    rw [q4]; exact hw
  obtain ⟨n, hLX, hat, hfa, hta⟩ := pS2
  have hLG := LX_LG hLX hw2
  obtain ⟨nx, hnx⟩ : ∃ nx : Nat, (nx : Int) = 1 - (S.1 5).toInt := ⟨(1 - (S.1 5).toInt).toNat, by omega⟩
  obtain ⟨so, hso⟩ : ∃ so : Nat → Int32, so = S2.2.1 1 := ⟨_, rfl⟩
  obtain ⟨pl, hpl⟩ : ∃ pl : Nat → Int32, pl = S2.2.1 2 := ⟨_, rfl⟩
  obtain ⟨wo, hwo⟩ : ∃ wo : Nat → Int64, wo = S2.2.2 3 := ⟨_, rfl⟩
  obtain ⟨ws, hws⟩ : ∃ ws : Nat → Int64, ws = S2.2.2 4 := ⟨_, rfl⟩
  rw [← hso, ← hpl, ← hwo, ← hws] at hLG
  have aso : ∀ i, S2.2.1 1 i = so i := fun i => by rw [hso]
  have apl : ∀ i, S2.2.1 2 i = pl i := fun i => by rw [hpl]
  have awo : ∀ i, S2.2.2 3 i = wo i := fun i => by rw [hwo]
  have aws : ∀ i, S2.2.2 4 i = ws i := fun i => by rw [hws]
  have hL1 := hLG.1
  have hL2 := hLG.2
  clear hLG hLX hso hpl hwo hws hw2
  intro z3 ez3
  intro S4 eS4
  refine ⟨by (try clear hk82); (try clear hk126); grind [QI, WB, PI, LG, TK, PL, BU, CE, PTc, PW, ix_int, ix_eq, q_zz, q_za, q_zga, q_fza, q_fx, q_fga, q_gza, q_gfa, q_gx, q_zf1, q_zg1, q_ff, q_fg1, q_gf1, q_gg, ti_link, in1000, in2, in24, in24000, in4002], ?_⟩
  intro S5 eS5
  intro z6 ez6
  intro S7 eS7
  intro z8 ez8
  intro S9 eS9
  intro z10 ez10
  intro S11 eS11
  intro z12 ez12
  intro S13 eS13
  intro S14 eS14
  refine it_rule (fun u : mS => QI nx n so pl wo ws S 0 0 u ∧ (u.1 1) = 0 ∧ (u.1 5) = (S.1 5)) (fun u => (if (u.1 4) = 0 then (n : Int) - (u.1 3).toInt + 1 else 0).toNat) ?_ (by (try clear hk82); (try clear hk126); grind [QI, WB, PI, LG, TK, PL, BU, CE, PTc, PW, ix_int, ix_eq, q_zz, q_za, q_zga, q_fza, q_fx, q_fga, q_gza, q_gfa, q_gx, q_zf1, q_zg1, q_ff, q_fg1, q_gf1, q_gg, ti_link, in1000, in2, in24, in24000, in4002])
  rintro Sl82 k82 hI82 hk82
  replace hI82 : QI nx n so pl wo ws S 0 0 Sl82 ∧ (Sl82.1 1) = 0 ∧ (Sl82.1 5) = (S.1 5) := hI82
  replace hk82 : ∀ v : mS, QI nx n so pl wo ws S 0 0 v ∧ (v.1 1) = 0 ∧ (v.1 5) = (S.1 5) → (if (v.1 4) = 0 then (n : Int) - (v.1 3).toInt + 1 else 0).toNat < (if (Sl82.1 4) = 0 then (n : Int) - (Sl82.1 3).toInt + 1 else 0).toNat → k82 v := hk82
  show wp_program_82 _ k82  Sl82
  unfold wp_program_82
  refine ⟨fun c2 => ?_, fun c2 => ?_⟩
  · unfold wp_program_124
    refine it_rule (fun u : Int32 × mS => PI nx n so pl wo ws u.2 ∧ PL nx n (u.2.1 11) ((u.2.2.1 46)) ((u.2.2.1 48)) ∧ 0 ≤ (u.2.1 11).toInt ∧ (u.2.1 11).toInt ≤ 1000 ∧ CE ((u.2.2.1 8)) ∧ ((u.2.1 20) = 0 ∨ (u.2.1 20) = 1) ∧ 0 ≤ ((u.2.2.1 5) nx).toInt ∧ ((u.2.2.1 5) nx).toInt ≤ 12 ∧ (u.2.1 1) = 0 ∧ (u.2.1 5) = (S.1 5) ∧ 0 ≤ u.1.toInt ∧ u.1.toInt ≤ (u.2.1 11).toInt) (fun u => ((u.2.1 11).toInt - u.1.toInt).toNat) ?_ (by (try clear hk82); (try clear hk126); grind [QI, WB, PI, LG, TK, PL, BU, CE, PTc, PW, ix_int, ix_eq, q_zz, q_za, q_zga, q_fza, q_fx, q_fga, q_gza, q_gfa, q_gx, q_zf1, q_zg1, q_ff, q_fg1, q_gf1, q_gg, ti_link, in1000, in2, in24, in24000, in4002])
    rintro ⟨x1, Sl126⟩ k126 hI126 hk126
    replace hI126 : PI nx n so pl wo ws Sl126 ∧ PL nx n (Sl126.1 11) ((Sl126.2.1 46)) ((Sl126.2.1 48)) ∧ 0 ≤ (Sl126.1 11).toInt ∧ (Sl126.1 11).toInt ≤ 1000 ∧ CE ((Sl126.2.1 8)) ∧ ((Sl126.1 20) = 0 ∨ (Sl126.1 20) = 1) ∧ 0 ≤ ((Sl126.2.1 5) nx).toInt ∧ ((Sl126.2.1 5) nx).toInt ≤ 12 ∧ (Sl126.1 1) = 0 ∧ (Sl126.1 5) = (S.1 5) ∧ 0 ≤ x1.toInt ∧ x1.toInt ≤ (Sl126.1 11).toInt := hI126
    replace hk126 : ∀ v : Int32 × mS, PI nx n so pl wo ws v.2 ∧ PL nx n (v.2.1 11) ((v.2.2.1 46)) ((v.2.2.1 48)) ∧ 0 ≤ (v.2.1 11).toInt ∧ (v.2.1 11).toInt ≤ 1000 ∧ CE ((v.2.2.1 8)) ∧ ((v.2.1 20) = 0 ∨ (v.2.1 20) = 1) ∧ 0 ≤ ((v.2.2.1 5) nx).toInt ∧ ((v.2.2.1 5) nx).toInt ≤ 12 ∧ (v.2.1 1) = 0 ∧ (v.2.1 5) = (S.1 5) ∧ 0 ≤ v.1.toInt ∧ v.1.toInt ≤ (v.2.1 11).toInt → ((v.2.1 11).toInt - v.1.toInt).toNat < ((Sl126.1 11).toInt - x1.toInt).toNat → k126 v := hk126
    show wp_program_126 _ k126 x1 Sl126
    unfold wp_program_126
    refine ⟨fun c3 => ?_, fun c3 => ?_⟩
    · unfold wp_program_249
      refine ⟨fun c4 => ?_, fun c4 => ?_⟩
      · (try clear hk82); (try clear hk126); grind [QI, WB, PI, LG, TK, PL, BU, CE, PTc, PW, ix_int, ix_eq, q_zz, q_za, q_zga, q_fza, q_fx, q_fga, q_gza, q_gfa, q_gx, q_zf1, q_zg1, q_ff, q_fg1, q_gf1, q_gg, ti_link, in1000, in2, in24, in24000, in4002]
      · intro S43 eS43
        refine fm_forget _ _ _ (fun S44 hF5 pS44 => ?_) (sg_forget)
        have z1_S44 := hF5.1 1 (by decide)
        have z3_S44 := hF5.1 3 (by decide)
        have z4_S44 := hF5.1 4 (by decide)
        have z5_S44 := hF5.1 5 (by decide)
        have z6_S44 := hF5.1 6 (by decide)
        have z7_S44 := hF5.1 7 (by decide)
        have z8_S44 := hF5.1 8 (by decide)
        have z9_S44 := hF5.1 9 (by decide)
        have z10_S44 := hF5.1 10 (by decide)
        have z11_S44 := hF5.1 11 (by decide)
        have z12_S44 := hF5.1 12 (by decide)
        have z20_S44 := hF5.1 20 (by decide)
        have f0_S44 := hF5.2.1 0 (by decide)
        have f0a_S44 := Fr_fa hF5 0 (by decide)
        have f1_S44 := hF5.2.1 1 (by decide)
        have f1a_S44 := Fr_fa hF5 1 (by decide)
        have f2_S44 := hF5.2.1 2 (by decide)
        have f2a_S44 := Fr_fa hF5 2 (by decide)
        have f5_S44 := hF5.2.1 5 (by decide)
        have f5a_S44 := Fr_fa hF5 5 (by decide)
        have f7_S44 := hF5.2.1 7 (by decide)
        have f7a_S44 := Fr_fa hF5 7 (by decide)
        have f8_S44 := hF5.2.1 8 (by decide)
        have f8a_S44 := Fr_fa hF5 8 (by decide)
        have f46_S44 := hF5.2.1 46 (by decide)
        have f46a_S44 := Fr_fa hF5 46 (by decide)
        have f47_S44 := hF5.2.1 47 (by decide)
        have f47a_S44 := Fr_fa hF5 47 (by decide)
        have f48_S44 := hF5.2.1 48 (by decide)
        have f48a_S44 := Fr_fa hF5 48 (by decide)
        have g3_S44 := hF5.2.2 3 (by decide)
        have g3a_S44 := Fr_ga hF5 3 (by decide)
        have g4_S44 := hF5.2.2 4 (by decide)
        have g4a_S44 := Fr_ga hF5 4 (by decide)
        clear hF5
        (try clear hk82); (try clear hk126); grind [QI, WB, PI, LG, TK, PL, BU, CE, PTc, PW, ix_int, ix_eq, q_zz, q_za, q_zga, q_fza, q_fx, q_fga, q_gza, q_gfa, q_gx, q_zf1, q_zg1, q_ff, q_fg1, q_gf1, q_gg, ti_link, in1000, in2, in24, in24000, in4002]
    · refine ⟨fun c6 => ?_, fun c6 => ?_⟩
      · unfold wp_program_249
        refine ⟨fun c7 => ?_, fun c7 => ?_⟩
        · (try clear hk82); (try clear hk126); grind [QI, WB, PI, LG, TK, PL, BU, CE, PTc, PW, ix_int, ix_eq, q_zz, q_za, q_zga, q_fza, q_fx, q_fga, q_gza, q_gfa, q_gx, q_zf1, q_zg1, q_ff, q_fg1, q_gf1, q_gg, ti_link, in1000, in2, in24, in24000, in4002]
        · intro S43 eS43
          refine fm_forget _ _ _ (fun S44 hF8 pS44 => ?_) (sg_forget)
          have z1_S44 := hF8.1 1 (by decide)
          have z3_S44 := hF8.1 3 (by decide)
          have z4_S44 := hF8.1 4 (by decide)
          have z5_S44 := hF8.1 5 (by decide)
          have z6_S44 := hF8.1 6 (by decide)
          have z7_S44 := hF8.1 7 (by decide)
          have z8_S44 := hF8.1 8 (by decide)
          have z9_S44 := hF8.1 9 (by decide)
          have z10_S44 := hF8.1 10 (by decide)
          have z11_S44 := hF8.1 11 (by decide)
          have z12_S44 := hF8.1 12 (by decide)
          have z20_S44 := hF8.1 20 (by decide)
          have f0_S44 := hF8.2.1 0 (by decide)
          have f0a_S44 := Fr_fa hF8 0 (by decide)
          have f1_S44 := hF8.2.1 1 (by decide)
          have f1a_S44 := Fr_fa hF8 1 (by decide)
          have f2_S44 := hF8.2.1 2 (by decide)
          have f2a_S44 := Fr_fa hF8 2 (by decide)
          have f5_S44 := hF8.2.1 5 (by decide)
          have f5a_S44 := Fr_fa hF8 5 (by decide)
          have f7_S44 := hF8.2.1 7 (by decide)
          have f7a_S44 := Fr_fa hF8 7 (by decide)
          have f8_S44 := hF8.2.1 8 (by decide)
          have f8a_S44 := Fr_fa hF8 8 (by decide)
          have f46_S44 := hF8.2.1 46 (by decide)
          have f46a_S44 := Fr_fa hF8 46 (by decide)
          have f47_S44 := hF8.2.1 47 (by decide)
          have f47a_S44 := Fr_fa hF8 47 (by decide)
          have f48_S44 := hF8.2.1 48 (by decide)
          have f48a_S44 := Fr_fa hF8 48 (by decide)
          have g3_S44 := hF8.2.2 3 (by decide)
          have g3a_S44 := Fr_ga hF8 3 (by decide)
          have g4_S44 := hF8.2.2 4 (by decide)
          have g4a_S44 := Fr_ga hF8 4 (by decide)
          clear hF8
          (try clear hk82); (try clear hk126); grind [QI, WB, PI, LG, TK, PL, BU, CE, PTc, PW, ix_int, ix_eq, q_zz, q_za, q_zga, q_fza, q_fx, q_fga, q_gza, q_gfa, q_gx, q_zf1, q_zg1, q_ff, q_fg1, q_gf1, q_gg, ti_link, in1000, in2, in24, in24000, in4002]
      · intro z24 ez24
        refine ⟨by (try clear hk82); (try clear hk126); grind [QI, WB, PI, LG, TK, PL, BU, CE, PTc, PW, ix_int, ix_eq, q_zz, q_za, q_zga, q_fza, q_fx, q_fga, q_gza, q_gfa, q_gx, q_zf1, q_zg1, q_ff, q_fg1, q_gf1, q_gg, ti_link, in1000, in2, in24, in24000, in4002], ?_⟩
        intro z25 ez25
        refine ⟨by (try clear hk82); (try clear hk126); grind [QI, WB, PI, LG, TK, PL, BU, CE, PTc, PW, ix_int, ix_eq, q_zz, q_za, q_zga, q_fza, q_fx, q_fga, q_gza, q_gfa, q_gx, q_zf1, q_zg1, q_ff, q_fg1, q_gf1, q_gg, ti_link, in1000, in2, in24, in24000, in4002], ?_⟩
        intro z26 ez26
        refine ⟨by (try clear hk82); (try clear hk126); grind [QI, WB, PI, LG, TK, PL, BU, CE, PTc, PW, ix_int, ix_eq, q_zz, q_za, q_zga, q_fza, q_fx, q_fga, q_gza, q_gfa, q_gx, q_zf1, q_zg1, q_ff, q_fg1, q_gf1, q_gg, ti_link, in1000, in2, in24, in24000, in4002], ?_⟩
        intro z27 ez27
        refine fm_find_r _ _ _ _ _ _ (fun S28 r28 hF9 pS28 => ?_) (sg_find_r _ _ _ (by (try clear hk82); (try clear hk126); grind [QI, WB, PI, LG, TK, PL, BU, CE, PTc, PW, ix_int, ix_eq, q_zz, q_za, q_zga, q_fza, q_fx, q_fga, q_gza, q_gfa, q_gx, q_zf1, q_zg1, q_ff, q_fg1, q_gf1, q_gg, ti_link, in1000, in2, in24, in24000, in4002]))
        have z1_S28 := hF9.1 1 (by decide)
        have z3_S28 := hF9.1 3 (by decide)
        have z4_S28 := hF9.1 4 (by decide)
        have z5_S28 := hF9.1 5 (by decide)
        have z6_S28 := hF9.1 6 (by decide)
        have z7_S28 := hF9.1 7 (by decide)
        have z8_S28 := hF9.1 8 (by decide)
        have z9_S28 := hF9.1 9 (by decide)
        have z10_S28 := hF9.1 10 (by decide)
        have z11_S28 := hF9.1 11 (by decide)
        have z12_S28 := hF9.1 12 (by decide)
        have z20_S28 := hF9.1 20 (by decide)
        have f0_S28 := hF9.2.1 0 (by decide)
        have f0a_S28 := Fr_fa hF9 0 (by decide)
        have f1_S28 := hF9.2.1 1 (by decide)
        have f1a_S28 := Fr_fa hF9 1 (by decide)
        have f2_S28 := hF9.2.1 2 (by decide)
        have f2a_S28 := Fr_fa hF9 2 (by decide)
        have f5_S28 := hF9.2.1 5 (by decide)
        have f5a_S28 := Fr_fa hF9 5 (by decide)
        have f7_S28 := hF9.2.1 7 (by decide)
        have f7a_S28 := Fr_fa hF9 7 (by decide)
        have f8_S28 := hF9.2.1 8 (by decide)
        have f8a_S28 := Fr_fa hF9 8 (by decide)
        have f46_S28 := hF9.2.1 46 (by decide)
        have f46a_S28 := Fr_fa hF9 46 (by decide)
        have f47_S28 := hF9.2.1 47 (by decide)
        have f47a_S28 := Fr_fa hF9 47 (by decide)
        have f48_S28 := hF9.2.1 48 (by decide)
        have f48a_S28 := Fr_fa hF9 48 (by decide)
        have g3_S28 := hF9.2.2 3 (by decide)
        have g3a_S28 := Fr_ga hF9 3 (by decide)
        have g4_S28 := hF9.2.2 4 (by decide)
        have g4a_S28 := Fr_ga hF9 4 (by decide)
        clear hF9
        refine ⟨by (try clear hk82); (try clear hk126); grind [QI, WB, PI, LG, TK, PL, BU, CE, PTc, PW, ix_int, ix_eq, q_zz, q_za, q_zga, q_fza, q_fx, q_fga, q_gza, q_gfa, q_gx, q_zf1, q_zg1, q_ff, q_fg1, q_gf1, q_gg, ti_link, in1000, in2, in24, in24000, in4002], ?_⟩
        intro z29 ez29
        intro S30 eS30
        refine ⟨fun c10 => ?_, fun c10 => ?_⟩
        · intro z32 ez32
          intro z33 ez33
          refine ⟨by (try clear hk82); (try clear hk126); grind [QI, WB, PI, LG, TK, PL, BU, CE, PTc, PW, ix_int, ix_eq, q_zz, q_za, q_zga, q_fza, q_fx, q_fga, q_gza, q_gfa, q_gx, q_zf1, q_zg1, q_ff, q_fg1, q_gf1, q_gg, ti_link, in1000, in2, in24, in24000, in4002], ?_⟩
          intro z34 ez34
          refine ⟨by (try clear hk82); (try clear hk126); grind [QI, WB, PI, LG, TK, PL, BU, CE, PTc, PW, ix_int, ix_eq, q_zz, q_za, q_zga, q_fza, q_fx, q_fga, q_gza, q_gfa, q_gx, q_zf1, q_zg1, q_ff, q_fg1, q_gf1, q_gg, ti_link, in1000, in2, in24, in24000, in4002], ?_⟩
          intro z35 ez35
          refine ⟨fun c11 => ?_, fun c11 => ?_⟩
          · refine ⟨by (try clear hk82); (try clear hk126); grind [QI, WB, PI, LG, TK, PL, BU, CE, PTc, PW, ix_int, ix_eq, q_zz, q_za, q_zga, q_fza, q_fx, q_fga, q_gza, q_gfa, q_gx, q_zf1, q_zg1, q_ff, q_fg1, q_gf1, q_gg, ti_link, in1000, in2, in24, in24000, in4002], ?_⟩
            intro z37 ez37
            refine ⟨by (try clear hk82); (try clear hk126); grind [QI, WB, PI, LG, TK, PL, BU, CE, PTc, PW, ix_int, ix_eq, q_zz, q_za, q_zga, q_fza, q_fx, q_fga, q_gza, q_gfa, q_gx, q_zf1, q_zg1, q_ff, q_fg1, q_gf1, q_gg, ti_link, in1000, in2, in24, in24000, in4002], ?_⟩
            intro S38 eS38
            unfold wp_program_243
            intro z41 ez41
            exact hk126 _ (by (try clear hk82); (try clear hk126); grind [QI, WB, PI, LG, TK, PL, BU, CE, PTc, PW, ix_int, ix_eq, q_zz, q_za, q_zga, q_fza, q_fx, q_fga, q_gza, q_gfa, q_gx, q_zf1, q_zg1, q_ff, q_fg1, q_gf1, q_gg, ti_link, in1000, in2, in24, in24000, in4002]) (by (try clear hk82); (try clear hk126); grind [QI, WB, PI, LG, TK, PL, BU, CE, PTc, PW, ix_int, ix_eq, q_zz, q_za, q_zga, q_fza, q_fx, q_fga, q_gza, q_gfa, q_gx, q_zf1, q_zg1, q_ff, q_fg1, q_gf1, q_gg, ti_link, in1000, in2, in24, in24000, in4002])
          · refine fm_wrong _ _ _ _ (fun S39 hF12 pS39 => ?_) (sg_wrong (nx := nx) (n := n) (so := so) (pl := pl) (wo := wo) (ws := ws) _ (by (try clear hk82); (try clear hk126); grind [QI, WB, PI, LG, TK, PL, BU, CE, PTc, PW, ix_int, ix_eq, q_zz, q_za, q_zga, q_fza, q_fx, q_fga, q_gza, q_gfa, q_gx, q_zf1, q_zg1, q_ff, q_fg1, q_gf1, q_gg, ti_link, in1000, in2, in24, in24000, in4002]) (by (try clear hk82); (try clear hk126); grind [QI, WB, PI, LG, TK, PL, BU, CE, PTc, PW, ix_int, ix_eq, q_zz, q_za, q_zga, q_fza, q_fx, q_fga, q_gza, q_gfa, q_gx, q_zf1, q_zg1, q_ff, q_fg1, q_gf1, q_gg, ti_link, in1000, in2, in24, in24000, in4002]))
            have z1_S39 := hF12.1 1 (by decide)
            have z3_S39 := hF12.1 3 (by decide)
            have z5_S39 := hF12.1 5 (by decide)
            have z6_S39 := hF12.1 6 (by decide)
            have z7_S39 := hF12.1 7 (by decide)
            have z8_S39 := hF12.1 8 (by decide)
            have z9_S39 := hF12.1 9 (by decide)
            have z10_S39 := hF12.1 10 (by decide)
            have z11_S39 := hF12.1 11 (by decide)
            have z12_S39 := hF12.1 12 (by decide)
            have z20_S39 := hF12.1 20 (by decide)
            have f0_S39 := hF12.2.1 0 (by decide)
            have f0a_S39 := Fr_fa hF12 0 (by decide)
            have f1_S39 := hF12.2.1 1 (by decide)
            have f1a_S39 := Fr_fa hF12 1 (by decide)
            have f2_S39 := hF12.2.1 2 (by decide)
            have f2a_S39 := Fr_fa hF12 2 (by decide)
            have f5_S39 := hF12.2.1 5 (by decide)
            have f5a_S39 := Fr_fa hF12 5 (by decide)
            have f7_S39 := hF12.2.1 7 (by decide)
            have f7a_S39 := Fr_fa hF12 7 (by decide)
            have f8_S39 := hF12.2.1 8 (by decide)
            have f8a_S39 := Fr_fa hF12 8 (by decide)
            have f46_S39 := hF12.2.1 46 (by decide)
            have f46a_S39 := Fr_fa hF12 46 (by decide)
            have f47_S39 := hF12.2.1 47 (by decide)
            have f47a_S39 := Fr_fa hF12 47 (by decide)
            have f48_S39 := hF12.2.1 48 (by decide)
            have f48a_S39 := Fr_fa hF12 48 (by decide)
            have g3_S39 := hF12.2.2 3 (by decide)
            have g3a_S39 := Fr_ga hF12 3 (by decide)
            have g4_S39 := hF12.2.2 4 (by decide)
            have g4a_S39 := Fr_ga hF12 4 (by decide)
            clear hF12
            unfold wp_program_243
            intro z41 ez41
            exact hk126 _ (by (try clear hk82); (try clear hk126); grind [QI, WB, PI, LG, TK, PL, BU, CE, PTc, PW, ix_int, ix_eq, q_zz, q_za, q_zga, q_fza, q_fx, q_fga, q_gza, q_gfa, q_gx, q_zf1, q_zg1, q_ff, q_fg1, q_gf1, q_gg, ti_link, in1000, in2, in24, in24000, in4002]) (by (try clear hk82); (try clear hk126); grind [QI, WB, PI, LG, TK, PL, BU, CE, PTc, PW, ix_int, ix_eq, q_zz, q_za, q_zga, q_fza, q_fx, q_fga, q_gza, q_gfa, q_gx, q_zf1, q_zg1, q_ff, q_fg1, q_gf1, q_gg, ti_link, in1000, in2, in24, in24000, in4002])
        · refine fm_wrong _ _ _ _ (fun S40 hF13 pS40 => ?_) (sg_wrong (nx := nx) (n := n) (so := so) (pl := pl) (wo := wo) (ws := ws) _ (by (try clear hk82); (try clear hk126); grind [QI, WB, PI, LG, TK, PL, BU, CE, PTc, PW, ix_int, ix_eq, q_zz, q_za, q_zga, q_fza, q_fx, q_fga, q_gza, q_gfa, q_gx, q_zf1, q_zg1, q_ff, q_fg1, q_gf1, q_gg, ti_link, in1000, in2, in24, in24000, in4002]) (by (try clear hk82); (try clear hk126); grind [QI, WB, PI, LG, TK, PL, BU, CE, PTc, PW, ix_int, ix_eq, q_zz, q_za, q_zga, q_fza, q_fx, q_fga, q_gza, q_gfa, q_gx, q_zf1, q_zg1, q_ff, q_fg1, q_gf1, q_gg, ti_link, in1000, in2, in24, in24000, in4002]))
          have z1_S40 := hF13.1 1 (by decide)
          have z3_S40 := hF13.1 3 (by decide)
          have z5_S40 := hF13.1 5 (by decide)
          have z6_S40 := hF13.1 6 (by decide)
          have z7_S40 := hF13.1 7 (by decide)
          have z8_S40 := hF13.1 8 (by decide)
          have z9_S40 := hF13.1 9 (by decide)
          have z10_S40 := hF13.1 10 (by decide)
          have z11_S40 := hF13.1 11 (by decide)
          have z12_S40 := hF13.1 12 (by decide)
          have z20_S40 := hF13.1 20 (by decide)
          have f0_S40 := hF13.2.1 0 (by decide)
          have f0a_S40 := Fr_fa hF13 0 (by decide)
          have f1_S40 := hF13.2.1 1 (by decide)
          have f1a_S40 := Fr_fa hF13 1 (by decide)
          have f2_S40 := hF13.2.1 2 (by decide)
          have f2a_S40 := Fr_fa hF13 2 (by decide)
          have f5_S40 := hF13.2.1 5 (by decide)
          have f5a_S40 := Fr_fa hF13 5 (by decide)
          have f7_S40 := hF13.2.1 7 (by decide)
          have f7a_S40 := Fr_fa hF13 7 (by decide)
          have f8_S40 := hF13.2.1 8 (by decide)
          have f8a_S40 := Fr_fa hF13 8 (by decide)
          have f46_S40 := hF13.2.1 46 (by decide)
          have f46a_S40 := Fr_fa hF13 46 (by decide)
          have f47_S40 := hF13.2.1 47 (by decide)
          have f47a_S40 := Fr_fa hF13 47 (by decide)
          have f48_S40 := hF13.2.1 48 (by decide)
          have f48a_S40 := Fr_fa hF13 48 (by decide)
          have g3_S40 := hF13.2.2 3 (by decide)
          have g3a_S40 := Fr_ga hF13 3 (by decide)
          have g4_S40 := hF13.2.2 4 (by decide)
          have g4a_S40 := Fr_ga hF13 4 (by decide)
          clear hF13
          unfold wp_program_243
          intro z41 ez41
          exact hk126 _ (by (try clear hk82); (try clear hk126); grind [QI, WB, PI, LG, TK, PL, BU, CE, PTc, PW, ix_int, ix_eq, q_zz, q_za, q_zga, q_fza, q_fx, q_fga, q_gza, q_gfa, q_gx, q_zf1, q_zg1, q_ff, q_fg1, q_gf1, q_gg, ti_link, in1000, in2, in24, in24000, in4002]) (by (try clear hk82); (try clear hk126); grind [QI, WB, PI, LG, TK, PL, BU, CE, PTc, PW, ix_int, ix_eq, q_zz, q_za, q_zga, q_fza, q_fx, q_fga, q_gza, q_gfa, q_gx, q_zf1, q_zg1, q_ff, q_fg1, q_gf1, q_gg, ti_link, in1000, in2, in24, in24000, in4002])
  · refine ⟨by (try clear hk82); (try clear hk126); grind [QI, WB, PI, LG, TK, PL, BU, CE, PTc, PW, ix_int, ix_eq, q_zz, q_za, q_zga, q_fza, q_fx, q_fga, q_gza, q_gfa, q_gx, q_zf1, q_zg1, q_ff, q_fg1, q_gf1, q_gg, ti_link, in1000, in2, in24, in24000, in4002], ?_⟩
    intro z16 ez16
    refine ⟨fun c14 => ?_, fun c14 => ?_⟩
    · unfold wp_program_124
      refine it_rule (fun u : Int32 × mS => PI nx n so pl wo ws u.2 ∧ PL nx n (u.2.1 11) ((u.2.2.1 46)) ((u.2.2.1 48)) ∧ 0 ≤ (u.2.1 11).toInt ∧ (u.2.1 11).toInt ≤ 1000 ∧ CE ((u.2.2.1 8)) ∧ ((u.2.1 20) = 0 ∨ (u.2.1 20) = 1) ∧ 0 ≤ ((u.2.2.1 5) nx).toInt ∧ ((u.2.2.1 5) nx).toInt ≤ 12 ∧ (u.2.1 1) = 0 ∧ (u.2.1 5) = (S.1 5) ∧ 0 ≤ u.1.toInt ∧ u.1.toInt ≤ (u.2.1 11).toInt) (fun u => ((u.2.1 11).toInt - u.1.toInt).toNat) ?_ (by (try clear hk82); (try clear hk126); grind [QI, WB, PI, LG, TK, PL, BU, CE, PTc, PW, ix_int, ix_eq, q_zz, q_za, q_zga, q_fza, q_fx, q_fga, q_gza, q_gfa, q_gx, q_zf1, q_zg1, q_ff, q_fg1, q_gf1, q_gg, ti_link, in1000, in2, in24, in24000, in4002])
      rintro ⟨x1, Sl126⟩ k126 hI126 hk126
      replace hI126 : PI nx n so pl wo ws Sl126 ∧ PL nx n (Sl126.1 11) ((Sl126.2.1 46)) ((Sl126.2.1 48)) ∧ 0 ≤ (Sl126.1 11).toInt ∧ (Sl126.1 11).toInt ≤ 1000 ∧ CE ((Sl126.2.1 8)) ∧ ((Sl126.1 20) = 0 ∨ (Sl126.1 20) = 1) ∧ 0 ≤ ((Sl126.2.1 5) nx).toInt ∧ ((Sl126.2.1 5) nx).toInt ≤ 12 ∧ (Sl126.1 1) = 0 ∧ (Sl126.1 5) = (S.1 5) ∧ 0 ≤ x1.toInt ∧ x1.toInt ≤ (Sl126.1 11).toInt := hI126
      replace hk126 : ∀ v : Int32 × mS, PI nx n so pl wo ws v.2 ∧ PL nx n (v.2.1 11) ((v.2.2.1 46)) ((v.2.2.1 48)) ∧ 0 ≤ (v.2.1 11).toInt ∧ (v.2.1 11).toInt ≤ 1000 ∧ CE ((v.2.2.1 8)) ∧ ((v.2.1 20) = 0 ∨ (v.2.1 20) = 1) ∧ 0 ≤ ((v.2.2.1 5) nx).toInt ∧ ((v.2.2.1 5) nx).toInt ≤ 12 ∧ (v.2.1 1) = 0 ∧ (v.2.1 5) = (S.1 5) ∧ 0 ≤ v.1.toInt ∧ v.1.toInt ≤ (v.2.1 11).toInt → ((v.2.1 11).toInt - v.1.toInt).toNat < ((Sl126.1 11).toInt - x1.toInt).toNat → k126 v := hk126
      show wp_program_126 _ k126 x1 Sl126
      unfold wp_program_126
      refine ⟨fun c15 => ?_, fun c15 => ?_⟩
      · unfold wp_program_249
        refine ⟨fun c16 => ?_, fun c16 => ?_⟩
        · (try clear hk82); (try clear hk126); grind [QI, WB, PI, LG, TK, PL, BU, CE, PTc, PW, ix_int, ix_eq, q_zz, q_za, q_zga, q_fza, q_fx, q_fga, q_gza, q_gfa, q_gx, q_zf1, q_zg1, q_ff, q_fg1, q_gf1, q_gg, ti_link, in1000, in2, in24, in24000, in4002]
        · intro S43 eS43
          refine fm_forget _ _ _ (fun S44 hF17 pS44 => ?_) (sg_forget)
          have z1_S44 := hF17.1 1 (by decide)
          have z3_S44 := hF17.1 3 (by decide)
          have z4_S44 := hF17.1 4 (by decide)
          have z5_S44 := hF17.1 5 (by decide)
          have z6_S44 := hF17.1 6 (by decide)
          have z7_S44 := hF17.1 7 (by decide)
          have z8_S44 := hF17.1 8 (by decide)
          have z9_S44 := hF17.1 9 (by decide)
          have z10_S44 := hF17.1 10 (by decide)
          have z11_S44 := hF17.1 11 (by decide)
          have z12_S44 := hF17.1 12 (by decide)
          have z20_S44 := hF17.1 20 (by decide)
          have f0_S44 := hF17.2.1 0 (by decide)
          have f0a_S44 := Fr_fa hF17 0 (by decide)
          have f1_S44 := hF17.2.1 1 (by decide)
          have f1a_S44 := Fr_fa hF17 1 (by decide)
          have f2_S44 := hF17.2.1 2 (by decide)
          have f2a_S44 := Fr_fa hF17 2 (by decide)
          have f5_S44 := hF17.2.1 5 (by decide)
          have f5a_S44 := Fr_fa hF17 5 (by decide)
          have f7_S44 := hF17.2.1 7 (by decide)
          have f7a_S44 := Fr_fa hF17 7 (by decide)
          have f8_S44 := hF17.2.1 8 (by decide)
          have f8a_S44 := Fr_fa hF17 8 (by decide)
          have f46_S44 := hF17.2.1 46 (by decide)
          have f46a_S44 := Fr_fa hF17 46 (by decide)
          have f47_S44 := hF17.2.1 47 (by decide)
          have f47a_S44 := Fr_fa hF17 47 (by decide)
          have f48_S44 := hF17.2.1 48 (by decide)
          have f48a_S44 := Fr_fa hF17 48 (by decide)
          have g3_S44 := hF17.2.2 3 (by decide)
          have g3a_S44 := Fr_ga hF17 3 (by decide)
          have g4_S44 := hF17.2.2 4 (by decide)
          have g4a_S44 := Fr_ga hF17 4 (by decide)
          clear hF17
          (try clear hk82); (try clear hk126); grind [QI, WB, PI, LG, TK, PL, BU, CE, PTc, PW, ix_int, ix_eq, q_zz, q_za, q_zga, q_fza, q_fx, q_fga, q_gza, q_gfa, q_gx, q_zf1, q_zg1, q_ff, q_fg1, q_gf1, q_gg, ti_link, in1000, in2, in24, in24000, in4002]
      · refine ⟨fun c18 => ?_, fun c18 => ?_⟩
        · unfold wp_program_249
          refine ⟨fun c19 => ?_, fun c19 => ?_⟩
          · (try clear hk82); (try clear hk126); grind [QI, WB, PI, LG, TK, PL, BU, CE, PTc, PW, ix_int, ix_eq, q_zz, q_za, q_zga, q_fza, q_fx, q_fga, q_gza, q_gfa, q_gx, q_zf1, q_zg1, q_ff, q_fg1, q_gf1, q_gg, ti_link, in1000, in2, in24, in24000, in4002]
          · intro S43 eS43
            refine fm_forget _ _ _ (fun S44 hF20 pS44 => ?_) (sg_forget)
            have z1_S44 := hF20.1 1 (by decide)
            have z3_S44 := hF20.1 3 (by decide)
            have z4_S44 := hF20.1 4 (by decide)
            have z5_S44 := hF20.1 5 (by decide)
            have z6_S44 := hF20.1 6 (by decide)
            have z7_S44 := hF20.1 7 (by decide)
            have z8_S44 := hF20.1 8 (by decide)
            have z9_S44 := hF20.1 9 (by decide)
            have z10_S44 := hF20.1 10 (by decide)
            have z11_S44 := hF20.1 11 (by decide)
            have z12_S44 := hF20.1 12 (by decide)
            have z20_S44 := hF20.1 20 (by decide)
            have f0_S44 := hF20.2.1 0 (by decide)
            have f0a_S44 := Fr_fa hF20 0 (by decide)
            have f1_S44 := hF20.2.1 1 (by decide)
            have f1a_S44 := Fr_fa hF20 1 (by decide)
            have f2_S44 := hF20.2.1 2 (by decide)
            have f2a_S44 := Fr_fa hF20 2 (by decide)
            have f5_S44 := hF20.2.1 5 (by decide)
            have f5a_S44 := Fr_fa hF20 5 (by decide)
            have f7_S44 := hF20.2.1 7 (by decide)
            have f7a_S44 := Fr_fa hF20 7 (by decide)
            have f8_S44 := hF20.2.1 8 (by decide)
            have f8a_S44 := Fr_fa hF20 8 (by decide)
            have f46_S44 := hF20.2.1 46 (by decide)
            have f46a_S44 := Fr_fa hF20 46 (by decide)
            have f47_S44 := hF20.2.1 47 (by decide)
            have f47a_S44 := Fr_fa hF20 47 (by decide)
            have f48_S44 := hF20.2.1 48 (by decide)
            have f48a_S44 := Fr_fa hF20 48 (by decide)
            have g3_S44 := hF20.2.2 3 (by decide)
            have g3a_S44 := Fr_ga hF20 3 (by decide)
            have g4_S44 := hF20.2.2 4 (by decide)
            have g4a_S44 := Fr_ga hF20 4 (by decide)
            clear hF20
            (try clear hk82); (try clear hk126); grind [QI, WB, PI, LG, TK, PL, BU, CE, PTc, PW, ix_int, ix_eq, q_zz, q_za, q_zga, q_fza, q_fx, q_fga, q_gza, q_gfa, q_gx, q_zf1, q_zg1, q_ff, q_fg1, q_gf1, q_gg, ti_link, in1000, in2, in24, in24000, in4002]
        · intro z24 ez24
          refine ⟨by (try clear hk82); (try clear hk126); grind [QI, WB, PI, LG, TK, PL, BU, CE, PTc, PW, ix_int, ix_eq, q_zz, q_za, q_zga, q_fza, q_fx, q_fga, q_gza, q_gfa, q_gx, q_zf1, q_zg1, q_ff, q_fg1, q_gf1, q_gg, ti_link, in1000, in2, in24, in24000, in4002], ?_⟩
          intro z25 ez25
          refine ⟨by (try clear hk82); (try clear hk126); grind [QI, WB, PI, LG, TK, PL, BU, CE, PTc, PW, ix_int, ix_eq, q_zz, q_za, q_zga, q_fza, q_fx, q_fga, q_gza, q_gfa, q_gx, q_zf1, q_zg1, q_ff, q_fg1, q_gf1, q_gg, ti_link, in1000, in2, in24, in24000, in4002], ?_⟩
          intro z26 ez26
          refine ⟨by (try clear hk82); (try clear hk126); grind [QI, WB, PI, LG, TK, PL, BU, CE, PTc, PW, ix_int, ix_eq, q_zz, q_za, q_zga, q_fza, q_fx, q_fga, q_gza, q_gfa, q_gx, q_zf1, q_zg1, q_ff, q_fg1, q_gf1, q_gg, ti_link, in1000, in2, in24, in24000, in4002], ?_⟩
          intro z27 ez27
          refine fm_find_r _ _ _ _ _ _ (fun S28 r28 hF21 pS28 => ?_) (sg_find_r _ _ _ (by (try clear hk82); (try clear hk126); grind [QI, WB, PI, LG, TK, PL, BU, CE, PTc, PW, ix_int, ix_eq, q_zz, q_za, q_zga, q_fza, q_fx, q_fga, q_gza, q_gfa, q_gx, q_zf1, q_zg1, q_ff, q_fg1, q_gf1, q_gg, ti_link, in1000, in2, in24, in24000, in4002]))
          have z1_S28 := hF21.1 1 (by decide)
          have z3_S28 := hF21.1 3 (by decide)
          have z4_S28 := hF21.1 4 (by decide)
          have z5_S28 := hF21.1 5 (by decide)
          have z6_S28 := hF21.1 6 (by decide)
          have z7_S28 := hF21.1 7 (by decide)
          have z8_S28 := hF21.1 8 (by decide)
          have z9_S28 := hF21.1 9 (by decide)
          have z10_S28 := hF21.1 10 (by decide)
          have z11_S28 := hF21.1 11 (by decide)
          have z12_S28 := hF21.1 12 (by decide)
          have z20_S28 := hF21.1 20 (by decide)
          have f0_S28 := hF21.2.1 0 (by decide)
          have f0a_S28 := Fr_fa hF21 0 (by decide)
          have f1_S28 := hF21.2.1 1 (by decide)
          have f1a_S28 := Fr_fa hF21 1 (by decide)
          have f2_S28 := hF21.2.1 2 (by decide)
          have f2a_S28 := Fr_fa hF21 2 (by decide)
          have f5_S28 := hF21.2.1 5 (by decide)
          have f5a_S28 := Fr_fa hF21 5 (by decide)
          have f7_S28 := hF21.2.1 7 (by decide)
          have f7a_S28 := Fr_fa hF21 7 (by decide)
          have f8_S28 := hF21.2.1 8 (by decide)
          have f8a_S28 := Fr_fa hF21 8 (by decide)
          have f46_S28 := hF21.2.1 46 (by decide)
          have f46a_S28 := Fr_fa hF21 46 (by decide)
          have f47_S28 := hF21.2.1 47 (by decide)
          have f47a_S28 := Fr_fa hF21 47 (by decide)
          have f48_S28 := hF21.2.1 48 (by decide)
          have f48a_S28 := Fr_fa hF21 48 (by decide)
          have g3_S28 := hF21.2.2 3 (by decide)
          have g3a_S28 := Fr_ga hF21 3 (by decide)
          have g4_S28 := hF21.2.2 4 (by decide)
          have g4a_S28 := Fr_ga hF21 4 (by decide)
          clear hF21
          refine ⟨by (try clear hk82); (try clear hk126); grind [QI, WB, PI, LG, TK, PL, BU, CE, PTc, PW, ix_int, ix_eq, q_zz, q_za, q_zga, q_fza, q_fx, q_fga, q_gza, q_gfa, q_gx, q_zf1, q_zg1, q_ff, q_fg1, q_gf1, q_gg, ti_link, in1000, in2, in24, in24000, in4002], ?_⟩
          intro z29 ez29
          intro S30 eS30
          refine ⟨fun c22 => ?_, fun c22 => ?_⟩
          · intro z32 ez32
            intro z33 ez33
            refine ⟨by (try clear hk82); (try clear hk126); grind [QI, WB, PI, LG, TK, PL, BU, CE, PTc, PW, ix_int, ix_eq, q_zz, q_za, q_zga, q_fza, q_fx, q_fga, q_gza, q_gfa, q_gx, q_zf1, q_zg1, q_ff, q_fg1, q_gf1, q_gg, ti_link, in1000, in2, in24, in24000, in4002], ?_⟩
            intro z34 ez34
            refine ⟨by (try clear hk82); (try clear hk126); grind [QI, WB, PI, LG, TK, PL, BU, CE, PTc, PW, ix_int, ix_eq, q_zz, q_za, q_zga, q_fza, q_fx, q_fga, q_gza, q_gfa, q_gx, q_zf1, q_zg1, q_ff, q_fg1, q_gf1, q_gg, ti_link, in1000, in2, in24, in24000, in4002], ?_⟩
            intro z35 ez35
            refine ⟨fun c23 => ?_, fun c23 => ?_⟩
            · refine ⟨by (try clear hk82); (try clear hk126); grind [QI, WB, PI, LG, TK, PL, BU, CE, PTc, PW, ix_int, ix_eq, q_zz, q_za, q_zga, q_fza, q_fx, q_fga, q_gza, q_gfa, q_gx, q_zf1, q_zg1, q_ff, q_fg1, q_gf1, q_gg, ti_link, in1000, in2, in24, in24000, in4002], ?_⟩
              intro z37 ez37
              refine ⟨by (try clear hk82); (try clear hk126); grind [QI, WB, PI, LG, TK, PL, BU, CE, PTc, PW, ix_int, ix_eq, q_zz, q_za, q_zga, q_fza, q_fx, q_fga, q_gza, q_gfa, q_gx, q_zf1, q_zg1, q_ff, q_fg1, q_gf1, q_gg, ti_link, in1000, in2, in24, in24000, in4002], ?_⟩
              intro S38 eS38
              unfold wp_program_243
              intro z41 ez41
              exact hk126 _ (by (try clear hk82); (try clear hk126); grind [QI, WB, PI, LG, TK, PL, BU, CE, PTc, PW, ix_int, ix_eq, q_zz, q_za, q_zga, q_fza, q_fx, q_fga, q_gza, q_gfa, q_gx, q_zf1, q_zg1, q_ff, q_fg1, q_gf1, q_gg, ti_link, in1000, in2, in24, in24000, in4002]) (by (try clear hk82); (try clear hk126); grind [QI, WB, PI, LG, TK, PL, BU, CE, PTc, PW, ix_int, ix_eq, q_zz, q_za, q_zga, q_fza, q_fx, q_fga, q_gza, q_gfa, q_gx, q_zf1, q_zg1, q_ff, q_fg1, q_gf1, q_gg, ti_link, in1000, in2, in24, in24000, in4002])
            · refine fm_wrong _ _ _ _ (fun S39 hF24 pS39 => ?_) (sg_wrong (nx := nx) (n := n) (so := so) (pl := pl) (wo := wo) (ws := ws) _ (by (try clear hk82); (try clear hk126); grind [QI, WB, PI, LG, TK, PL, BU, CE, PTc, PW, ix_int, ix_eq, q_zz, q_za, q_zga, q_fza, q_fx, q_fga, q_gza, q_gfa, q_gx, q_zf1, q_zg1, q_ff, q_fg1, q_gf1, q_gg, ti_link, in1000, in2, in24, in24000, in4002]) (by (try clear hk82); (try clear hk126); grind [QI, WB, PI, LG, TK, PL, BU, CE, PTc, PW, ix_int, ix_eq, q_zz, q_za, q_zga, q_fza, q_fx, q_fga, q_gza, q_gfa, q_gx, q_zf1, q_zg1, q_ff, q_fg1, q_gf1, q_gg, ti_link, in1000, in2, in24, in24000, in4002]))
              have z1_S39 := hF24.1 1 (by decide)
              have z3_S39 := hF24.1 3 (by decide)
              have z5_S39 := hF24.1 5 (by decide)
              have z6_S39 := hF24.1 6 (by decide)
              have z7_S39 := hF24.1 7 (by decide)
              have z8_S39 := hF24.1 8 (by decide)
              have z9_S39 := hF24.1 9 (by decide)
              have z10_S39 := hF24.1 10 (by decide)
              have z11_S39 := hF24.1 11 (by decide)
              have z12_S39 := hF24.1 12 (by decide)
              have z20_S39 := hF24.1 20 (by decide)
              have f0_S39 := hF24.2.1 0 (by decide)
              have f0a_S39 := Fr_fa hF24 0 (by decide)
              have f1_S39 := hF24.2.1 1 (by decide)
              have f1a_S39 := Fr_fa hF24 1 (by decide)
              have f2_S39 := hF24.2.1 2 (by decide)
              have f2a_S39 := Fr_fa hF24 2 (by decide)
              have f5_S39 := hF24.2.1 5 (by decide)
              have f5a_S39 := Fr_fa hF24 5 (by decide)
              have f7_S39 := hF24.2.1 7 (by decide)
              have f7a_S39 := Fr_fa hF24 7 (by decide)
              have f8_S39 := hF24.2.1 8 (by decide)
              have f8a_S39 := Fr_fa hF24 8 (by decide)
              have f46_S39 := hF24.2.1 46 (by decide)
              have f46a_S39 := Fr_fa hF24 46 (by decide)
              have f47_S39 := hF24.2.1 47 (by decide)
              have f47a_S39 := Fr_fa hF24 47 (by decide)
              have f48_S39 := hF24.2.1 48 (by decide)
              have f48a_S39 := Fr_fa hF24 48 (by decide)
              have g3_S39 := hF24.2.2 3 (by decide)
              have g3a_S39 := Fr_ga hF24 3 (by decide)
              have g4_S39 := hF24.2.2 4 (by decide)
              have g4a_S39 := Fr_ga hF24 4 (by decide)
              clear hF24
              unfold wp_program_243
              intro z41 ez41
              exact hk126 _ (by (try clear hk82); (try clear hk126); grind [QI, WB, PI, LG, TK, PL, BU, CE, PTc, PW, ix_int, ix_eq, q_zz, q_za, q_zga, q_fza, q_fx, q_fga, q_gza, q_gfa, q_gx, q_zf1, q_zg1, q_ff, q_fg1, q_gf1, q_gg, ti_link, in1000, in2, in24, in24000, in4002]) (by (try clear hk82); (try clear hk126); grind [QI, WB, PI, LG, TK, PL, BU, CE, PTc, PW, ix_int, ix_eq, q_zz, q_za, q_zga, q_fza, q_fx, q_fga, q_gza, q_gfa, q_gx, q_zf1, q_zg1, q_ff, q_fg1, q_gf1, q_gg, ti_link, in1000, in2, in24, in24000, in4002])
          · refine fm_wrong _ _ _ _ (fun S40 hF25 pS40 => ?_) (sg_wrong (nx := nx) (n := n) (so := so) (pl := pl) (wo := wo) (ws := ws) _ (by (try clear hk82); (try clear hk126); grind [QI, WB, PI, LG, TK, PL, BU, CE, PTc, PW, ix_int, ix_eq, q_zz, q_za, q_zga, q_fza, q_fx, q_fga, q_gza, q_gfa, q_gx, q_zf1, q_zg1, q_ff, q_fg1, q_gf1, q_gg, ti_link, in1000, in2, in24, in24000, in4002]) (by (try clear hk82); (try clear hk126); grind [QI, WB, PI, LG, TK, PL, BU, CE, PTc, PW, ix_int, ix_eq, q_zz, q_za, q_zga, q_fza, q_fx, q_fga, q_gza, q_gfa, q_gx, q_zf1, q_zg1, q_ff, q_fg1, q_gf1, q_gg, ti_link, in1000, in2, in24, in24000, in4002]))
            have z1_S40 := hF25.1 1 (by decide)
            have z3_S40 := hF25.1 3 (by decide)
            have z5_S40 := hF25.1 5 (by decide)
            have z6_S40 := hF25.1 6 (by decide)
            have z7_S40 := hF25.1 7 (by decide)
            have z8_S40 := hF25.1 8 (by decide)
            have z9_S40 := hF25.1 9 (by decide)
            have z10_S40 := hF25.1 10 (by decide)
            have z11_S40 := hF25.1 11 (by decide)
            have z12_S40 := hF25.1 12 (by decide)
            have z20_S40 := hF25.1 20 (by decide)
            have f0_S40 := hF25.2.1 0 (by decide)
            have f0a_S40 := Fr_fa hF25 0 (by decide)
            have f1_S40 := hF25.2.1 1 (by decide)
            have f1a_S40 := Fr_fa hF25 1 (by decide)
            have f2_S40 := hF25.2.1 2 (by decide)
            have f2a_S40 := Fr_fa hF25 2 (by decide)
            have f5_S40 := hF25.2.1 5 (by decide)
            have f5a_S40 := Fr_fa hF25 5 (by decide)
            have f7_S40 := hF25.2.1 7 (by decide)
            have f7a_S40 := Fr_fa hF25 7 (by decide)
            have f8_S40 := hF25.2.1 8 (by decide)
            have f8a_S40 := Fr_fa hF25 8 (by decide)
            have f46_S40 := hF25.2.1 46 (by decide)
            have f46a_S40 := Fr_fa hF25 46 (by decide)
            have f47_S40 := hF25.2.1 47 (by decide)
            have f47a_S40 := Fr_fa hF25 47 (by decide)
            have f48_S40 := hF25.2.1 48 (by decide)
            have f48a_S40 := Fr_fa hF25 48 (by decide)
            have g3_S40 := hF25.2.2 3 (by decide)
            have g3a_S40 := Fr_ga hF25 3 (by decide)
            have g4_S40 := hF25.2.2 4 (by decide)
            have g4a_S40 := Fr_ga hF25 4 (by decide)
            clear hF25
            unfold wp_program_243
            intro z41 ez41
            exact hk126 _ (by (try clear hk82); (try clear hk126); grind [QI, WB, PI, LG, TK, PL, BU, CE, PTc, PW, ix_int, ix_eq, q_zz, q_za, q_zga, q_fza, q_fx, q_fga, q_gza, q_gfa, q_gx, q_zf1, q_zg1, q_ff, q_fg1, q_gf1, q_gg, ti_link, in1000, in2, in24, in24000, in4002]) (by (try clear hk82); (try clear hk126); grind [QI, WB, PI, LG, TK, PL, BU, CE, PTc, PW, ix_int, ix_eq, q_zz, q_za, q_zga, q_fza, q_fx, q_fga, q_gza, q_gfa, q_gx, q_zf1, q_zg1, q_ff, q_fg1, q_gf1, q_gg, ti_link, in1000, in2, in24, in24000, in4002])
    · refine fm_isWord _ _ _ _ (fun S18 r18 hF26 pS18 => ?_) (sg_isWord (nx := nx) (n := n) (so := so) (pl := pl) (wo := wo) (ws := ws) _ (by (try clear hk82); (try clear hk126); grind [QI, WB, PI, LG, TK, PL, BU, CE, PTc, PW, ix_int, ix_eq, q_zz, q_za, q_zga, q_fza, q_fx, q_fga, q_gza, q_gfa, q_gx, q_zf1, q_zg1, q_ff, q_fg1, q_gf1, q_gg, ti_link, in1000, in2, in24, in24000, in4002]) (by (try clear hk82); (try clear hk126); grind [QI, WB, PI, LG, TK, PL, BU, CE, PTc, PW, ix_int, ix_eq, q_zz, q_za, q_zga, q_fza, q_fx, q_fga, q_gza, q_gfa, q_gx, q_zf1, q_zg1, q_ff, q_fg1, q_gf1, q_gg, ti_link, in1000, in2, in24, in24000, in4002]))
      have z1_S18 := hF26.1 1 (by decide)
      have z3_S18 := hF26.1 3 (by decide)
      have z4_S18 := hF26.1 4 (by decide)
      have z5_S18 := hF26.1 5 (by decide)
      have z6_S18 := hF26.1 6 (by decide)
      have z7_S18 := hF26.1 7 (by decide)
      have z8_S18 := hF26.1 8 (by decide)
      have z9_S18 := hF26.1 9 (by decide)
      have z10_S18 := hF26.1 10 (by decide)
      have z11_S18 := hF26.1 11 (by decide)
      have z12_S18 := hF26.1 12 (by decide)
      have z20_S18 := hF26.1 20 (by decide)
      have f0_S18 := hF26.2.1 0 (by decide)
      have f0a_S18 := Fr_fa hF26 0 (by decide)
      have f1_S18 := hF26.2.1 1 (by decide)
      have f1a_S18 := Fr_fa hF26 1 (by decide)
      have f2_S18 := hF26.2.1 2 (by decide)
      have f2a_S18 := Fr_fa hF26 2 (by decide)
      have f5_S18 := hF26.2.1 5 (by decide)
      have f5a_S18 := Fr_fa hF26 5 (by decide)
      have f7_S18 := hF26.2.1 7 (by decide)
      have f7a_S18 := Fr_fa hF26 7 (by decide)
      have f8_S18 := hF26.2.1 8 (by decide)
      have f8a_S18 := Fr_fa hF26 8 (by decide)
      have f46_S18 := hF26.2.1 46 (by decide)
      have f46a_S18 := Fr_fa hF26 46 (by decide)
      have f47_S18 := hF26.2.1 47 (by decide)
      have f47a_S18 := Fr_fa hF26 47 (by decide)
      have f48_S18 := hF26.2.1 48 (by decide)
      have f48a_S18 := Fr_fa hF26 48 (by decide)
      have g3_S18 := hF26.2.2 3 (by decide)
      have g3a_S18 := Fr_ga hF26 3 (by decide)
      have g4_S18 := hF26.2.2 4 (by decide)
      have g4a_S18 := Fr_ga hF26 4 (by decide)
      clear hF26
      refine ⟨fun c27 => ?_, fun c27 => ?_⟩
      · refine fm_wrong _ _ _ _ (fun S20 hF28 pS20 => ?_) (sg_wrong (nx := nx) (n := n) (so := so) (pl := pl) (wo := wo) (ws := ws) _ (by (try clear hk82); (try clear hk126); grind [QI, WB, PI, LG, TK, PL, BU, CE, PTc, PW, ix_int, ix_eq, q_zz, q_za, q_zga, q_fza, q_fx, q_fga, q_gza, q_gfa, q_gx, q_zf1, q_zg1, q_ff, q_fg1, q_gf1, q_gg, ti_link, in1000, in2, in24, in24000, in4002]) (by (try clear hk82); (try clear hk126); grind [QI, WB, PI, LG, TK, PL, BU, CE, PTc, PW, ix_int, ix_eq, q_zz, q_za, q_zga, q_fza, q_fx, q_fga, q_gza, q_gfa, q_gx, q_zf1, q_zg1, q_ff, q_fg1, q_gf1, q_gg, ti_link, in1000, in2, in24, in24000, in4002]))
        have z1_S20 := hF28.1 1 (by decide)
        have z3_S20 := hF28.1 3 (by decide)
        have z5_S20 := hF28.1 5 (by decide)
        have z6_S20 := hF28.1 6 (by decide)
        have z7_S20 := hF28.1 7 (by decide)
        have z8_S20 := hF28.1 8 (by decide)
        have z9_S20 := hF28.1 9 (by decide)
        have z10_S20 := hF28.1 10 (by decide)
        have z11_S20 := hF28.1 11 (by decide)
        have z12_S20 := hF28.1 12 (by decide)
        have z20_S20 := hF28.1 20 (by decide)
        have f0_S20 := hF28.2.1 0 (by decide)
        have f0a_S20 := Fr_fa hF28 0 (by decide)
        have f1_S20 := hF28.2.1 1 (by decide)
        have f1a_S20 := Fr_fa hF28 1 (by decide)
        have f2_S20 := hF28.2.1 2 (by decide)
        have f2a_S20 := Fr_fa hF28 2 (by decide)
        have f5_S20 := hF28.2.1 5 (by decide)
        have f5a_S20 := Fr_fa hF28 5 (by decide)
        have f7_S20 := hF28.2.1 7 (by decide)
        have f7a_S20 := Fr_fa hF28 7 (by decide)
        have f8_S20 := hF28.2.1 8 (by decide)
        have f8a_S20 := Fr_fa hF28 8 (by decide)
        have f46_S20 := hF28.2.1 46 (by decide)
        have f46a_S20 := Fr_fa hF28 46 (by decide)
        have f47_S20 := hF28.2.1 47 (by decide)
        have f47a_S20 := Fr_fa hF28 47 (by decide)
        have f48_S20 := hF28.2.1 48 (by decide)
        have f48a_S20 := Fr_fa hF28 48 (by decide)
        have g3_S20 := hF28.2.2 3 (by decide)
        have g3a_S20 := Fr_ga hF28 3 (by decide)
        have g4_S20 := hF28.2.2 4 (by decide)
        have g4a_S20 := Fr_ga hF28 4 (by decide)
        clear hF28
        exact hk82 _ (by (try clear hk82); (try clear hk126); grind [QI, WB, PI, LG, TK, PL, BU, CE, PTc, PW, ix_int, ix_eq, q_zz, q_za, q_zga, q_fza, q_fx, q_fga, q_gza, q_gfa, q_gx, q_zf1, q_zg1, q_ff, q_fg1, q_gf1, q_gg, ti_link, in1000, in2, in24, in24000, in4002]) (by (try clear hk82); (try clear hk126); grind [QI, WB, PI, LG, TK, PL, BU, CE, PTc, PW, ix_int, ix_eq, q_zz, q_za, q_zga, q_fza, q_fx, q_fga, q_gza, q_gfa, q_gx, q_zf1, q_zg1, q_ff, q_fg1, q_gf1, q_gg, ti_link, in1000, in2, in24, in24000, in4002])
      · refine fm_toldRoutine _ _ _ (fun S21 hF29 pS21 => ?_) (sg_toldRoutine (nx := nx) (n := n) (so := so) (pl := pl) (wo := wo) (ws := ws) (S0 := S) (by (try clear hk82); (try clear hk126); grind [QI, WB, PI, LG, TK, PL, BU, CE, PTc, PW, ix_int, ix_eq, q_zz, q_za, q_zga, q_fza, q_fx, q_fga, q_gza, q_gfa, q_gx, q_zf1, q_zg1, q_ff, q_fg1, q_gf1, q_gg, ti_link, in1000, in2, in24, in24000, in4002]) (by (try clear hk82); (try clear hk126); grind [QI, WB, PI, LG, TK, PL, BU, CE, PTc, PW, ix_int, ix_eq, q_zz, q_za, q_zga, q_fza, q_fx, q_fga, q_gza, q_gfa, q_gx, q_zf1, q_zg1, q_ff, q_fg1, q_gf1, q_gg, ti_link, in1000, in2, in24, in24000, in4002]))
        have z1_S21 := hF29.1 1 (by decide)
        have z5_S21 := hF29.1 5 (by decide)
        have z6_S21 := hF29.1 6 (by decide)
        have f0_S21 := hF29.2.1 0 (by decide)
        have f0a_S21 := Fr_fa hF29 0 (by decide)
        have f1_S21 := hF29.2.1 1 (by decide)
        have f1a_S21 := Fr_fa hF29 1 (by decide)
        have f2_S21 := hF29.2.1 2 (by decide)
        have f2a_S21 := Fr_fa hF29 2 (by decide)
        have g3_S21 := hF29.2.2 3 (by decide)
        have g3a_S21 := Fr_ga hF29 3 (by decide)
        have g4_S21 := hF29.2.2 4 (by decide)
        have g4a_S21 := Fr_ga hF29 4 (by decide)
        clear hF29
        exact hk82 _ (by (try clear hk82); (try clear hk126); grind [QI, WB, PI, LG, TK, PL, BU, CE, PTc, PW, ix_int, ix_eq, q_zz, q_za, q_zga, q_fza, q_fx, q_fga, q_gza, q_gfa, q_gx, q_zf1, q_zg1, q_ff, q_fg1, q_gf1, q_gg, ti_link, in1000, in2, in24, in24000, in4002]) (by (try clear hk82); (try clear hk126); grind [QI, WB, PI, LG, TK, PL, BU, CE, PTc, PW, ix_int, ix_eq, q_zz, q_za, q_zga, q_fza, q_fx, q_fga, q_gza, q_gfa, q_gx, q_zf1, q_zg1, q_ff, q_fg1, q_gf1, q_gg, ti_link, in1000, in2, in24, in24000, in4002])
