
set_option maxHeartbeats 4000000 in
theorem sg_program {m nx : Nat} {S : mS} (h0 : (S.1 1).toInt = m) (hm : m ≤ 4000) (hn : (nx : Int) = 1 - (S.1 5).toInt ∧ nx ≤ 1) (hc : CE ((S.2.1 8)) ∧ CE ((S.2.1 7))) (hb : B01 (S.1 20)) (hw : WD (S.2.2 4)) (h2 : True) : wp_program S (fun S1 r => ((S1.1 1) = 0 ∧ CE ((S1.2.1 8)) ∧ CE ((S1.2.1 7)) ∧ B01 (S1.1 20) ∧ (r = 0 → (S1.1 5).toInt = nx ∧ FG S1) ∧ (¬ r = 0 → (S1.1 5) = (S.1 5) ∧ KP S S1)) ∧ ((r = 0 → FW0 nx S1) ∧ (¬ r = 0 → OH nx S S1))) := by
  unfold wp_program
  have j249 : ∀ (Sx : mS), ((Sx.1 1) = 0 ∧ CE ((Sx.2.1 8)) ∧ CE ((Sx.2.1 7)) ∧ B01 (Sx.1 20) ∧ (Sx.1 5) = (S.1 5) ∧ (Sx.1 6).toInt = nx ∧ KP S Sx) ∧ (((Sx.1 4) = 0 → FW0 nx Sx) ∧ OH nx S Sx) → wp_program_249 (fun S1 r => ((S1.1 1) = 0 ∧ CE ((S1.2.1 8)) ∧ CE ((S1.2.1 7)) ∧ B01 (S1.1 20) ∧ (r = 0 → (S1.1 5).toInt = nx ∧ FG S1) ∧ (¬ r = 0 → (S1.1 5) = (S.1 5) ∧ KP S S1)) ∧ ((r = 0 → FW0 nx S1) ∧ (¬ r = 0 → OH nx S S1))) Sx := by
    intro Sx hJ249
    unfold wp_program_249
    obtain ⟨hJ249, iJ249⟩ := hJ249
    refine ⟨fun c1 => ?_, fun c1 => ?_⟩
    · exact ⟨by (try clear h2 iJ249); (try clear j124); (try clear j249); (try clear hk82); (try clear hk126); grind -mbtc (splits := 20) (gen := 20) (ematch := 12) [QI, PI, BU, FG, KP, → QE_i, PTc_0, PW_0, PL_0, PL_a, PL_b, CE_in, B01, ix_int, → PI_ix, LG, WB_nf, WB_ad2, q_zz, q_za, q_zga, q_fza, q_fx, q_fga, q_gza, q_gfa, q_gx, q_zf1, q_zg1, q_ff, q_fg1, q_gf1, q_gg, ti_link, in1000, in2, in24, in24000, in4002], by refine ⟨?_, ?_⟩ <;> ((try clear j124); (try clear j249); (try clear hk82); (try clear hk126); grind (ematch := 12) (gen := 12) (splits := 15) [→ OH_no, LQp_nf, Q2_nf, LQp_0, ti_link])⟩
    · intro S43 eS43
      have nS43 : NC Sx S43 := NC_z eS43 (by decide)
      have mS43 : NA Sx S43 := NA_z eS43 (by decide)
      have oS43 : NO nx Sx S43 := NO_z eS43
      have fw43 : FW0 nx S43 := FW0_e (by rw [eS43]; rfl) (iJ249.1 (by (try clear h2 iJ249 nS43 mS43 oS43); (try clear j124); (try clear j249); (try clear hk82); (try clear hk126); grind -mbtc (splits := 20) (gen := 20) (ematch := 12) [QI, PI, BU, FG, KP, → QE_i, PTc_0, PW_0, PL_0, PL_a, PL_b, CE_in, B01, ix_int, → PI_ix, LG, WB_nf, WB_ad2, q_zz, q_za, q_zga, q_fza, q_fx, q_fga, q_gza, q_gfa, q_gx, q_zf1, q_zg1, q_ff, q_fg1, q_gf1, q_gg, ti_link, in1000, in2, in24, in24000, in4002]))
      refine fm_forget _ _ _ (fun S44 hF2 pS44 => ?_) (sg_forget)
      have fS44 : S44.1 4 = 0 → S43.1 4 = 0 := fun q => (hF2.1 4 (by decide)).symm.trans q
      have nS44 : NC S43 S44 := NC_fr hF2 (by decide) (by decide) fS44
      have mS44 : NA S43 S44 := NA_fr hF2 (by decide) (by decide) fS44
      have oS44 : NO nx S43 S44 := NO_fr hF2 (by decide) (by decide)
      have z1_S44 := hF2.1 1 (by decide)
      have z3_S44 := hF2.1 3 (by decide)
      have z4_S44 := hF2.1 4 (by decide)
      have z5_S44 := hF2.1 5 (by decide)
      have z6_S44 := hF2.1 6 (by decide)
      have z7_S44 := hF2.1 7 (by decide)
      have z8_S44 := hF2.1 8 (by decide)
      have z9_S44 := hF2.1 9 (by decide)
      have z10_S44 := hF2.1 10 (by decide)
      have z11_S44 := hF2.1 11 (by decide)
      have z12_S44 := hF2.1 12 (by decide)
      have z20_S44 := hF2.1 20 (by decide)
      have f1_S44 := hF2.2.1 1 (by decide)
      have f1a_S44 := Fr_fa hF2 1 (by decide)
      have f2_S44 := hF2.2.1 2 (by decide)
      have f2a_S44 := Fr_fa hF2 2 (by decide)
      have f5_S44 := hF2.2.1 5 (by decide)
      have f5a_S44 := Fr_fa hF2 5 (by decide)
      have f7_S44 := hF2.2.1 7 (by decide)
      have f7a_S44 := Fr_fa hF2 7 (by decide)
      have f8_S44 := hF2.2.1 8 (by decide)
      have f8a_S44 := Fr_fa hF2 8 (by decide)
      have f25_S44 := hF2.2.1 25 (by decide)
      have f25a_S44 := Fr_fa hF2 25 (by decide)
      have f35_S44 := hF2.2.1 35 (by decide)
      have f35a_S44 := Fr_fa hF2 35 (by decide)
      have f36_S44 := hF2.2.1 36 (by decide)
      have f36a_S44 := Fr_fa hF2 36 (by decide)
      have f45_S44 := hF2.2.1 45 (by decide)
      have f45a_S44 := Fr_fa hF2 45 (by decide)
      have f46_S44 := hF2.2.1 46 (by decide)
      have f46a_S44 := Fr_fa hF2 46 (by decide)
      have f47_S44 := hF2.2.1 47 (by decide)
      have f47a_S44 := Fr_fa hF2 47 (by decide)
      have f48_S44 := hF2.2.1 48 (by decide)
      have f48a_S44 := Fr_fa hF2 48 (by decide)
      have g3_S44 := hF2.2.2 3 (by decide)
      have g3a_S44 := Fr_ga hF2 3 (by decide)
      have g4_S44 := hF2.2.2 4 (by decide)
      have g4a_S44 := Fr_ga hF2 4 (by decide)
      have fw44 : FW0 nx S44 := FW0_7 (fun k hk => hF2.2.1 k (fun q => by rw [List.mem_singleton] at q; omega)) fw43
      clear hF2
      exact ⟨by (try clear h2 iJ249 nS43 mS43 oS43 fw43 nS44 mS44 oS44 fw44); (try clear j124); (try clear j249); (try clear hk82); (try clear hk126); grind -mbtc (splits := 20) (gen := 20) (ematch := 12) [QI, PI, BU, FG, KP, → QE_i, PTc_0, PW_0, PL_0, PL_a, PL_b, CE_in, B01, ix_int, → PI_ix, LG, WB_nf, WB_ad2, q_zz, q_za, q_zga, q_fza, q_fx, q_fga, q_gza, q_gfa, q_gx, q_zf1, q_zg1, q_ff, q_fg1, q_gf1, q_gg, ti_link, in1000, in2, in24, in24000, in4002], by refine ⟨?_, ?_⟩ <;> ((try clear j124); (try clear j249); (try clear hk82); (try clear hk126); grind (ematch := 12) (gen := 12) (splits := 15) [→ OH_no, LQp_nf, Q2_nf, LQp_0, ti_link])⟩
  have j124 : ∀ (Sx : mS), (QE nx S Sx ∧ ((Sx.1 1) = 0 ∧ (Sx.1 5) = (S.1 5) ∧ KP S Sx)) ∧ (Q2 nx Sx ∧ OH nx S Sx) → wp_program_124 (fun S1 r => ((S1.1 1) = 0 ∧ CE ((S1.2.1 8)) ∧ CE ((S1.2.1 7)) ∧ B01 (S1.1 20) ∧ (r = 0 → (S1.1 5).toInt = nx ∧ FG S1) ∧ (¬ r = 0 → (S1.1 5) = (S.1 5) ∧ KP S S1)) ∧ ((r = 0 → FW0 nx S1) ∧ (¬ r = 0 → OH nx S S1))) Sx := by
    intro Sx hJ124
    unfold wp_program_124
    obtain ⟨hJ124, iJ124⟩ := hJ124
    obtain ⟨⟨n, so, pl, wo, ws, hq9⟩, hE9⟩ := hJ124
    refine it_rule (fun u : Int32 × mS => (PI nx n so pl wo ws u.2 ∧ PL nx n (u.2.1 11) ((u.2.2.1 46)) ((u.2.2.1 48)) ∧ 0 ≤ (u.2.1 11).toInt ∧ (u.2.1 11).toInt ≤ 1000 ∧ CE ((u.2.2.1 8)) ∧ CE ((u.2.2.1 7)) ∧ B01 (u.2.1 20) ∧ 0 ≤ ((u.2.2.1 5) nx).toInt ∧ ((u.2.2.1 5) nx).toInt ≤ 12 ∧ 12000 * nx ≤ (u.2.1 7).toInt ∧ (u.2.1 7).toInt ≤ 12000 * nx + 12000 ∧ (u.2.1 8).toInt ≤ 12000 * nx + 12000 ∧ (u.2.1 9).toInt ≤ 500 * nx + 500 ∧ (u.2.1 10).toInt ≤ 500 * nx + 500 ∧ (u.2.1 1) = 0 ∧ (u.2.1 5) = (S.1 5) ∧ KP S u.2 ∧ 0 ≤ u.1.toInt ∧ u.1.toInt ≤ (u.2.1 11).toInt) ∧ (LQp nx u.1.toInt u.2 ∧ OH nx S u.2)) (fun u => ((u.2.1 11).toInt - u.1.toInt).toNat) ?_ (⟨by (try clear h2 iJ124 n so pl wo ws hq9); (try clear j124); (try clear j249); (try clear hk82); (try clear hk126); grind -mbtc (splits := 20) (gen := 20) (ematch := 12) [QI, PI, BU, FG, KP, → QE_i, PTc_0, PW_0, PL_0, PL_a, PL_b, CE_in, B01, ix_int, → PI_ix, LG, WB_nf, WB_ad2, q_zz, q_za, q_zga, q_fza, q_fx, q_fga, q_gza, q_gfa, q_gx, q_zf1, q_zg1, q_ff, q_fg1, q_gf1, q_gg, ti_link, in1000, in2, in24, in24000, in4002], by refine ⟨?_, ?_⟩ <;> ((try clear j124); (try clear j249); (try clear hk82); (try clear hk126); grind (ematch := 12) (gen := 12) (splits := 15) [→ OH_no, LQp_nf, Q2_nf, LQp_0, ti_link])⟩)
    rintro ⟨x1, Sl126⟩ k126 hI126 hk126
    replace hI126 : (PI nx n so pl wo ws Sl126 ∧ PL nx n (Sl126.1 11) ((Sl126.2.1 46)) ((Sl126.2.1 48)) ∧ 0 ≤ (Sl126.1 11).toInt ∧ (Sl126.1 11).toInt ≤ 1000 ∧ CE ((Sl126.2.1 8)) ∧ CE ((Sl126.2.1 7)) ∧ B01 (Sl126.1 20) ∧ 0 ≤ ((Sl126.2.1 5) nx).toInt ∧ ((Sl126.2.1 5) nx).toInt ≤ 12 ∧ 12000 * nx ≤ (Sl126.1 7).toInt ∧ (Sl126.1 7).toInt ≤ 12000 * nx + 12000 ∧ (Sl126.1 8).toInt ≤ 12000 * nx + 12000 ∧ (Sl126.1 9).toInt ≤ 500 * nx + 500 ∧ (Sl126.1 10).toInt ≤ 500 * nx + 500 ∧ (Sl126.1 1) = 0 ∧ (Sl126.1 5) = (S.1 5) ∧ KP S Sl126 ∧ 0 ≤ x1.toInt ∧ x1.toInt ≤ (Sl126.1 11).toInt) ∧ (LQp nx x1.toInt Sl126 ∧ OH nx S Sl126) := hI126
    replace hk126 : ∀ v : Int32 × mS, (PI nx n so pl wo ws v.2 ∧ PL nx n (v.2.1 11) ((v.2.2.1 46)) ((v.2.2.1 48)) ∧ 0 ≤ (v.2.1 11).toInt ∧ (v.2.1 11).toInt ≤ 1000 ∧ CE ((v.2.2.1 8)) ∧ CE ((v.2.2.1 7)) ∧ B01 (v.2.1 20) ∧ 0 ≤ ((v.2.2.1 5) nx).toInt ∧ ((v.2.2.1 5) nx).toInt ≤ 12 ∧ 12000 * nx ≤ (v.2.1 7).toInt ∧ (v.2.1 7).toInt ≤ 12000 * nx + 12000 ∧ (v.2.1 8).toInt ≤ 12000 * nx + 12000 ∧ (v.2.1 9).toInt ≤ 500 * nx + 500 ∧ (v.2.1 10).toInt ≤ 500 * nx + 500 ∧ (v.2.1 1) = 0 ∧ (v.2.1 5) = (S.1 5) ∧ KP S v.2 ∧ 0 ≤ v.1.toInt ∧ v.1.toInt ≤ (v.2.1 11).toInt) ∧ (LQp nx v.1.toInt v.2 ∧ OH nx S v.2) → ((v.2.1 11).toInt - v.1.toInt).toNat < ((Sl126.1 11).toInt - x1.toInt).toNat → k126 v := hk126
    show wp_program_126 _ k126 x1 Sl126
    unfold wp_program_126
    obtain ⟨hI126, iI126⟩ := hI126
    have fw9 : (Sl126.1 11) ≤ x1 → (Sl126.1 4) = 0 → FW0 nx Sl126 := fun h1 h2 => FW0_i iI126.1 h2 (by (try clear h2 iJ124 n so pl wo ws hq9 iI126); (try clear j124); (try clear j249); (try clear hk82); (try clear hk126); grind -mbtc (splits := 20) (gen := 20) (ematch := 12) [QI, PI, BU, FG, KP, → QE_i, PTc_0, PW_0, PL_0, PL_a, PL_b, CE_in, B01, ix_int, → PI_ix, LG, WB_nf, WB_ad2, q_zz, q_za, q_zga, q_fza, q_fx, q_fga, q_gza, q_gfa, q_gx, q_zf1, q_zg1, q_ff, q_fg1, q_gf1, q_gg, ti_link, in1000, in2, in24, in24000, in4002]) (by (try clear h2 iJ124 n so pl wo ws hq9 iI126); (try clear j124); (try clear j249); (try clear hk82); (try clear hk126); grind -mbtc (splits := 20) (gen := 20) (ematch := 12) [QI, PI, BU, FG, KP, → QE_i, PTc_0, PW_0, PL_0, PL_a, PL_b, CE_in, B01, ix_int, → PI_ix, LG, WB_nf, WB_ad2, q_zz, q_za, q_zga, q_fza, q_fx, q_fga, q_gza, q_gfa, q_gx, q_zf1, q_zg1, q_ff, q_fg1, q_gf1, q_gg, ti_link, in1000, in2, in24, in24000, in4002])
    refine ⟨fun c3 => ?_, fun c3 => ?_⟩
    · exact j249 _ (⟨by (try clear h2 iJ124 n so pl wo ws hq9 iI126 fw9); (try clear j124); (try clear j249); (try clear hk82); (try clear hk126); grind -mbtc (splits := 20) (gen := 20) (ematch := 12) [QI, PI, BU, FG, KP, → QE_i, PTc_0, PW_0, PL_0, PL_a, PL_b, CE_in, B01, ix_int, → PI_ix, LG, WB_nf, WB_ad2, q_zz, q_za, q_zga, q_fza, q_fx, q_fga, q_gza, q_gfa, q_gx, q_zf1, q_zg1, q_ff, q_fg1, q_gf1, q_gg, ti_link, in1000, in2, in24, in24000, in4002], by refine ⟨?_, ?_⟩ <;> ((try clear j124); (try clear j249); (try clear hk82); (try clear hk126); grind (ematch := 12) (gen := 12) (splits := 15) [→ OH_no, LQp_nf, Q2_nf, LQp_0, ti_link])⟩)
    · refine ⟨fun c4 => ?_, fun c4 => ?_⟩
      · exact j249 _ (⟨by (try clear h2 iJ124 n so pl wo ws hq9 iI126 fw9); (try clear j124); (try clear j249); (try clear hk82); (try clear hk126); grind -mbtc (splits := 20) (gen := 20) (ematch := 12) [QI, PI, BU, FG, KP, → QE_i, PTc_0, PW_0, PL_0, PL_a, PL_b, CE_in, B01, ix_int, → PI_ix, LG, WB_nf, WB_ad2, q_zz, q_za, q_zga, q_fza, q_fx, q_fga, q_gza, q_gfa, q_gx, q_zf1, q_zg1, q_ff, q_fg1, q_gf1, q_gg, ti_link, in1000, in2, in24, in24000, in4002], by refine ⟨?_, ?_⟩ <;> ((try clear j124); (try clear j249); (try clear hk82); (try clear hk126); grind (ematch := 12) (gen := 12) (splits := 15) [→ OH_no, LQp_nf, Q2_nf, LQp_0, ti_link])⟩)
      · intro z24 ez24
        refine ⟨by (try clear h2 iJ124 n so pl wo ws hq9 iI126 fw9); (try clear j124); (try clear j249); (try clear hk82); (try clear hk126); grind -mbtc (splits := 20) (gen := 20) (ematch := 12) [QI, PI, BU, FG, KP, → QE_i, PTc_0, PW_0, PL_0, PL_a, PL_b, CE_in, B01, ix_int, → PI_ix, LG, WB_nf, WB_ad2, q_zz, q_za, q_zga, q_fza, q_fx, q_fga, q_gza, q_gfa, q_gx, q_zf1, q_zg1, q_ff, q_fg1, q_gf1, q_gg, ti_link, in1000, in2, in24, in24000, in4002], ?_⟩
        intro z25 ez25
        refine ⟨by (try clear h2 iJ124 n so pl wo ws hq9 iI126 fw9); (try clear j124); (try clear j249); (try clear hk82); (try clear hk126); grind -mbtc (splits := 20) (gen := 20) (ematch := 12) [QI, PI, BU, FG, KP, → QE_i, PTc_0, PW_0, PL_0, PL_a, PL_b, CE_in, B01, ix_int, → PI_ix, LG, WB_nf, WB_ad2, q_zz, q_za, q_zga, q_fza, q_fx, q_fga, q_gza, q_gfa, q_gx, q_zf1, q_zg1, q_ff, q_fg1, q_gf1, q_gg, ti_link, in1000, in2, in24, in24000, in4002], ?_⟩
        intro z26 ez26
        refine ⟨by (try clear h2 iJ124 n so pl wo ws hq9 iI126 fw9); (try clear j124); (try clear j249); (try clear hk82); (try clear hk126); grind -mbtc (splits := 20) (gen := 20) (ematch := 12) [QI, PI, BU, FG, KP, → QE_i, PTc_0, PW_0, PL_0, PL_a, PL_b, CE_in, B01, ix_int, → PI_ix, LG, WB_nf, WB_ad2, q_zz, q_za, q_zga, q_fza, q_fx, q_fga, q_gza, q_gfa, q_gx, q_zf1, q_zg1, q_ff, q_fg1, q_gf1, q_gg, ti_link, in1000, in2, in24, in24000, in4002], ?_⟩
        intro z27 ez27
        refine fm_find_r _ _ _ _ _ _ (fun S28 r28 hF5 pS28 => ?_) (sg_find_r _ _ _ (by (try clear h2 iJ124 n so pl wo ws hq9 iI126 fw9); (try clear j124); (try clear j249); (try clear hk82); (try clear hk126); grind -mbtc (splits := 20) (gen := 20) (ematch := 12) [QI, PI, BU, FG, KP, → QE_i, PTc_0, PW_0, PL_0, PL_a, PL_b, CE_in, B01, ix_int, → PI_ix, LG, WB_nf, WB_ad2, q_zz, q_za, q_zga, q_fza, q_fx, q_fga, q_gza, q_gfa, q_gx, q_zf1, q_zg1, q_ff, q_fg1, q_gf1, q_gg, ti_link, in1000, in2, in24, in24000, in4002]))
        have fS28 : S28.1 4 = 0 → Sl126.1 4 = 0 := fun q => (hF5.1 4 (by decide)).symm.trans q
        have nS28 : NC Sl126 S28 := NC_fr hF5 (by decide) (by decide) fS28
        have mS28 : NA Sl126 S28 := NA_fr hF5 (by decide) (by decide) fS28
        have oS28 : NO nx Sl126 S28 := NO_fr hF5 (by decide) (by decide)
        have z1_S28 := hF5.1 1 (by decide)
        have z3_S28 := hF5.1 3 (by decide)
        have z4_S28 := hF5.1 4 (by decide)
        have z5_S28 := hF5.1 5 (by decide)
        have z6_S28 := hF5.1 6 (by decide)
        have z7_S28 := hF5.1 7 (by decide)
        have z8_S28 := hF5.1 8 (by decide)
        have z9_S28 := hF5.1 9 (by decide)
        have z10_S28 := hF5.1 10 (by decide)
        have z11_S28 := hF5.1 11 (by decide)
        have z12_S28 := hF5.1 12 (by decide)
        have z20_S28 := hF5.1 20 (by decide)
        have z22_S28 := hF5.1 22 (by decide)
        have z23_S28 := hF5.1 23 (by decide)
        have z24_S28 := hF5.1 24 (by decide)
        have z26_S28 := hF5.1 26 (by decide)
        have z27_S28 := hF5.1 27 (by decide)
        have z28_S28 := hF5.1 28 (by decide)
        have z29_S28 := hF5.1 29 (by decide)
        have z30_S28 := hF5.1 30 (by decide)
        have f1_S28 := hF5.2.1 1 (by decide)
        have f1a_S28 := Fr_fa hF5 1 (by decide)
        have f2_S28 := hF5.2.1 2 (by decide)
        have f2a_S28 := Fr_fa hF5 2 (by decide)
        have f5_S28 := hF5.2.1 5 (by decide)
        have f5a_S28 := Fr_fa hF5 5 (by decide)
        have f7_S28 := hF5.2.1 7 (by decide)
        have f7a_S28 := Fr_fa hF5 7 (by decide)
        have f8_S28 := hF5.2.1 8 (by decide)
        have f8a_S28 := Fr_fa hF5 8 (by decide)
        have f25_S28 := hF5.2.1 25 (by decide)
        have f25a_S28 := Fr_fa hF5 25 (by decide)
        have f35_S28 := hF5.2.1 35 (by decide)
        have f35a_S28 := Fr_fa hF5 35 (by decide)
        have f36_S28 := hF5.2.1 36 (by decide)
        have f36a_S28 := Fr_fa hF5 36 (by decide)
        have f45_S28 := hF5.2.1 45 (by decide)
        have f45a_S28 := Fr_fa hF5 45 (by decide)
        have f46_S28 := hF5.2.1 46 (by decide)
        have f46a_S28 := Fr_fa hF5 46 (by decide)
        have f47_S28 := hF5.2.1 47 (by decide)
        have f47a_S28 := Fr_fa hF5 47 (by decide)
        have f48_S28 := hF5.2.1 48 (by decide)
        have f48a_S28 := Fr_fa hF5 48 (by decide)
        have f78_S28 := hF5.2.1 78 (by decide)
        have f78a_S28 := Fr_fa hF5 78 (by decide)
        have g3_S28 := hF5.2.2 3 (by decide)
        have g3a_S28 := Fr_ga hF5 3 (by decide)
        have g4_S28 := hF5.2.2 4 (by decide)
        have g4a_S28 := Fr_ga hF5 4 (by decide)
        clear hF5
        refine ⟨by (try clear h2 iJ124 n so pl wo ws hq9 iI126 fw9 nS28 mS28 oS28); (try clear j124); (try clear j249); (try clear hk82); (try clear hk126); grind -mbtc (splits := 20) (gen := 20) (ematch := 12) [QI, PI, BU, FG, KP, → QE_i, PTc_0, PW_0, PL_0, PL_a, PL_b, CE_in, B01, ix_int, → PI_ix, LG, WB_nf, WB_ad2, q_zz, q_za, q_zga, q_fza, q_fx, q_fga, q_gza, q_gfa, q_gx, q_zf1, q_zg1, q_ff, q_fg1, q_gf1, q_gg, ti_link, in1000, in2, in24, in24000, in4002], ?_⟩
        intro z29 ez29
        intro S30 eS30
        have nS30 : NC S28 S30 := NC_z eS30 (by decide)
        have mS30 : NA S28 S30 := NA_z eS30 (by decide)
        have oS30 : NO nx S28 S30 := NO_z eS30
        have lS30 : LQp nx x1.toInt S30 := LQp_z eS30 (by rw [pS28.1]; exact iI126.1)
        refine ⟨fun c6 => ?_, fun c6 => ?_⟩
        · intro z32 ez32
          intro z33 ez33
          have  t33 : 0 ≤ r28.toInt ∧ z33.toInt = 12 * nx + r28.toInt := by (try clear h2 iJ124 n so pl wo ws hq9 iI126 fw9 nS28 mS28 oS28 nS30 mS30 oS30 lS30); (try clear j124); (try clear j249); (try clear hk82); (try clear hk126); grind -mbtc (splits := 20) (gen := 20) (ematch := 12) [QI, PI, BU, FG, KP, → QE_i, PTc_0, PW_0, PL_0, PL_a, PL_b, CE_in, B01, ix_int, → PI_ix, LG, WB_nf, WB_ad2, q_zz, q_za, q_zga, q_fza, q_fx, q_fga, q_gza, q_gfa, q_gx, q_zf1, q_zg1, q_ff, q_fg1, q_gf1, q_gg, ti_link, in1000, in2, in24, in24000, in4002]
          have  i33 : ix z33 = 12 * nx + ix r28 := by unfold ix; omega
          refine ⟨by (try clear h2 iJ124 n so pl wo ws hq9 iI126 fw9 nS28 mS28 oS28 nS30 mS30 oS30 lS30); (try clear j124); (try clear j249); (try clear hk82); (try clear hk126); grind -mbtc (splits := 20) (gen := 20) (ematch := 12) [QI, PI, BU, FG, KP, → QE_i, PTc_0, PW_0, PL_0, PL_a, PL_b, CE_in, B01, ix_int, → PI_ix, LG, WB_nf, WB_ad2, q_zz, q_za, q_zga, q_fza, q_fx, q_fga, q_gza, q_gfa, q_gx, q_zf1, q_zg1, q_ff, q_fg1, q_gf1, q_gg, ti_link, in1000, in2, in24, in24000, in4002], ?_⟩
          intro z34 ez34
          refine ⟨by (try clear h2 iJ124 n so pl wo ws hq9 iI126 fw9 nS28 mS28 oS28 nS30 mS30 oS30 lS30); (try clear j124); (try clear j249); (try clear hk82); (try clear hk126); grind -mbtc (splits := 20) (gen := 20) (ematch := 12) [QI, PI, BU, FG, KP, → QE_i, PTc_0, PW_0, PL_0, PL_a, PL_b, CE_in, B01, ix_int, → PI_ix, LG, WB_nf, WB_ad2, q_zz, q_za, q_zga, q_fza, q_fx, q_fga, q_gza, q_gfa, q_gx, q_zf1, q_zg1, q_ff, q_fg1, q_gf1, q_gg, ti_link, in1000, in2, in24, in24000, in4002], ?_⟩
          intro z35 ez35
          refine ⟨fun c7 => ?_, fun c7 => ?_⟩
          · refine ⟨by (try clear h2 iJ124 n so pl wo ws hq9 iI126 fw9 nS28 mS28 oS28 nS30 mS30 oS30 lS30); (try clear j124); (try clear j249); (try clear hk82); (try clear hk126); grind -mbtc (splits := 20) (gen := 20) (ematch := 12) [QI, PI, BU, FG, KP, → QE_i, PTc_0, PW_0, PL_0, PL_a, PL_b, CE_in, B01, ix_int, → PI_ix, LG, WB_nf, WB_ad2, q_zz, q_za, q_zga, q_fza, q_fx, q_fga, q_gza, q_gfa, q_gx, q_zf1, q_zg1, q_ff, q_fg1, q_gf1, q_gg, ti_link, in1000, in2, in24, in24000, in4002], ?_⟩
            intro z37 ez37
            refine ⟨by (try clear h2 iJ124 n so pl wo ws hq9 iI126 fw9 nS28 mS28 oS28 nS30 mS30 oS30 lS30); (try clear j124); (try clear j249); (try clear hk82); (try clear hk126); grind -mbtc (splits := 20) (gen := 20) (ematch := 12) [QI, PI, BU, FG, KP, → QE_i, PTc_0, PW_0, PL_0, PL_a, PL_b, CE_in, B01, ix_int, → PI_ix, LG, WB_nf, WB_ad2, q_zz, q_za, q_zga, q_fza, q_fx, q_fga, q_gza, q_gfa, q_gx, q_zf1, q_zg1, q_ff, q_fg1, q_gf1, q_gg, ti_link, in1000, in2, in24, in24000, in4002], ?_⟩
            intro S38 eS38
            have mS38 : NA S30 S38 := NA_f eS38 (by decide)
            have oS38 : NO nx S30 S38 := NO_f eS38 (nH_c (by decide) (by (try clear h2 iJ124 n so pl wo ws hq9 iI126 fw9 nS28 mS28 oS28 nS30 mS30 oS30 lS30 mS38); (try clear j124); (try clear j249); (try clear hk82); (try clear hk126); grind -mbtc (splits := 20) (gen := 20) (ematch := 12) [QI, PI, BU, FG, KP, → QE_i, PTc_0, PW_0, PL_0, PL_a, PL_b, CE_in, B01, ix_int, → PI_ix, LG, WB_nf, WB_ad2, q_zz, q_za, q_zga, q_fza, q_fx, q_fga, q_gza, q_gfa, q_gx, q_zf1, q_zg1, q_ff, q_fg1, q_gf1, q_gg, ti_link, in1000, in2, in24, in24000, in4002]))
            have lS38 : LQp nx (x1.toInt + 1) S38 := LQp_p eS38 ez37 (by (try clear h2 iJ124 n so pl wo ws hq9 iI126 fw9 nS28 mS28 oS28 nS30 mS30 oS30 lS30 mS38 oS38); (try clear j124); (try clear j249); (try clear hk82); (try clear hk126); grind -mbtc (splits := 20) (gen := 20) (ematch := 12) [QI, PI, BU, FG, KP, → QE_i, PTc_0, PW_0, PL_0, PL_a, PL_b, CE_in, B01, ix_int, → PI_ix, LG, WB_nf, WB_ad2, q_zz, q_za, q_zga, q_fza, q_fx, q_fga, q_gza, q_gfa, q_gx, q_zf1, q_zg1, q_ff, q_fg1, q_gf1, q_gg, ti_link, in1000, in2, in24, in24000, in4002]) (by (try clear h2 iJ124 n so pl wo ws hq9 iI126 fw9 nS28 mS28 oS28 nS30 mS30 oS30 lS30 mS38 oS38); (try clear j124); (try clear j249); (try clear hk82); (try clear hk126); grind -mbtc (splits := 20) (gen := 20) (ematch := 12) [QI, PI, BU, FG, KP, → QE_i, PTc_0, PW_0, PL_0, PL_a, PL_b, CE_in, B01, ix_int, → PI_ix, LG, WB_nf, WB_ad2, q_zz, q_za, q_zga, q_fza, q_fx, q_fga, q_gza, q_gfa, q_gx, q_zf1, q_zg1, q_ff, q_fg1, q_gf1, q_gg, ti_link, in1000, in2, in24, in24000, in4002]) (by (try clear h2 iJ124 n so pl wo ws hq9 iI126 fw9 nS28 mS28 oS28 nS30 mS30 oS30 lS30 mS38 oS38); (try clear j124); (try clear j249); (try clear hk82); (try clear hk126); grind -mbtc (splits := 20) (gen := 20) (ematch := 12) [QI, PI, BU, FG, KP, → QE_i, PTc_0, PW_0, PL_0, PL_a, PL_b, CE_in, B01, ix_int, → PI_ix, LG, WB_nf, WB_ad2, q_zz, q_za, q_zga, q_fza, q_fx, q_fga, q_gza, q_gfa, q_gx, q_zf1, q_zg1, q_ff, q_fg1, q_gf1, q_gg, ti_link, in1000, in2, in24, in24000, in4002]) lS30
            unfold wp_program_243
            intro z41 ez41
            exact hk126 _ (⟨by (try clear h2 iJ124 n so pl wo ws hq9 iI126 fw9 nS28 mS28 oS28 nS30 mS30 oS30 lS30 mS38 oS38 lS38); (try clear j124); (try clear j249); (try clear hk82); (try clear hk126); grind -mbtc (splits := 20) (gen := 20) (ematch := 12) [QI, PI, BU, FG, KP, → QE_i, PTc_0, PW_0, PL_0, PL_a, PL_b, CE_in, B01, ix_int, → PI_ix, LG, WB_nf, WB_ad2, q_zz, q_za, q_zga, q_fza, q_fx, q_fga, q_gza, q_gfa, q_gx, q_zf1, q_zg1, q_ff, q_fg1, q_gf1, q_gg, ti_link, in1000, in2, in24, in24000, in4002], by refine ⟨?_, ?_⟩ <;> ((try clear j124); (try clear j249); (try clear hk82); (try clear hk126); grind (ematch := 12) (gen := 12) (splits := 15) [→ OH_no, LQp_nf, Q2_nf, LQp_0, ti_link])⟩) (by (try clear h2 iJ124 n so pl wo ws hq9 iI126 fw9 nS28 mS28 oS28 nS30 mS30 oS30 lS30 mS38 oS38 lS38); (try clear j124); (try clear j249); (try clear hk82); (try clear hk126); grind -mbtc (splits := 20) (gen := 20) (ematch := 12) [QI, PI, BU, FG, KP, → QE_i, PTc_0, PW_0, PL_0, PL_a, PL_b, CE_in, B01, ix_int, → PI_ix, LG, WB_nf, WB_ad2, q_zz, q_za, q_zga, q_fza, q_fx, q_fga, q_gza, q_gfa, q_gx, q_zf1, q_zg1, q_ff, q_fg1, q_gf1, q_gg, ti_link, in1000, in2, in24, in24000, in4002])
          · refine fm_wrong _ _ _ _ (fun S39 hF8 pS39 => ?_) (sg_wrong (nx := nx) (n := n) (so := so) (pl := pl) (wo := wo) (ws := ws) _ (by (try clear h2 iJ124 n so pl wo ws hq9 iI126 fw9 nS28 mS28 oS28 nS30 mS30 oS30 lS30); (try clear j124); (try clear j249); (try clear hk82); (try clear hk126); grind -mbtc (splits := 20) (gen := 20) (ematch := 12) [QI, PI, BU, FG, KP, → QE_i, PTc_0, PW_0, PL_0, PL_a, PL_b, CE_in, B01, ix_int, → PI_ix, LG, WB_nf, WB_ad2, q_zz, q_za, q_zga, q_fza, q_fx, q_fga, q_gza, q_gfa, q_gx, q_zf1, q_zg1, q_ff, q_fg1, q_gf1, q_gg, ti_link, in1000, in2, in24, in24000, in4002]) (by (try clear h2 iJ124 n so pl wo ws hq9 iI126 fw9 nS28 mS28 oS28 nS30 mS30 oS30 lS30); (try clear j124); (try clear j249); (try clear hk82); (try clear hk126); grind -mbtc (splits := 20) (gen := 20) (ematch := 12) [QI, PI, BU, FG, KP, → QE_i, PTc_0, PW_0, PL_0, PL_a, PL_b, CE_in, B01, ix_int, → PI_ix, LG, WB_nf, WB_ad2, q_zz, q_za, q_zga, q_fza, q_fx, q_fga, q_gza, q_gfa, q_gx, q_zf1, q_zg1, q_ff, q_fg1, q_gf1, q_gg, ti_link, in1000, in2, in24, in24000, in4002]))
            have fS39 : S39.1 4 = 0 → S30.1 4 = 0 := by (try clear h2 iJ124 n so pl wo ws hq9 iI126 fw9 nS28 mS28 oS28 nS30 mS30 oS30 lS30); (try clear j124); (try clear j249); (try clear hk82); (try clear hk126); grind [ti_link]
            have nS39 : NC S30 S39 := NC_fr hF8 (by decide) (by decide) fS39
            have mS39 : NA S30 S39 := NA_fr hF8 (by decide) (by decide) fS39
            have oS39 : NO nx S30 S39 := NO_fr hF8 (by decide) (by decide)
            have z1_S39 := hF8.1 1 (by decide)
            have z3_S39 := hF8.1 3 (by decide)
            have z5_S39 := hF8.1 5 (by decide)
            have z6_S39 := hF8.1 6 (by decide)
            have z7_S39 := hF8.1 7 (by decide)
            have z8_S39 := hF8.1 8 (by decide)
            have z9_S39 := hF8.1 9 (by decide)
            have z10_S39 := hF8.1 10 (by decide)
            have z11_S39 := hF8.1 11 (by decide)
            have z12_S39 := hF8.1 12 (by decide)
            have z20_S39 := hF8.1 20 (by decide)
            have z22_S39 := hF8.1 22 (by decide)
            have z23_S39 := hF8.1 23 (by decide)
            have z24_S39 := hF8.1 24 (by decide)
            have z26_S39 := hF8.1 26 (by decide)
            have z27_S39 := hF8.1 27 (by decide)
            have z28_S39 := hF8.1 28 (by decide)
            have z29_S39 := hF8.1 29 (by decide)
            have z30_S39 := hF8.1 30 (by decide)
            have f1_S39 := hF8.2.1 1 (by decide)
            have f1a_S39 := Fr_fa hF8 1 (by decide)
            have f2_S39 := hF8.2.1 2 (by decide)
            have f2a_S39 := Fr_fa hF8 2 (by decide)
            have f5_S39 := hF8.2.1 5 (by decide)
            have f5a_S39 := Fr_fa hF8 5 (by decide)
            have f7_S39 := hF8.2.1 7 (by decide)
            have f7a_S39 := Fr_fa hF8 7 (by decide)
            have f8_S39 := hF8.2.1 8 (by decide)
            have f8a_S39 := Fr_fa hF8 8 (by decide)
            have f25_S39 := hF8.2.1 25 (by decide)
            have f25a_S39 := Fr_fa hF8 25 (by decide)
            have f35_S39 := hF8.2.1 35 (by decide)
            have f35a_S39 := Fr_fa hF8 35 (by decide)
            have f36_S39 := hF8.2.1 36 (by decide)
            have f36a_S39 := Fr_fa hF8 36 (by decide)
            have f45_S39 := hF8.2.1 45 (by decide)
            have f45a_S39 := Fr_fa hF8 45 (by decide)
            have f46_S39 := hF8.2.1 46 (by decide)
            have f46a_S39 := Fr_fa hF8 46 (by decide)
            have f47_S39 := hF8.2.1 47 (by decide)
            have f47a_S39 := Fr_fa hF8 47 (by decide)
            have f48_S39 := hF8.2.1 48 (by decide)
            have f48a_S39 := Fr_fa hF8 48 (by decide)
            have f78_S39 := hF8.2.1 78 (by decide)
            have f78a_S39 := Fr_fa hF8 78 (by decide)
            have g3_S39 := hF8.2.2 3 (by decide)
            have g3a_S39 := Fr_ga hF8 3 (by decide)
            have g4_S39 := hF8.2.2 4 (by decide)
            have g4a_S39 := Fr_ga hF8 4 (by decide)
            clear hF8
            unfold wp_program_243
            intro z41 ez41
            exact hk126 _ (⟨by (try clear h2 iJ124 n so pl wo ws hq9 iI126 fw9 nS28 mS28 oS28 nS30 mS30 oS30 lS30 nS39 mS39 oS39); (try clear j124); (try clear j249); (try clear hk82); (try clear hk126); grind -mbtc (splits := 20) (gen := 20) (ematch := 12) [QI, PI, BU, FG, KP, → QE_i, PTc_0, PW_0, PL_0, PL_a, PL_b, CE_in, B01, ix_int, → PI_ix, LG, WB_nf, WB_ad2, q_zz, q_za, q_zga, q_fza, q_fx, q_fga, q_gza, q_gfa, q_gx, q_zf1, q_zg1, q_ff, q_fg1, q_gf1, q_gg, ti_link, in1000, in2, in24, in24000, in4002], by refine ⟨?_, ?_⟩ <;> ((try clear j124); (try clear j249); (try clear hk82); (try clear hk126); grind (ematch := 12) (gen := 12) (splits := 15) [→ OH_no, LQp_nf, Q2_nf, LQp_0, ti_link])⟩) (by (try clear h2 iJ124 n so pl wo ws hq9 iI126 fw9 nS28 mS28 oS28 nS30 mS30 oS30 lS30 nS39 mS39 oS39); (try clear j124); (try clear j249); (try clear hk82); (try clear hk126); grind -mbtc (splits := 20) (gen := 20) (ematch := 12) [QI, PI, BU, FG, KP, → QE_i, PTc_0, PW_0, PL_0, PL_a, PL_b, CE_in, B01, ix_int, → PI_ix, LG, WB_nf, WB_ad2, q_zz, q_za, q_zga, q_fza, q_fx, q_fga, q_gza, q_gfa, q_gx, q_zf1, q_zg1, q_ff, q_fg1, q_gf1, q_gg, ti_link, in1000, in2, in24, in24000, in4002])
        · refine fm_wrong _ _ _ _ (fun S40 hF9 pS40 => ?_) (sg_wrong (nx := nx) (n := n) (so := so) (pl := pl) (wo := wo) (ws := ws) _ (by (try clear h2 iJ124 n so pl wo ws hq9 iI126 fw9 nS28 mS28 oS28 nS30 mS30 oS30 lS30); (try clear j124); (try clear j249); (try clear hk82); (try clear hk126); grind -mbtc (splits := 20) (gen := 20) (ematch := 12) [QI, PI, BU, FG, KP, → QE_i, PTc_0, PW_0, PL_0, PL_a, PL_b, CE_in, B01, ix_int, → PI_ix, LG, WB_nf, WB_ad2, q_zz, q_za, q_zga, q_fza, q_fx, q_fga, q_gza, q_gfa, q_gx, q_zf1, q_zg1, q_ff, q_fg1, q_gf1, q_gg, ti_link, in1000, in2, in24, in24000, in4002]) (by (try clear h2 iJ124 n so pl wo ws hq9 iI126 fw9 nS28 mS28 oS28 nS30 mS30 oS30 lS30); (try clear j124); (try clear j249); (try clear hk82); (try clear hk126); grind -mbtc (splits := 20) (gen := 20) (ematch := 12) [QI, PI, BU, FG, KP, → QE_i, PTc_0, PW_0, PL_0, PL_a, PL_b, CE_in, B01, ix_int, → PI_ix, LG, WB_nf, WB_ad2, q_zz, q_za, q_zga, q_fza, q_fx, q_fga, q_gza, q_gfa, q_gx, q_zf1, q_zg1, q_ff, q_fg1, q_gf1, q_gg, ti_link, in1000, in2, in24, in24000, in4002]))
          have fS40 : S40.1 4 = 0 → S30.1 4 = 0 := by (try clear h2 iJ124 n so pl wo ws hq9 iI126 fw9 nS28 mS28 oS28 nS30 mS30 oS30 lS30); (try clear j124); (try clear j249); (try clear hk82); (try clear hk126); grind [ti_link]
          have nS40 : NC S30 S40 := NC_fr hF9 (by decide) (by decide) fS40
          have mS40 : NA S30 S40 := NA_fr hF9 (by decide) (by decide) fS40
          have oS40 : NO nx S30 S40 := NO_fr hF9 (by decide) (by decide)
          have z1_S40 := hF9.1 1 (by decide)
          have z3_S40 := hF9.1 3 (by decide)
          have z5_S40 := hF9.1 5 (by decide)
          have z6_S40 := hF9.1 6 (by decide)
          have z7_S40 := hF9.1 7 (by decide)
          have z8_S40 := hF9.1 8 (by decide)
          have z9_S40 := hF9.1 9 (by decide)
          have z10_S40 := hF9.1 10 (by decide)
          have z11_S40 := hF9.1 11 (by decide)
          have z12_S40 := hF9.1 12 (by decide)
          have z20_S40 := hF9.1 20 (by decide)
          have z22_S40 := hF9.1 22 (by decide)
          have z23_S40 := hF9.1 23 (by decide)
          have z24_S40 := hF9.1 24 (by decide)
          have z26_S40 := hF9.1 26 (by decide)
          have z27_S40 := hF9.1 27 (by decide)
          have z28_S40 := hF9.1 28 (by decide)
          have z29_S40 := hF9.1 29 (by decide)
          have z30_S40 := hF9.1 30 (by decide)
          have f1_S40 := hF9.2.1 1 (by decide)
          have f1a_S40 := Fr_fa hF9 1 (by decide)
          have f2_S40 := hF9.2.1 2 (by decide)
          have f2a_S40 := Fr_fa hF9 2 (by decide)
          have f5_S40 := hF9.2.1 5 (by decide)
          have f5a_S40 := Fr_fa hF9 5 (by decide)
          have f7_S40 := hF9.2.1 7 (by decide)
          have f7a_S40 := Fr_fa hF9 7 (by decide)
          have f8_S40 := hF9.2.1 8 (by decide)
          have f8a_S40 := Fr_fa hF9 8 (by decide)
          have f25_S40 := hF9.2.1 25 (by decide)
          have f25a_S40 := Fr_fa hF9 25 (by decide)
          have f35_S40 := hF9.2.1 35 (by decide)
          have f35a_S40 := Fr_fa hF9 35 (by decide)
          have f36_S40 := hF9.2.1 36 (by decide)
          have f36a_S40 := Fr_fa hF9 36 (by decide)
          have f45_S40 := hF9.2.1 45 (by decide)
          have f45a_S40 := Fr_fa hF9 45 (by decide)
          have f46_S40 := hF9.2.1 46 (by decide)
          have f46a_S40 := Fr_fa hF9 46 (by decide)
          have f47_S40 := hF9.2.1 47 (by decide)
          have f47a_S40 := Fr_fa hF9 47 (by decide)
          have f48_S40 := hF9.2.1 48 (by decide)
          have f48a_S40 := Fr_fa hF9 48 (by decide)
          have f78_S40 := hF9.2.1 78 (by decide)
          have f78a_S40 := Fr_fa hF9 78 (by decide)
          have g3_S40 := hF9.2.2 3 (by decide)
          have g3a_S40 := Fr_ga hF9 3 (by decide)
          have g4_S40 := hF9.2.2 4 (by decide)
          have g4a_S40 := Fr_ga hF9 4 (by decide)
          clear hF9
          unfold wp_program_243
          intro z41 ez41
          exact hk126 _ (⟨by (try clear h2 iJ124 n so pl wo ws hq9 iI126 fw9 nS28 mS28 oS28 nS30 mS30 oS30 lS30 nS40 mS40 oS40); (try clear j124); (try clear j249); (try clear hk82); (try clear hk126); grind -mbtc (splits := 20) (gen := 20) (ematch := 12) [QI, PI, BU, FG, KP, → QE_i, PTc_0, PW_0, PL_0, PL_a, PL_b, CE_in, B01, ix_int, → PI_ix, LG, WB_nf, WB_ad2, q_zz, q_za, q_zga, q_fza, q_fx, q_fga, q_gza, q_gfa, q_gx, q_zf1, q_zg1, q_ff, q_fg1, q_gf1, q_gg, ti_link, in1000, in2, in24, in24000, in4002], by refine ⟨?_, ?_⟩ <;> ((try clear j124); (try clear j249); (try clear hk82); (try clear hk126); grind (ematch := 12) (gen := 12) (splits := 15) [→ OH_no, LQp_nf, Q2_nf, LQp_0, ti_link])⟩) (by (try clear h2 iJ124 n so pl wo ws hq9 iI126 fw9 nS28 mS28 oS28 nS30 mS30 oS30 lS30 nS40 mS40 oS40); (try clear j124); (try clear j249); (try clear hk82); (try clear hk126); grind -mbtc (splits := 20) (gen := 20) (ematch := 12) [QI, PI, BU, FG, KP, → QE_i, PTc_0, PW_0, PL_0, PL_a, PL_b, CE_in, B01, ix_int, → PI_ix, LG, WB_nf, WB_ad2, q_zz, q_za, q_zga, q_fza, q_fx, q_fga, q_gza, q_gfa, q_gx, q_zf1, q_zg1, q_ff, q_fg1, q_gf1, q_gg, ti_link, in1000, in2, in24, in24000, in4002])
  intro S1 eS1
  have nS1 : NC S S1 := NC_z eS1 (by decide)
  have mS1 : NA S S1 := NA_z eS1 (by decide)
  have oS1 : NO nx S S1 := NO_z eS1
  refine fm_cutAll _ _ _ (fun S2 hF10 pS2 => ?_) (sg_cutAll (m := m) (by (try clear h2 nS1 mS1 oS1); (try clear j124); (try clear j249); (try clear hk82); (try clear hk126); grind -mbtc (splits := 20) (gen := 20) (ematch := 12) [QI, PI, BU, FG, KP, → QE_i, PTc_0, PW_0, PL_0, PL_a, PL_b, CE_in, B01, ix_int, → PI_ix, LG, WB_nf, WB_ad2, q_zz, q_za, q_zga, q_fza, q_fx, q_fga, q_gza, q_gfa, q_gx, q_zf1, q_zg1, q_ff, q_fg1, q_gf1, q_gg, ti_link, in1000, in2, in24, in24000, in4002]) (by (try clear h2 nS1 mS1 oS1); (try clear j124); (try clear j249); (try clear hk82); (try clear hk126); grind -mbtc (splits := 20) (gen := 20) (ematch := 12) [QI, PI, BU, FG, KP, → QE_i, PTc_0, PW_0, PL_0, PL_a, PL_b, CE_in, B01, ix_int, → PI_ix, LG, WB_nf, WB_ad2, q_zz, q_za, q_zga, q_fza, q_fx, q_fga, q_gza, q_gfa, q_gx, q_zf1, q_zg1, q_ff, q_fg1, q_gf1, q_gg, ti_link, in1000, in2, in24, in24000, in4002]))
  have oS2 : NO nx S1 S2 := NO_fr hF10 (by decide) (by decide)
  have z5_S2 := hF10.1 5 (by decide)
  have z6_S2 := hF10.1 6 (by decide)
  have z7_S2 := hF10.1 7 (by decide)
  have z8_S2 := hF10.1 8 (by decide)
  have z9_S2 := hF10.1 9 (by decide)
  have z10_S2 := hF10.1 10 (by decide)
  have z11_S2 := hF10.1 11 (by decide)
  have z12_S2 := hF10.1 12 (by decide)
  have z20_S2 := hF10.1 20 (by decide)
  have z22_S2 := hF10.1 22 (by decide)
  have z23_S2 := hF10.1 23 (by decide)
  have z24_S2 := hF10.1 24 (by decide)
  have z26_S2 := hF10.1 26 (by decide)
  have z27_S2 := hF10.1 27 (by decide)
  have z28_S2 := hF10.1 28 (by decide)
  have z29_S2 := hF10.1 29 (by decide)
  have z30_S2 := hF10.1 30 (by decide)
  have f5_S2 := hF10.2.1 5 (by decide)
  have f5a_S2 := Fr_fa hF10 5 (by decide)
  have f7_S2 := hF10.2.1 7 (by decide)
  have f7a_S2 := Fr_fa hF10 7 (by decide)
  have f8_S2 := hF10.2.1 8 (by decide)
  have f8a_S2 := Fr_fa hF10 8 (by decide)
  have f25_S2 := hF10.2.1 25 (by decide)
  have f25a_S2 := Fr_fa hF10 25 (by decide)
  have f35_S2 := hF10.2.1 35 (by decide)
  have f35a_S2 := Fr_fa hF10 35 (by decide)
  have f36_S2 := hF10.2.1 36 (by decide)
  have f36a_S2 := Fr_fa hF10 36 (by decide)
  have f45_S2 := hF10.2.1 45 (by decide)
  have f45a_S2 := Fr_fa hF10 45 (by decide)
  have f46_S2 := hF10.2.1 46 (by decide)
  have f46a_S2 := Fr_fa hF10 46 (by decide)
  have f47_S2 := hF10.2.1 47 (by decide)
  have f47a_S2 := Fr_fa hF10 47 (by decide)
  have f48_S2 := hF10.2.1 48 (by decide)
  have f48a_S2 := Fr_fa hF10 48 (by decide)
  have f78_S2 := hF10.2.1 78 (by decide)
  have f78a_S2 := Fr_fa hF10 78 (by decide)
  have g4_S2 := hF10.2.2 4 (by decide)
  have g4a_S2 := Fr_ga hF10 4 (by decide)
  clear hF10
  have hw2 : WD (S2.2.2 4) := by (have q4 : S2.2.2 4 = S.2.2 4 := by (funext i; rw [g4_S2, eS1]; rfl)); rw [q4]; exact hw
  obtain ⟨n, hLX, hat, hfa, hta⟩ := pS2
  have hLG := LX_LG hLX hw2
  obtain ⟨so, hso⟩ : ∃ so : Nat → Int32, so = S2.2.1 1 := ⟨_, rfl⟩
  obtain ⟨pl, hpl⟩ : ∃ pl : Nat → Int32, pl = S2.2.1 2 := ⟨_, rfl⟩
  obtain ⟨wo, hwo⟩ : ∃ wo : Nat → Int64, wo = S2.2.2 3 := ⟨_, rfl⟩
  obtain ⟨ws, hws⟩ : ∃ ws : Nat → Int64, ws = S2.2.2 4 := ⟨_, rfl⟩
  rw [← hso, ← hpl, ← hwo, ← hws] at hLG
  have hTK : TK so pl wo ws (S2.2.1 1) (S2.2.1 2) (S2.2.2 3) (S2.2.2 4) := by rw [hso, hpl, hwo, hws]; exact TK_rf
  have hn4 : n ≤ 4000 := hLX.1
  have hL1 := hLG.1
  have hL2 := hLG.2
  clear hLG hLX hso hpl hwo hws hw2
  intro z3 ez3
  intro S4 eS4
  have nS4 : NC S2 S4 := NC_z eS4 (by decide)
  have mS4 : NA S2 S4 := NA_z eS4 (by decide)
  have oS4 : NO nx S2 S4 := NO_z eS4
  have  i6 : ix (S4.1 6) = nx := by
        have q : (S4.1 6).toInt = nx := by (try clear h2 nS1 mS1 oS1 oS2 nS4 mS4 oS4); (try clear j124); (try clear j249); (try clear hk82); (try clear hk126); grind -mbtc (splits := 20) (gen := 20) (ematch := 12) [QI, PI, BU, FG, KP, → QE_i, PTc_0, PW_0, PL_0, PL_a, PL_b, CE_in, B01, ix_int, → PI_ix, LG, WB_nf, WB_ad2, q_zz, q_za, q_zga, q_fza, q_fx, q_fga, q_gza, q_gfa, q_gx, q_zf1, q_zg1, q_ff, q_fg1, q_gf1, q_gg, ti_link, in1000, in2, in24, in24000, in4002]
        unfold ix
        omega
  refine ⟨by (try clear h2 nS1 mS1 oS1 oS2 nS4 mS4 oS4); (try clear j124); (try clear j249); (try clear hk82); (try clear hk126); grind -mbtc (splits := 20) (gen := 20) (ematch := 12) [QI, PI, BU, FG, KP, → QE_i, PTc_0, PW_0, PL_0, PL_a, PL_b, CE_in, B01, ix_int, → PI_ix, LG, WB_nf, WB_ad2, q_zz, q_za, q_zga, q_fza, q_fx, q_fga, q_gza, q_gfa, q_gx, q_zf1, q_zg1, q_ff, q_fg1, q_gf1, q_gg, ti_link, in1000, in2, in24, in24000, in4002], ?_⟩
  intro S5 eS5
  have nS5 : NC S4 S5 := NC_f eS5 (by decide)
  have mS5 : NA S4 S5 := NA_f eS5 (by decide)
  have oS5 : NO nx S4 S5 := NO_f eS5 (nH_5 (by (try clear h2 nS1 mS1 oS1 oS2 nS4 mS4 oS4 nS5 mS5); (try clear j124); (try clear j249); (try clear hk82); (try clear hk126); grind -mbtc (splits := 20) (gen := 20) (ematch := 12) [QI, PI, BU, FG, KP, → QE_i, PTc_0, PW_0, PL_0, PL_a, PL_b, CE_in, B01, ix_int, → PI_ix, LG, WB_nf, WB_ad2, q_zz, q_za, q_zga, q_fza, q_fx, q_fga, q_gza, q_gfa, q_gx, q_zf1, q_zg1, q_ff, q_fg1, q_gf1, q_gg, ti_link, in1000, in2, in24, in24000, in4002]))
  intro z6 ez6
  intro S7 eS7
  have mS7 : NA S5 S7 := NA_z eS7 (by decide)
  have oS7 : NO nx S5 S7 := NO_z eS7
  intro z8 ez8
  intro S9 eS9
  have nS9 : NC S7 S9 := NC_z eS9 (by decide)
  have oS9 : NO nx S7 S9 := NO_z eS9
  intro z10 ez10
  intro S11 eS11
  have nS11 : NC S9 S11 := NC_z eS11 (by decide)
  have oS11 : NO nx S9 S11 := NO_z eS11
  intro z12 ez12
  intro S13 eS13
  have nS13 : NC S11 S13 := NC_z eS13 (by decide)
  have oS13 : NO nx S11 S13 := NO_z eS13
  intro S14 eS14
  have mS14 : NA S13 S14 := NA_z eS14 (by decide)
  have oS14 : NO nx S13 S14 := NO_z eS14
  have q14 : Q2 nx S14 := Q2_0 (by (try clear h2 nS1 mS1 oS1 oS2 nS4 mS4 oS4 nS5 mS5 oS5 mS7 oS7 nS9 oS9 nS11 oS11 nS13 oS13 mS14 oS14); (try clear j124); (try clear j249); (try clear hk82); (try clear hk126); grind -mbtc (splits := 20) (gen := 20) (ematch := 12) [QI, PI, BU, FG, KP, → QE_i, PTc_0, PW_0, PL_0, PL_a, PL_b, CE_in, B01, ix_int, → PI_ix, LG, WB_nf, WB_ad2, q_zz, q_za, q_zga, q_fza, q_fx, q_fga, q_gza, q_gfa, q_gx, q_zf1, q_zg1, q_ff, q_fg1, q_gf1, q_gg, ti_link, in1000, in2, in24, in24000, in4002]) (by (try clear h2 nS1 mS1 oS1 oS2 nS4 mS4 oS4 nS5 mS5 oS5 mS7 oS7 nS9 oS9 nS11 oS11 nS13 oS13 mS14 oS14); (try clear j124); (try clear j249); (try clear hk82); (try clear hk126); grind -mbtc (splits := 20) (gen := 20) (ematch := 12) [QI, PI, BU, FG, KP, → QE_i, PTc_0, PW_0, PL_0, PL_a, PL_b, CE_in, B01, ix_int, → PI_ix, LG, WB_nf, WB_ad2, q_zz, q_za, q_zga, q_fza, q_fx, q_fga, q_gza, q_gfa, q_gx, q_zf1, q_zg1, q_ff, q_fg1, q_gf1, q_gg, ti_link, in1000, in2, in24, in24000, in4002]) (by (try clear h2 nS1 mS1 oS1 oS2 nS4 mS4 oS4 nS5 mS5 oS5 mS7 oS7 nS9 oS9 nS11 oS11 nS13 oS13 mS14 oS14); (try clear j124); (try clear j249); (try clear hk82); (try clear hk126); grind -mbtc (splits := 20) (gen := 20) (ematch := 12) [QI, PI, BU, FG, KP, → QE_i, PTc_0, PW_0, PL_0, PL_a, PL_b, CE_in, B01, ix_int, → PI_ix, LG, WB_nf, WB_ad2, q_zz, q_za, q_zga, q_fza, q_fx, q_fga, q_gza, q_gfa, q_gx, q_zf1, q_zg1, q_ff, q_fg1, q_gf1, q_gg, ti_link, in1000, in2, in24, in24000, in4002]) (by (try clear h2 nS1 mS1 oS1 oS2 nS4 mS4 oS4 nS5 mS5 oS5 mS7 oS7 nS9 oS9 nS11 oS11 nS13 oS13 mS14 oS14); (try clear j124); (try clear j249); (try clear hk82); (try clear hk126); grind -mbtc (splits := 20) (gen := 20) (ematch := 12) [QI, PI, BU, FG, KP, → QE_i, PTc_0, PW_0, PL_0, PL_a, PL_b, CE_in, B01, ix_int, → PI_ix, LG, WB_nf, WB_ad2, q_zz, q_za, q_zga, q_fza, q_fx, q_fga, q_gza, q_gfa, q_gx, q_zf1, q_zg1, q_ff, q_fg1, q_gf1, q_gg, ti_link, in1000, in2, in24, in24000, in4002]) (by (try clear h2 nS1 mS1 oS1 oS2 nS4 mS4 oS4 nS5 mS5 oS5 mS7 oS7 nS9 oS9 nS11 oS11 nS13 oS13 mS14 oS14); (try clear j124); (try clear j249); (try clear hk82); (try clear hk126); grind -mbtc (splits := 20) (gen := 20) (ematch := 12) [QI, PI, BU, FG, KP, → QE_i, PTc_0, PW_0, PL_0, PL_a, PL_b, CE_in, B01, ix_int, → PI_ix, LG, WB_nf, WB_ad2, q_zz, q_za, q_zga, q_fza, q_fx, q_fga, q_gza, q_gfa, q_gx, q_zf1, q_zg1, q_ff, q_fg1, q_gf1, q_gg, ti_link, in1000, in2, in24, in24000, in4002]) (by (try clear h2 nS1 mS1 oS1 oS2 nS4 mS4 oS4 nS5 mS5 oS5 mS7 oS7 nS9 oS9 nS11 oS11 nS13 oS13 mS14 oS14); (try clear j124); (try clear j249); (try clear hk82); (try clear hk126); grind -mbtc (splits := 20) (gen := 20) (ematch := 12) [QI, PI, BU, FG, KP, → QE_i, PTc_0, PW_0, PL_0, PL_a, PL_b, CE_in, B01, ix_int, → PI_ix, LG, WB_nf, WB_ad2, q_zz, q_za, q_zga, q_fza, q_fx, q_fga, q_gza, q_gfa, q_gx, q_zf1, q_zg1, q_ff, q_fg1, q_gf1, q_gg, ti_link, in1000, in2, in24, in24000, in4002])
  have  w14 : WB nx pl 0 0 S14 := WB_0 hL1 (by (try clear h2 nS1 mS1 oS1 oS2 nS4 mS4 oS4 nS5 mS5 oS5 mS7 oS7 nS9 oS9 nS11 oS11 nS13 oS13 mS14 oS14 q14); (try clear j124); (try clear j249); (try clear hk82); (try clear hk126); grind -mbtc (splits := 20) (gen := 20) (ematch := 12) [QI, PI, BU, FG, KP, → QE_i, PTc_0, PW_0, PL_0, PL_a, PL_b, CE_in, B01, ix_int, → PI_ix, LG, WB_nf, WB_ad2, q_zz, q_za, q_zga, q_fza, q_fx, q_fga, q_gza, q_gfa, q_gx, q_zf1, q_zg1, q_ff, q_fg1, q_gf1, q_gg, ti_link, in1000, in2, in24, in24000, in4002]) (by (try clear h2 nS1 mS1 oS1 oS2 nS4 mS4 oS4 nS5 mS5 oS5 mS7 oS7 nS9 oS9 nS11 oS11 nS13 oS13 mS14 oS14 q14); (try clear j124); (try clear j249); (try clear hk82); (try clear hk126); grind -mbtc (splits := 20) (gen := 20) (ematch := 12) [QI, PI, BU, FG, KP, → QE_i, PTc_0, PW_0, PL_0, PL_a, PL_b, CE_in, B01, ix_int, → PI_ix, LG, WB_nf, WB_ad2, q_zz, q_za, q_zga, q_fza, q_fx, q_fga, q_gza, q_gfa, q_gx, q_zf1, q_zg1, q_ff, q_fg1, q_gf1, q_gg, ti_link, in1000, in2, in24, in24000, in4002]) (by (try clear h2 nS1 mS1 oS1 oS2 nS4 mS4 oS4 nS5 mS5 oS5 mS7 oS7 nS9 oS9 nS11 oS11 nS13 oS13 mS14 oS14 q14); (try clear j124); (try clear j249); (try clear hk82); (try clear hk126); grind -mbtc (splits := 20) (gen := 20) (ematch := 12) [QI, PI, BU, FG, KP, → QE_i, PTc_0, PW_0, PL_0, PL_a, PL_b, CE_in, B01, ix_int, → PI_ix, LG, WB_nf, WB_ad2, q_zz, q_za, q_zga, q_fza, q_fx, q_fga, q_gza, q_gfa, q_gx, q_zf1, q_zg1, q_ff, q_fg1, q_gf1, q_gg, ti_link, in1000, in2, in24, in24000, in4002])
  have oS14_ : OH nx S S14 := OH_no oS14 (OH_no oS13 (OH_no oS11 (OH_no oS9 (OH_no oS7 (OH_no oS5 (OH_no oS4 (OH_no oS2 (OH_no oS1 OH_rf))))))))
  refine it_rule (fun u : mS => (QI nx n so pl wo ws S 0 0 u ∧ (u.1 1) = 0 ∧ (u.1 5) = (S.1 5) ∧ KP S u) ∧ (Q2 nx u ∧ OH nx S u)) (fun u => (if (u.1 4) = 0 then (n : Int) - (u.1 3).toInt + 1 else 0).toNat) ?_ (⟨by (try clear h2 nS1 mS1 oS1 oS2 nS4 mS4 oS4 nS5 mS5 oS5 mS7 oS7 nS9 oS9 nS11 oS11 nS13 oS13 mS14 oS14 q14 oS14_); (try clear j124); (try clear j249); (try clear hk82); (try clear hk126); grind -mbtc (splits := 20) (gen := 20) (ematch := 12) [QI, PI, BU, FG, KP, → QE_i, PTc_0, PW_0, PL_0, PL_a, PL_b, CE_in, B01, ix_int, → PI_ix, LG, WB_nf, WB_ad2, q_zz, q_za, q_zga, q_fza, q_fx, q_fga, q_gza, q_gfa, q_gx, q_zf1, q_zg1, q_ff, q_fg1, q_gf1, q_gg, ti_link, in1000, in2, in24, in24000, in4002], by refine ⟨?_, ?_⟩ <;> ((try clear j124); (try clear j249); (try clear hk82); (try clear hk126); grind (ematch := 12) (gen := 12) (splits := 15) [→ OH_no, LQp_nf, Q2_nf, LQp_0, ti_link])⟩)
  rintro Sl82 k82 hI82 hk82
  replace hI82 : (QI nx n so pl wo ws S 0 0 Sl82 ∧ (Sl82.1 1) = 0 ∧ (Sl82.1 5) = (S.1 5) ∧ KP S Sl82) ∧ (Q2 nx Sl82 ∧ OH nx S Sl82) := hI82
  replace hk82 : ∀ v : mS, (QI nx n so pl wo ws S 0 0 v ∧ (v.1 1) = 0 ∧ (v.1 5) = (S.1 5) ∧ KP S v) ∧ (Q2 nx v ∧ OH nx S v) → (if (v.1 4) = 0 then (n : Int) - (v.1 3).toInt + 1 else 0).toNat < (if (Sl82.1 4) = 0 then (n : Int) - (Sl82.1 3).toInt + 1 else 0).toNat → k82 v := hk82
  show wp_program_82 _ k82  Sl82
  unfold wp_program_82
  obtain ⟨hI82, iI82⟩ := hI82
  refine ⟨fun c11 => ?_, fun c11 => ?_⟩
  · exact j124 _ (⟨by (try clear h2 nS1 mS1 oS1 oS2 nS4 mS4 oS4 nS5 mS5 oS5 mS7 oS7 nS9 oS9 nS11 oS11 nS13 oS13 mS14 oS14 q14 oS14_ iI82); (try clear j124); (try clear j249); (try clear hk82); (try clear hk126); grind -mbtc (splits := 20) (gen := 20) (ematch := 12) [QI, PI, BU, FG, KP, → QE_i, PTc_0, PW_0, PL_0, PL_a, PL_b, CE_in, B01, ix_int, → PI_ix, LG, WB_nf, WB_ad2, q_zz, q_za, q_zga, q_fza, q_fx, q_fga, q_gza, q_gfa, q_gx, q_zf1, q_zg1, q_ff, q_fg1, q_gf1, q_gg, ti_link, in1000, in2, in24, in24000, in4002], by refine ⟨?_, ?_⟩ <;> ((try clear j124); (try clear j249); (try clear hk82); (try clear hk126); grind (ematch := 12) (gen := 12) (splits := 15) [→ OH_no, LQp_nf, Q2_nf, LQp_0, ti_link])⟩)
  · refine ⟨by (try clear h2 nS1 mS1 oS1 oS2 nS4 mS4 oS4 nS5 mS5 oS5 mS7 oS7 nS9 oS9 nS11 oS11 nS13 oS13 mS14 oS14 q14 oS14_ iI82); (try clear j124); (try clear j249); (try clear hk82); (try clear hk126); grind -mbtc (splits := 20) (gen := 20) (ematch := 12) [QI, PI, BU, FG, KP, → QE_i, PTc_0, PW_0, PL_0, PL_a, PL_b, CE_in, B01, ix_int, → PI_ix, LG, WB_nf, WB_ad2, q_zz, q_za, q_zga, q_fza, q_fx, q_fga, q_gza, q_gfa, q_gx, q_zf1, q_zg1, q_ff, q_fg1, q_gf1, q_gg, ti_link, in1000, in2, in24, in24000, in4002], ?_⟩
    intro z16 ez16
    refine ⟨fun c12 => ?_, fun c12 => ?_⟩
    · exact j124 _ (⟨by (try clear h2 nS1 mS1 oS1 oS2 nS4 mS4 oS4 nS5 mS5 oS5 mS7 oS7 nS9 oS9 nS11 oS11 nS13 oS13 mS14 oS14 q14 oS14_ iI82); (try clear j124); (try clear j249); (try clear hk82); (try clear hk126); grind -mbtc (splits := 20) (gen := 20) (ematch := 12) [QI, PI, BU, FG, KP, → QE_i, PTc_0, PW_0, PL_0, PL_a, PL_b, CE_in, B01, ix_int, → PI_ix, LG, WB_nf, WB_ad2, q_zz, q_za, q_zga, q_fza, q_fx, q_fga, q_gza, q_gfa, q_gx, q_zf1, q_zg1, q_ff, q_fg1, q_gf1, q_gg, ti_link, in1000, in2, in24, in24000, in4002], by refine ⟨?_, ?_⟩ <;> ((try clear j124); (try clear j249); (try clear hk82); (try clear hk126); grind (ematch := 12) (gen := 12) (splits := 15) [→ OH_no, LQp_nf, Q2_nf, LQp_0, ti_link])⟩)
    · refine fm_isWord _ _ _ _ (fun S18 r18 hF13 pS18 => ?_) (sg_isWord (nx := nx) (n := n) (so := so) (pl := pl) (wo := wo) (ws := ws) _ (by (try clear h2 nS1 mS1 oS1 oS2 nS4 mS4 oS4 nS5 mS5 oS5 mS7 oS7 nS9 oS9 nS11 oS11 nS13 oS13 mS14 oS14 q14 oS14_ iI82); (try clear j124); (try clear j249); (try clear hk82); (try clear hk126); grind -mbtc (splits := 20) (gen := 20) (ematch := 12) [QI, PI, BU, FG, KP, → QE_i, PTc_0, PW_0, PL_0, PL_a, PL_b, CE_in, B01, ix_int, → PI_ix, LG, WB_nf, WB_ad2, q_zz, q_za, q_zga, q_fza, q_fx, q_fga, q_gza, q_gfa, q_gx, q_zf1, q_zg1, q_ff, q_fg1, q_gf1, q_gg, ti_link, in1000, in2, in24, in24000, in4002]) (by (try clear h2 nS1 mS1 oS1 oS2 nS4 mS4 oS4 nS5 mS5 oS5 mS7 oS7 nS9 oS9 nS11 oS11 nS13 oS13 mS14 oS14 q14 oS14_ iI82); (try clear j124); (try clear j249); (try clear hk82); (try clear hk126); grind -mbtc (splits := 20) (gen := 20) (ematch := 12) [QI, PI, BU, FG, KP, → QE_i, PTc_0, PW_0, PL_0, PL_a, PL_b, CE_in, B01, ix_int, → PI_ix, LG, WB_nf, WB_ad2, q_zz, q_za, q_zga, q_fza, q_fx, q_fga, q_gza, q_gfa, q_gx, q_zf1, q_zg1, q_ff, q_fg1, q_gf1, q_gg, ti_link, in1000, in2, in24, in24000, in4002]))
      have fS18 : S18.1 4 = 0 → Sl82.1 4 = 0 := fun q => (hF13.1 4 (by decide)).symm.trans q
      have nS18 : NC Sl82 S18 := NC_fr hF13 (by decide) (by decide) fS18
      have mS18 : NA Sl82 S18 := NA_fr hF13 (by decide) (by decide) fS18
      have oS18 : NO nx Sl82 S18 := NO_fr hF13 (by decide) (by decide)
      have z1_S18 := hF13.1 1 (by decide)
      have z3_S18 := hF13.1 3 (by decide)
      have z4_S18 := hF13.1 4 (by decide)
      have z5_S18 := hF13.1 5 (by decide)
      have z6_S18 := hF13.1 6 (by decide)
      have z7_S18 := hF13.1 7 (by decide)
      have z8_S18 := hF13.1 8 (by decide)
      have z9_S18 := hF13.1 9 (by decide)
      have z10_S18 := hF13.1 10 (by decide)
      have z11_S18 := hF13.1 11 (by decide)
      have z12_S18 := hF13.1 12 (by decide)
      have z20_S18 := hF13.1 20 (by decide)
      have z22_S18 := hF13.1 22 (by decide)
      have z23_S18 := hF13.1 23 (by decide)
      have z24_S18 := hF13.1 24 (by decide)
      have z26_S18 := hF13.1 26 (by decide)
      have z27_S18 := hF13.1 27 (by decide)
      have z28_S18 := hF13.1 28 (by decide)
      have z29_S18 := hF13.1 29 (by decide)
      have z30_S18 := hF13.1 30 (by decide)
      have f1_S18 := hF13.2.1 1 (by decide)
      have f1a_S18 := Fr_fa hF13 1 (by decide)
      have f2_S18 := hF13.2.1 2 (by decide)
      have f2a_S18 := Fr_fa hF13 2 (by decide)
      have f5_S18 := hF13.2.1 5 (by decide)
      have f5a_S18 := Fr_fa hF13 5 (by decide)
      have f7_S18 := hF13.2.1 7 (by decide)
      have f7a_S18 := Fr_fa hF13 7 (by decide)
      have f8_S18 := hF13.2.1 8 (by decide)
      have f8a_S18 := Fr_fa hF13 8 (by decide)
      have f25_S18 := hF13.2.1 25 (by decide)
      have f25a_S18 := Fr_fa hF13 25 (by decide)
      have f35_S18 := hF13.2.1 35 (by decide)
      have f35a_S18 := Fr_fa hF13 35 (by decide)
      have f36_S18 := hF13.2.1 36 (by decide)
      have f36a_S18 := Fr_fa hF13 36 (by decide)
      have f45_S18 := hF13.2.1 45 (by decide)
      have f45a_S18 := Fr_fa hF13 45 (by decide)
      have f46_S18 := hF13.2.1 46 (by decide)
      have f46a_S18 := Fr_fa hF13 46 (by decide)
      have f47_S18 := hF13.2.1 47 (by decide)
      have f47a_S18 := Fr_fa hF13 47 (by decide)
      have f48_S18 := hF13.2.1 48 (by decide)
      have f48a_S18 := Fr_fa hF13 48 (by decide)
      have f78_S18 := hF13.2.1 78 (by decide)
      have f78a_S18 := Fr_fa hF13 78 (by decide)
      have g3_S18 := hF13.2.2 3 (by decide)
      have g3a_S18 := Fr_ga hF13 3 (by decide)
      have g4_S18 := hF13.2.2 4 (by decide)
      have g4a_S18 := Fr_ga hF13 4 (by decide)
      clear hF13
      have  i0 : ix (0 : Int32) = 0 := rfl
      refine ⟨fun c14 => ?_, fun c14 => ?_⟩
      · refine fm_wrong _ _ _ _ (fun S20 hF15 pS20 => ?_) (sg_wrong (nx := nx) (n := n) (so := so) (pl := pl) (wo := wo) (ws := ws) _ (by (try clear h2 nS1 mS1 oS1 oS2 nS4 mS4 oS4 nS5 mS5 oS5 mS7 oS7 nS9 oS9 nS11 oS11 nS13 oS13 mS14 oS14 q14 oS14_ iI82 nS18 mS18 oS18); (try clear j124); (try clear j249); (try clear hk82); (try clear hk126); grind -mbtc (splits := 20) (gen := 20) (ematch := 12) [QI, PI, BU, FG, KP, → QE_i, PTc_0, PW_0, PL_0, PL_a, PL_b, CE_in, B01, ix_int, → PI_ix, LG, WB_nf, WB_ad2, q_zz, q_za, q_zga, q_fza, q_fx, q_fga, q_gza, q_gfa, q_gx, q_zf1, q_zg1, q_ff, q_fg1, q_gf1, q_gg, ti_link, in1000, in2, in24, in24000, in4002]) (by (try clear h2 nS1 mS1 oS1 oS2 nS4 mS4 oS4 nS5 mS5 oS5 mS7 oS7 nS9 oS9 nS11 oS11 nS13 oS13 mS14 oS14 q14 oS14_ iI82 nS18 mS18 oS18); (try clear j124); (try clear j249); (try clear hk82); (try clear hk126); grind -mbtc (splits := 20) (gen := 20) (ematch := 12) [QI, PI, BU, FG, KP, → QE_i, PTc_0, PW_0, PL_0, PL_a, PL_b, CE_in, B01, ix_int, → PI_ix, LG, WB_nf, WB_ad2, q_zz, q_za, q_zga, q_fza, q_fx, q_fga, q_gza, q_gfa, q_gx, q_zf1, q_zg1, q_ff, q_fg1, q_gf1, q_gg, ti_link, in1000, in2, in24, in24000, in4002]))
        have fS20 : S20.1 4 = 0 → S18.1 4 = 0 := by (try clear h2 nS1 mS1 oS1 oS2 nS4 mS4 oS4 nS5 mS5 oS5 mS7 oS7 nS9 oS9 nS11 oS11 nS13 oS13 mS14 oS14 q14 oS14_ iI82 nS18 mS18 oS18); (try clear j124); (try clear j249); (try clear hk82); (try clear hk126); grind [ti_link]
        have nS20 : NC S18 S20 := NC_fr hF15 (by decide) (by decide) fS20
        have mS20 : NA S18 S20 := NA_fr hF15 (by decide) (by decide) fS20
        have oS20 : NO nx S18 S20 := NO_fr hF15 (by decide) (by decide)
        have z1_S20 := hF15.1 1 (by decide)
        have z3_S20 := hF15.1 3 (by decide)
        have z5_S20 := hF15.1 5 (by decide)
        have z6_S20 := hF15.1 6 (by decide)
        have z7_S20 := hF15.1 7 (by decide)
        have z8_S20 := hF15.1 8 (by decide)
        have z9_S20 := hF15.1 9 (by decide)
        have z10_S20 := hF15.1 10 (by decide)
        have z11_S20 := hF15.1 11 (by decide)
        have z12_S20 := hF15.1 12 (by decide)
        have z20_S20 := hF15.1 20 (by decide)
        have z22_S20 := hF15.1 22 (by decide)
        have z23_S20 := hF15.1 23 (by decide)
        have z24_S20 := hF15.1 24 (by decide)
        have z26_S20 := hF15.1 26 (by decide)
        have z27_S20 := hF15.1 27 (by decide)
        have z28_S20 := hF15.1 28 (by decide)
        have z29_S20 := hF15.1 29 (by decide)
        have z30_S20 := hF15.1 30 (by decide)
        have f1_S20 := hF15.2.1 1 (by decide)
        have f1a_S20 := Fr_fa hF15 1 (by decide)
        have f2_S20 := hF15.2.1 2 (by decide)
        have f2a_S20 := Fr_fa hF15 2 (by decide)
        have f5_S20 := hF15.2.1 5 (by decide)
        have f5a_S20 := Fr_fa hF15 5 (by decide)
        have f7_S20 := hF15.2.1 7 (by decide)
        have f7a_S20 := Fr_fa hF15 7 (by decide)
        have f8_S20 := hF15.2.1 8 (by decide)
        have f8a_S20 := Fr_fa hF15 8 (by decide)
        have f25_S20 := hF15.2.1 25 (by decide)
        have f25a_S20 := Fr_fa hF15 25 (by decide)
        have f35_S20 := hF15.2.1 35 (by decide)
        have f35a_S20 := Fr_fa hF15 35 (by decide)
        have f36_S20 := hF15.2.1 36 (by decide)
        have f36a_S20 := Fr_fa hF15 36 (by decide)
        have f45_S20 := hF15.2.1 45 (by decide)
        have f45a_S20 := Fr_fa hF15 45 (by decide)
        have f46_S20 := hF15.2.1 46 (by decide)
        have f46a_S20 := Fr_fa hF15 46 (by decide)
        have f47_S20 := hF15.2.1 47 (by decide)
        have f47a_S20 := Fr_fa hF15 47 (by decide)
        have f48_S20 := hF15.2.1 48 (by decide)
        have f48a_S20 := Fr_fa hF15 48 (by decide)
        have f78_S20 := hF15.2.1 78 (by decide)
        have f78a_S20 := Fr_fa hF15 78 (by decide)
        have g3_S20 := hF15.2.2 3 (by decide)
        have g3a_S20 := Fr_ga hF15 3 (by decide)
        have g4_S20 := hF15.2.2 4 (by decide)
        have g4a_S20 := Fr_ga hF15 4 (by decide)
        clear hF15
        exact hk82 _ (⟨by (try clear h2 nS1 mS1 oS1 oS2 nS4 mS4 oS4 nS5 mS5 oS5 mS7 oS7 nS9 oS9 nS11 oS11 nS13 oS13 mS14 oS14 q14 oS14_ iI82 nS18 mS18 oS18 nS20 mS20 oS20); (try clear j124); (try clear j249); (try clear hk82); (try clear hk126); grind -mbtc (splits := 20) (gen := 20) (ematch := 12) [QI, PI, BU, FG, KP, → QE_i, PTc_0, PW_0, PL_0, PL_a, PL_b, CE_in, B01, ix_int, → PI_ix, LG, WB_nf, WB_ad2, q_zz, q_za, q_zga, q_fza, q_fx, q_fga, q_gza, q_gfa, q_gx, q_zf1, q_zg1, q_ff, q_fg1, q_gf1, q_gg, ti_link, in1000, in2, in24, in24000, in4002], by refine ⟨?_, ?_⟩ <;> ((try clear j124); (try clear j249); (try clear hk82); (try clear hk126); grind (ematch := 12) (gen := 12) (splits := 15) [→ OH_no, LQp_nf, Q2_nf, LQp_0, ti_link])⟩) (by (try clear h2 nS1 mS1 oS1 oS2 nS4 mS4 oS4 nS5 mS5 oS5 mS7 oS7 nS9 oS9 nS11 oS11 nS13 oS13 mS14 oS14 q14 oS14_ iI82 nS18 mS18 oS18 nS20 mS20 oS20); (try clear j124); (try clear j249); (try clear hk82); (try clear hk126); grind -mbtc (splits := 20) (gen := 20) (ematch := 12) [QI, PI, BU, FG, KP, → QE_i, PTc_0, PW_0, PL_0, PL_a, PL_b, CE_in, B01, ix_int, → PI_ix, LG, WB_nf, WB_ad2, q_zz, q_za, q_zga, q_fza, q_fx, q_fga, q_gza, q_gfa, q_gx, q_zf1, q_zg1, q_ff, q_fg1, q_gf1, q_gg, ti_link, in1000, in2, in24, in24000, in4002])
      · refine fm_toldRoutine _ _ _ (fun S21 hF16 pS21 => ?_) (sg_toldRoutine (nx := nx) (n := n) (so := so) (pl := pl) (wo := wo) (ws := ws) (S0 := S) (by (try clear h2 nS1 mS1 oS1 oS2 nS4 mS4 oS4 nS5 mS5 oS5 mS7 oS7 nS9 oS9 nS11 oS11 nS13 oS13 mS14 oS14 q14 oS14_ iI82 nS18 mS18 oS18); (try clear j124); (try clear j249); (try clear hk82); (try clear hk126); grind -mbtc (splits := 20) (gen := 20) (ematch := 12) [QI, PI, BU, FG, KP, → QE_i, PTc_0, PW_0, PL_0, PL_a, PL_b, CE_in, B01, ix_int, → PI_ix, LG, WB_nf, WB_ad2, q_zz, q_za, q_zga, q_fza, q_fx, q_fga, q_gza, q_gfa, q_gx, q_zf1, q_zg1, q_ff, q_fg1, q_gf1, q_gg, ti_link, in1000, in2, in24, in24000, in4002]) (by (try clear h2 nS1 mS1 oS1 oS2 nS4 mS4 oS4 nS5 mS5 oS5 mS7 oS7 nS9 oS9 nS11 oS11 nS13 oS13 mS14 oS14 q14 oS14_ iI82 nS18 mS18 oS18); (try clear j124); (try clear j249); (try clear hk82); (try clear hk126); grind -mbtc (splits := 20) (gen := 20) (ematch := 12) [QI, PI, BU, FG, KP, → QE_i, PTc_0, PW_0, PL_0, PL_a, PL_b, CE_in, B01, ix_int, → PI_ix, LG, WB_nf, WB_ad2, q_zz, q_za, q_zga, q_fza, q_fx, q_fga, q_gza, q_gfa, q_gx, q_zf1, q_zg1, q_ff, q_fg1, q_gf1, q_gg, ti_link, in1000, in2, in24, in24000, in4002]) (by (try clear j124); (try clear j249); (try clear hk82); (try clear hk126); grind (ematch := 12) (gen := 12) (splits := 15) [→ OH_no, LQp_nf, Q2_nf, LQp_0, ti_link]) (by (try clear j124); (try clear j249); (try clear hk82); (try clear hk126); grind (ematch := 12) (gen := 12) (splits := 15) [→ OH_no, LQp_nf, Q2_nf, LQp_0, ti_link]))
        obtain ⟨pS21, qS21⟩ := pS21
        have z1_S21 := hF16.1 1 (by decide)
        have z5_S21 := hF16.1 5 (by decide)
        have z6_S21 := hF16.1 6 (by decide)
        have z22_S21 := hF16.1 22 (by decide)
        have z23_S21 := hF16.1 23 (by decide)
        have z24_S21 := hF16.1 24 (by decide)
        have z26_S21 := hF16.1 26 (by decide)
        have z27_S21 := hF16.1 27 (by decide)
        have z28_S21 := hF16.1 28 (by decide)
        have z29_S21 := hF16.1 29 (by decide)
        have z30_S21 := hF16.1 30 (by decide)
        have f1_S21 := hF16.2.1 1 (by decide)
        have f1a_S21 := Fr_fa hF16 1 (by decide)
        have f2_S21 := hF16.2.1 2 (by decide)
        have f2a_S21 := Fr_fa hF16 2 (by decide)
        have f78_S21 := hF16.2.1 78 (by decide)
        have f78a_S21 := Fr_fa hF16 78 (by decide)
        have g3_S21 := hF16.2.2 3 (by decide)
        have g3a_S21 := Fr_ga hF16 3 (by decide)
        have g4_S21 := hF16.2.2 4 (by decide)
        have g4a_S21 := Fr_ga hF16 4 (by decide)
        clear hF16
        exact hk82 _ (⟨by (try clear h2 nS1 mS1 oS1 oS2 nS4 mS4 oS4 nS5 mS5 oS5 mS7 oS7 nS9 oS9 nS11 oS11 nS13 oS13 mS14 oS14 q14 oS14_ iI82 nS18 mS18 oS18 qS21); (try clear j124); (try clear j249); (try clear hk82); (try clear hk126); grind -mbtc (splits := 20) (gen := 20) (ematch := 12) [QI, PI, BU, FG, KP, → QE_i, PTc_0, PW_0, PL_0, PL_a, PL_b, CE_in, B01, ix_int, → PI_ix, LG, WB_nf, WB_ad2, q_zz, q_za, q_zga, q_fza, q_fx, q_fga, q_gza, q_gfa, q_gx, q_zf1, q_zg1, q_ff, q_fg1, q_gf1, q_gg, ti_link, in1000, in2, in24, in24000, in4002], by refine ⟨?_, ?_⟩ <;> ((try clear j124); (try clear j249); (try clear hk82); (try clear hk126); grind (ematch := 12) (gen := 12) (splits := 15) [→ OH_no, LQp_nf, Q2_nf, LQp_0, ti_link])⟩) (by (try clear h2 nS1 mS1 oS1 oS2 nS4 mS4 oS4 nS5 mS5 oS5 mS7 oS7 nS9 oS9 nS11 oS11 nS13 oS13 mS14 oS14 q14 oS14_ iI82 nS18 mS18 oS18 qS21); (try clear j124); (try clear j249); (try clear hk82); (try clear hk126); grind -mbtc (splits := 20) (gen := 20) (ematch := 12) [QI, PI, BU, FG, KP, → QE_i, PTc_0, PW_0, PL_0, PL_a, PL_b, CE_in, B01, ix_int, → PI_ix, LG, WB_nf, WB_ad2, q_zz, q_za, q_zga, q_fza, q_fx, q_fga, q_gza, q_gfa, q_gx, q_zf1, q_zg1, q_ff, q_fg1, q_gf1, q_gg, ti_link, in1000, in2, in24, in24000, in4002])
