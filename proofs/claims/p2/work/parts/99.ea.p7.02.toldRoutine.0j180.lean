
set_option maxHeartbeats 4000000 in
theorem sj180_toldRoutine {nx n : Nat} {so pl : Nat → Int32} {wo ws : Nat → Int64} {S0 : mS} {S : mS} (h : QI nx n so pl wo ws S0 0 0 S) (hf : (S.1 4) = 0 ∧ (S.1 3).toInt < n ∧ so (ix (S.1 3)) = 1 ∧ wo (ix (S.1 3)) = ws 0) (hQ : Q2 nx S) (hO : OH nx S0 S) {kL : LT3} (h6 : K6 kL) (hCD : CD nx kL (S.1 9).toInt (S.1 10).toInt S) (hAB : AB nx (12 * nx + ((S.2.1 5) nx).toInt) S) (hRL : RLs nx (12 * nx + ((S.2.1 5) nx).toInt) kL ((S.2.1 11))) : ∀ (x1 : Int32) (x2 : Int64) (Sx : mS), (QI nx n so pl wo ws S0 (-9) (-9) Sx ∧ x1.toInt = 12 * nx + ((Sx.2.1 5) nx).toInt ∧ ((Sx.2.1 5) nx).toInt < 12 ∧ ((Sx.1 4) = 0 → (S.1 4) = 0 ∧ (S.1 3).toInt < (Sx.1 3).toInt) ∧ (S.1 8).toInt ≤ (Sx.1 8).toInt ∧ (Sx.1 12) = x1 ∧ ((Sx.2.1 10) (ix x1)).toInt = 0) ∧ (CD nx kL (Sx.1 9).toInt (Sx.1 10).toInt Sx ∧ AB nx x1.toInt Sx ∧ OH nx S0 Sx ∧ RLs nx x1.toInt kL ((Sx.2.1 11))) → wp_toldRoutine_180 (fun S1 => (QI nx n so pl wo ws S0 0 0 S1 ∧ ((S1.1 4) = 0 → (S.1 4) = 0 ∧ (S.1 3).toInt < (S1.1 3).toInt) ∧ (S.1 8).toInt ≤ (S1.1 8).toInt) ∧ (Q2 nx S1 ∧ OH nx S0 S1)) x1 x2 Sx := by
  intro x1 x2 Sx hJ180
  unfold wp_toldRoutine_180
  obtain ⟨hJ180, iJ180⟩ := hJ180
  refine fm_takeSign _ _ _ _ (fun S31 hF1 pS31 => ?_) (sg_takeSign (nx := nx) (n := n) (so := so) (pl := pl) (wo := wo) (ws := ws) _ (by (try clear hQ hO h6 hCD hAB hRL iJ180); (try clear j180); (try clear j104); (try clear hk163); grind -mbtc (splits := 20) (gen := 20) (ematch := 12) [QI, SI, PT, WB_ad2, WB_ro, WB_s1, WB_nf, CE_up, CE_in, LA_i, LA_n, LA_p, OR1, B01, → PI_ix, ix_int, XI, PI, PJ, BU, LV, LA_i, q_zz, q_za, q_zga, q_fza, q_fx, q_fga, q_gza, q_gfa, q_gx, q_zf1, q_zg1, q_ff, q_fg1, q_gf1, q_gg, ti_link, in2, in24, in4002]))
  have fS31 : S31.1 4 = 0 → Sx.1 4 = 0 := by (try clear hQ hO h6 hCD hAB hRL iJ180); (try clear j180); (try clear j104); (try clear hk163); grind [ti_link]
  have nS31 : NC Sx S31 := NC_fr hF1 (by decide) (by decide) fS31
  have mS31 : NA Sx S31 := NA_fr hF1 (by decide) (by decide) fS31
  have oS31 : NO nx Sx S31 := NO_fr hF1 (by decide) (by decide)
  have z6_S31 := hF1.1 6 (by decide)
  have z7_S31 := hF1.1 7 (by decide)
  have z8_S31 := hF1.1 8 (by decide)
  have z9_S31 := hF1.1 9 (by decide)
  have z10_S31 := hF1.1 10 (by decide)
  have z11_S31 := hF1.1 11 (by decide)
  have z12_S31 := hF1.1 12 (by decide)
  have z13_S31 := hF1.1 13 (by decide)
  have z15_S31 := hF1.1 15 (by decide)
  have z17_S31 := hF1.1 17 (by decide)
  have z18_S31 := hF1.1 18 (by decide)
  have z19_S31 := hF1.1 19 (by decide)
  have z20_S31 := hF1.1 20 (by decide)
  have z5_S31 := hF1.1 5 (by decide)
  have z16_S31 := hF1.1 16 (by decide)
  have f1_S31 := hF1.2.1 1 (by decide)
  have f1a_S31 := Fr_fa hF1 1 (by decide)
  have f2_S31 := hF1.2.1 2 (by decide)
  have f2a_S31 := Fr_fa hF1 2 (by decide)
  have f8_S31 := hF1.2.1 8 (by decide)
  have f8a_S31 := Fr_fa hF1 8 (by decide)
  have f10_S31 := hF1.2.1 10 (by decide)
  have f10a_S31 := Fr_fa hF1 10 (by decide)
  have f25_S31 := hF1.2.1 25 (by decide)
  have f25a_S31 := Fr_fa hF1 25 (by decide)
  have f28_S31 := hF1.2.1 28 (by decide)
  have f28a_S31 := Fr_fa hF1 28 (by decide)
  have f35_S31 := hF1.2.1 35 (by decide)
  have f35a_S31 := Fr_fa hF1 35 (by decide)
  have f36_S31 := hF1.2.1 36 (by decide)
  have f36a_S31 := Fr_fa hF1 36 (by decide)
  have f45_S31 := hF1.2.1 45 (by decide)
  have f45a_S31 := Fr_fa hF1 45 (by decide)
  have f46_S31 := hF1.2.1 46 (by decide)
  have f46a_S31 := Fr_fa hF1 46 (by decide)
  have f48_S31 := hF1.2.1 48 (by decide)
  have f48a_S31 := Fr_fa hF1 48 (by decide)
  have f5_S31 := hF1.2.1 5 (by decide)
  have f5a_S31 := Fr_fa hF1 5 (by decide)
  have f7_S31 := hF1.2.1 7 (by decide)
  have f7a_S31 := Fr_fa hF1 7 (by decide)
  have f11_S31 := hF1.2.1 11 (by decide)
  have f11a_S31 := Fr_fa hF1 11 (by decide)
  have f22_S31 := hF1.2.1 22 (by decide)
  have f22a_S31 := Fr_fa hF1 22 (by decide)
  have f23_S31 := hF1.2.1 23 (by decide)
  have f23a_S31 := Fr_fa hF1 23 (by decide)
  have g3_S31 := hF1.2.2 3 (by decide)
  have g3a_S31 := Fr_ga hF1 3 (by decide)
  have g4_S31 := hF1.2.2 4 (by decide)
  have g4a_S31 := Fr_ga hF1 4 (by decide)
  clear hF1
  refine ⟨by (try clear hQ hO h6 hCD hAB hRL iJ180 nS31 mS31 oS31); (try clear j180); (try clear j104); (try clear hk163); grind -mbtc (splits := 20) (gen := 20) (ematch := 12) [QI, SI, PT, WB_ad2, WB_ro, WB_s1, WB_nf, CE_up, CE_in, LA_i, LA_n, LA_p, OR1, B01, → PI_ix, ix_int, XI, PI, PJ, BU, LV, LA_i, q_zz, q_za, q_zga, q_fza, q_fx, q_fga, q_gza, q_gfa, q_gx, q_zf1, q_zg1, q_ff, q_fg1, q_gf1, q_gg, ti_link, in2, in24, in4002], ?_⟩
  intro z32 ez32
  refine ⟨by (try clear hQ hO h6 hCD hAB hRL iJ180 nS31 mS31 oS31); (try clear j180); (try clear j104); (try clear hk163); grind -mbtc (splits := 20) (gen := 20) (ematch := 12) [QI, SI, PT, WB_ad2, WB_ro, WB_s1, WB_nf, CE_up, CE_in, LA_i, LA_n, LA_p, OR1, B01, → PI_ix, ix_int, XI, PI, PJ, BU, LV, LA_i, q_zz, q_za, q_zga, q_fza, q_fx, q_fga, q_gza, q_gfa, q_gx, q_zf1, q_zg1, q_ff, q_fg1, q_gf1, q_gg, ti_link, in2, in24, in4002], ?_⟩
  intro S33 eS33
  have nS33 : NC S31 S33 := NC_f eS33 (by decide)
  have mS33 : NA S31 S33 := NA_f eS33 (by decide)
  have oS33 : NO nx S31 S33 := NO_f eS33 (nH_r (by decide) (by (try clear hQ hO h6 hCD hAB hRL iJ180 nS31 mS31 oS31 nS33 mS33); (try clear j180); (try clear j104); (try clear hk163); grind -mbtc (splits := 20) (gen := 20) (ematch := 12) [QI, SI, PT, WB_ad2, WB_ro, WB_s1, WB_nf, CE_up, CE_in, LA_i, LA_n, LA_p, OR1, B01, → PI_ix, ix_int, XI, PI, PJ, BU, LV, LA_i, q_zz, q_za, q_zga, q_fza, q_fx, q_fga, q_gza, q_gfa, q_gx, q_zf1, q_zg1, q_ff, q_fg1, q_gf1, q_gg, ti_link, in2, in24, in4002]))
  have cS33 : CD nx kL (S33.1 9).toInt (S33.1 10).toInt S33 := by (try clear j180); (try clear j104); (try clear hk163); grind (ematch := 30) (gen := 40) (splits := 15) [→ CD_nc, → AB_na, → OH_no, CD_nf, Q2_nf, q_zz, q_za, q_zga, q_fza, q_fx, q_fga, q_gza, q_gfa, q_gx, q_zf1, q_zg1, q_ff, q_fg1, q_gf1, q_gg, ti_link]
  have rS33 : RLs nx x1.toInt kL ((S33.2.1 11)) := by (try clear j180); (try clear j104); (try clear hk163); grind (ematch := 30) (gen := 40) (splits := 15) [→ CD_nc, → AB_na, → OH_no, CD_nf, Q2_nf, q_zz, q_za, q_zga, q_fza, q_fx, q_fga, q_gza, q_gfa, q_gx, q_zf1, q_zg1, q_ff, q_fg1, q_gf1, q_gg, ti_link]
  have aS33 : AB nx x1.toInt S33 := by (try clear j180); (try clear j104); (try clear hk163); grind (ematch := 30) (gen := 40) (splits := 15) [→ CD_nc, → AB_na, → OH_no, CD_nf, Q2_nf, q_zz, q_za, q_zga, q_fza, q_fx, q_fga, q_gza, q_gfa, q_gx, q_zf1, q_zg1, q_ff, q_fg1, q_gf1, q_gg, ti_link]
  have  hm33 : 12 * nx ≤ x1.toInt ∧ x1.toInt < 12 * nx + 12 ∧ nx ≤ 1 ∧ 12000 * nx ≤ (S33.1 8).toInt ∧ (S33.1 8).toInt + 10 < 12000 * nx + 12000 ∧ 12000 * nx ≤ (S33.1 7).toInt ∧ (S33.1 7).toInt + 10 < 12000 * nx + 12000 ∧ (S33.1 12) = x1 ∧ ((S33.2.1 10) (ix x1)).toInt = 0 := by (try clear hQ hO h6 hCD hAB hRL iJ180 nS31 mS31 oS31 nS33 mS33 oS33 cS33 rS33 aS33); (try clear j180); (try clear j104); (try clear hk163); grind -mbtc (splits := 20) (gen := 20) (ematch := 12) [QI, SI, PT, WB_ad2, WB_ro, WB_s1, WB_nf, CE_up, CE_in, LA_i, LA_n, LA_p, OR1, B01, → PI_ix, ix_int, XI, PI, PJ, BU, LV, LA_i, q_zz, q_za, q_zga, q_fza, q_fx, q_fga, q_gza, q_gfa, q_gx, q_zf1, q_zg1, q_ff, q_fg1, q_gf1, q_gg, ti_link, in2, in24, in4002]
  refine ⟨fun c2 => ?_, fun c2 => ?_⟩
  · refine ⟨by (try clear hQ hO h6 hCD hAB hRL iJ180 nS31 mS31 oS31 nS33 mS33 oS33 cS33 rS33 aS33); (try clear j180); (try clear j104); (try clear hk163); (try clear h); (try clear hJ180); grind -mbtc (gen := 40) (ematch := 20) [OR1, q_zz, q_za, q_zga, q_fza, q_fx, q_fga, q_gza, q_gfa, q_gx, q_zf1, q_zg1, q_ff, q_fg1, q_gf1, q_gg, ti_link, in2, in24, in4002], ?_⟩
    intro S35 eS35
    have nS35 : NC S33 S35 := NC_f eS35 (by decide)
    have mS35 : NA S33 S35 := NA_f eS35 (by decide)
    have oS35 : NO nx S33 S35 := NO_f eS35 (nH_r (by decide) (by (try clear hQ hO h6 hCD hAB hRL iJ180 nS31 mS31 oS31 nS33 mS33 oS33 cS33 rS33 aS33 nS35 mS35); (try clear j180); (try clear j104); (try clear hk163); (try clear h); (try clear hJ180); grind -mbtc (gen := 40) (ematch := 20) [OR1, q_zz, q_za, q_zga, q_fza, q_fx, q_fga, q_gza, q_gfa, q_gx, q_zf1, q_zg1, q_ff, q_fg1, q_gf1, q_gg, ti_link, in2, in24, in4002]))
    have cS35 : CS nx ((ix x1, 6, (S35.1 7)) :: kL) (S33.1 9).toInt (S33.1 10).toInt (-1) S35 := CS_rt (by (try clear hQ hO h6 hCD hAB hRL iJ180 nS31 mS31 oS31 nS33 mS33 oS33 cS33 rS33 aS33 nS35 mS35 oS35); (try clear j180); (try clear j104); (try clear hk163); (try clear h); (try clear hJ180); grind -mbtc (gen := 40) (ematch := 20) [OR1, q_zz, q_za, q_zga, q_fza, q_fx, q_fga, q_gza, q_gfa, q_gx, q_zf1, q_zg1, q_ff, q_fg1, q_gf1, q_gg, ti_link, in2, in24, in4002]) (CD_CS (-1) (CD_nc nS35 cS33))
    have rS35 : RLs nx (x1.toInt + 1) ((ix x1, 6, (S35.1 7)) :: kL) ((S35.2.1 11)) := by
          rw [eS35]
          show RLs nx (x1.toInt + 1) ((ix x1, 6, S33.1 7) :: kL) (upd (S33.2.1 11) (ix x1) (S33.1 7))
          exact RLs_add rS33 (by (try clear hQ hO h6 hCD hAB hRL iJ180 nS31 mS31 oS31 nS33 mS33 oS33 cS33 rS33 aS33 nS35 mS35 oS35 cS35); (try clear j180); (try clear j104); (try clear hk163); (try clear h); (try clear hJ180); grind -mbtc (gen := 40) (ematch := 20) [OR1, q_zz, q_za, q_zga, q_fza, q_fx, q_fga, q_gza, q_gfa, q_gx, q_zf1, q_zg1, q_ff, q_fg1, q_gf1, q_gg, ti_link, in2, in24, in4002])
    intro S36 eS36
    have nS36 : NC S35 S36 := NC_z eS36 (by decide)
    have oS36 : NO nx S35 S36 := NO_z eS36
    have aS36 : AB nx x1.toInt S36 := AB_z eS36 (by decide) (AB_na mS35 aS33)
    intro S37 eS37
    have nS37 : NC S36 S37 := NC_z eS37 (by decide)
    have mS37 : NA S36 S37 := NA_z eS37 (by decide)
    have oS37 : NO nx S36 S37 := NO_z eS37
    intro S38 eS38
    have nS38 : NC S37 S38 := NC_z eS38 (by decide)
    have mS38 : NA S37 S38 := NA_z eS38 (by decide)
    have oS38 : NO nx S37 S38 := NO_z eS38
    intro S39 eS39
    have nS39 : NC S38 S39 := NC_z eS39 (by decide)
    have mS39 : NA S38 S39 := NA_z eS39 (by decide)
    have oS39 : NO nx S38 S39 := NO_z eS39
    intro S40 eS40
    have nS40 : NC S39 S40 := NC_z eS40 (by decide)
    have mS40 : NA S39 S40 := NA_z eS40 (by decide)
    have oS40 : NO nx S39 S40 := NO_z eS40
    intro S41 eS41
    have nS41 : NC S40 S41 := NC_z eS41 (by decide)
    have mS41 : NA S40 S41 := NA_z eS41 (by decide)
    have oS41 : NO nx S40 S41 := NO_z eS41
    have aS41 : AB nx x1.toInt S41 := AB_na mS41 (AB_na mS40 (AB_na mS39 (AB_na mS38 (AB_na mS37 aS36))))
    refine fm_act _ _ _ _ _ (fun S42 r42 hF3 pS42 => ?_) (sg7_act (nx := nx) _ _ (by (try clear hQ hO h6 hCD hAB hRL iJ180 nS31 mS31 oS31 nS33 mS33 oS33 cS33 rS33 aS33 nS35 mS35 oS35 cS35 rS35 nS36 oS36 aS36 nS37 mS37 oS37 nS38 mS38 oS38 nS39 mS39 oS39 nS40 mS40 oS40 nS41 mS41 oS41 aS41); (try clear j180); (try clear j104); (try clear hk163); (try clear h); (try clear hJ180); grind -mbtc (gen := 40) (ematch := 20) [OR1, q_zz, q_za, q_zga, q_fza, q_fx, q_fga, q_gza, q_gfa, q_gx, q_zf1, q_zg1, q_ff, q_fg1, q_gf1, q_gg, ti_link, in2, in24, in4002]))
    obtain ⟨pS42, qS42⟩ := pS42
    have fS42 : S42.1 4 = 0 → S41.1 4 = 0 := fun q => (hF3.1 4 (by decide)).symm.trans q
    have nS42 : NC S41 S42 := NC_fr hF3 (by decide) (by decide) fS42
    have z3_S42 := hF3.1 3 (by decide)
    have z4_S42 := hF3.1 4 (by decide)
    have z6_S42 := hF3.1 6 (by decide)
    have z7_S42 := hF3.1 7 (by decide)
    have z9_S42 := hF3.1 9 (by decide)
    have z10_S42 := hF3.1 10 (by decide)
    have z11_S42 := hF3.1 11 (by decide)
    have z12_S42 := hF3.1 12 (by decide)
    have z13_S42 := hF3.1 13 (by decide)
    have z15_S42 := hF3.1 15 (by decide)
    have z17_S42 := hF3.1 17 (by decide)
    have z18_S42 := hF3.1 18 (by decide)
    have z19_S42 := hF3.1 19 (by decide)
    have z20_S42 := hF3.1 20 (by decide)
    have z5_S42 := hF3.1 5 (by decide)
    have z16_S42 := hF3.1 16 (by decide)
    have f1_S42 := hF3.2.1 1 (by decide)
    have f1a_S42 := Fr_fa hF3 1 (by decide)
    have f2_S42 := hF3.2.1 2 (by decide)
    have f2a_S42 := Fr_fa hF3 2 (by decide)
    have f8_S42 := hF3.2.1 8 (by decide)
    have f8a_S42 := Fr_fa hF3 8 (by decide)
    have f10_S42 := hF3.2.1 10 (by decide)
    have f10a_S42 := Fr_fa hF3 10 (by decide)
    have f25_S42 := hF3.2.1 25 (by decide)
    have f25a_S42 := Fr_fa hF3 25 (by decide)
    have f28_S42 := hF3.2.1 28 (by decide)
    have f28a_S42 := Fr_fa hF3 28 (by decide)
    have f35_S42 := hF3.2.1 35 (by decide)
    have f35a_S42 := Fr_fa hF3 35 (by decide)
    have f36_S42 := hF3.2.1 36 (by decide)
    have f36a_S42 := Fr_fa hF3 36 (by decide)
    have f45_S42 := hF3.2.1 45 (by decide)
    have f45a_S42 := Fr_fa hF3 45 (by decide)
    have f46_S42 := hF3.2.1 46 (by decide)
    have f46a_S42 := Fr_fa hF3 46 (by decide)
    have f48_S42 := hF3.2.1 48 (by decide)
    have f48a_S42 := Fr_fa hF3 48 (by decide)
    have f5_S42 := hF3.2.1 5 (by decide)
    have f5a_S42 := Fr_fa hF3 5 (by decide)
    have f7_S42 := hF3.2.1 7 (by decide)
    have f7a_S42 := Fr_fa hF3 7 (by decide)
    have f11_S42 := hF3.2.1 11 (by decide)
    have f11a_S42 := Fr_fa hF3 11 (by decide)
    have f22_S42 := hF3.2.1 22 (by decide)
    have f22a_S42 := Fr_fa hF3 22 (by decide)
    have f23_S42 := hF3.2.1 23 (by decide)
    have f23a_S42 := Fr_fa hF3 23 (by decide)
    have g3_S42 := hF3.2.2 3 (by decide)
    have g3a_S42 := Fr_ga hF3 3 (by decide)
    have g4_S42 := hF3.2.2 4 (by decide)
    have g4a_S42 := Fr_ga hF3 4 (by decide)
    clear hF3
    have aS42 : AB nx x1.toInt S42 := AB_act qS42.2 (by (try clear hQ hO h6 hCD hAB hRL iJ180 nS31 mS31 oS31 nS33 mS33 oS33 cS33 rS33 aS33 nS35 mS35 oS35 cS35 rS35 nS36 oS36 aS36 nS37 mS37 oS37 nS38 mS38 oS38 nS39 mS39 oS39 nS40 mS40 oS40 nS41 mS41 oS41 aS41 qS42 nS42); (try clear j180); (try clear j104); (try clear hk163); (try clear h); (try clear hJ180); grind -mbtc (gen := 40) (ematch := 20) [OR1, q_zz, q_za, q_zga, q_fza, q_fx, q_fga, q_gza, q_gfa, q_gx, q_zf1, q_zg1, q_ff, q_fg1, q_gf1, q_gg, ti_link, in2, in24, in4002]) (by (try clear hQ hO h6 hCD hAB hRL iJ180 nS31 mS31 oS31 nS33 mS33 oS33 cS33 rS33 aS33 nS35 mS35 oS35 cS35 rS35 nS36 oS36 aS36 nS37 mS37 oS37 nS38 mS38 oS38 nS39 mS39 oS39 nS40 mS40 oS40 nS41 mS41 oS41 aS41 qS42 nS42); (try clear j180); (try clear j104); (try clear hk163); (try clear h); (try clear hJ180); grind -mbtc (gen := 40) (ematch := 20) [OR1, q_zz, q_za, q_zga, q_fza, q_fx, q_fga, q_gza, q_gfa, q_gx, q_zf1, q_zg1, q_ff, q_fg1, q_gf1, q_gg, ti_link, in2, in24, in4002]) (by decide) aS41
    refine ⟨by (try clear hQ hO h6 hCD hAB hRL iJ180 nS31 mS31 oS31 nS33 mS33 oS33 cS33 rS33 aS33 nS35 mS35 oS35 cS35 rS35 nS36 oS36 aS36 nS37 mS37 oS37 nS38 mS38 oS38 nS39 mS39 oS39 nS40 mS40 oS40 nS41 mS41 oS41 aS41 qS42 nS42 aS42); (try clear j180); (try clear j104); (try clear hk163); (try clear h); (try clear hJ180); grind -mbtc (gen := 40) (ematch := 20) [OR1, q_zz, q_za, q_zga, q_fza, q_fx, q_fga, q_gza, q_gfa, q_gx, q_zf1, q_zg1, q_ff, q_fg1, q_gf1, q_gg, ti_link, in2, in24, in4002], ?_⟩
    intro S43 eS43
    have nS43 : NC S42 S43 := NC_f eS43 (by decide)
    have oS43 : NO nx S42 S43 := NO_f eS43 (nH_r (by decide) (by (try clear hQ hO h6 hCD hAB hRL iJ180 nS31 mS31 oS31 nS33 mS33 oS33 cS33 rS33 aS33 nS35 mS35 oS35 cS35 rS35 nS36 oS36 aS36 nS37 mS37 oS37 nS38 mS38 oS38 nS39 mS39 oS39 nS40 mS40 oS40 nS41 mS41 oS41 aS41 qS42 nS42 aS42 nS43); (try clear j180); (try clear j104); (try clear hk163); (try clear h); (try clear hJ180); grind -mbtc (gen := 40) (ematch := 20) [OR1, q_zz, q_za, q_zga, q_fza, q_fx, q_fga, q_gza, q_gfa, q_gx, q_zf1, q_zg1, q_ff, q_fg1, q_gf1, q_gg, ti_link, in2, in24, in4002]))
    have aS43 : AB nx x1.toInt S43 := AB_fi eS43 (Or.inr (Or.inr rfl)) (by unfold ix; omega) aS42
    refine fm_act _ _ _ _ _ (fun S44 r44 hF4 pS44 => ?_) (sg7_act (nx := nx) _ _ (by (try clear hQ hO h6 hCD hAB hRL iJ180 nS31 mS31 oS31 nS33 mS33 oS33 cS33 rS33 aS33 nS35 mS35 oS35 cS35 rS35 nS36 oS36 aS36 nS37 mS37 oS37 nS38 mS38 oS38 nS39 mS39 oS39 nS40 mS40 oS40 nS41 mS41 oS41 aS41 qS42 nS42 aS42 nS43 oS43 aS43); (try clear j180); (try clear j104); (try clear hk163); (try clear h); (try clear hJ180); grind -mbtc (gen := 40) (ematch := 20) [OR1, q_zz, q_za, q_zga, q_fza, q_fx, q_fga, q_gza, q_gfa, q_gx, q_zf1, q_zg1, q_ff, q_fg1, q_gf1, q_gg, ti_link, in2, in24, in4002]))
    obtain ⟨pS44, qS44⟩ := pS44
    have fS44 : S44.1 4 = 0 → S43.1 4 = 0 := fun q => (hF4.1 4 (by decide)).symm.trans q
    have nS44 : NC S43 S44 := NC_fr hF4 (by decide) (by decide) fS44
    have z3_S44 := hF4.1 3 (by decide)
    have z4_S44 := hF4.1 4 (by decide)
    have z6_S44 := hF4.1 6 (by decide)
    have z7_S44 := hF4.1 7 (by decide)
    have z9_S44 := hF4.1 9 (by decide)
    have z10_S44 := hF4.1 10 (by decide)
    have z11_S44 := hF4.1 11 (by decide)
    have z12_S44 := hF4.1 12 (by decide)
    have z13_S44 := hF4.1 13 (by decide)
    have z15_S44 := hF4.1 15 (by decide)
    have z17_S44 := hF4.1 17 (by decide)
    have z18_S44 := hF4.1 18 (by decide)
    have z19_S44 := hF4.1 19 (by decide)
    have z20_S44 := hF4.1 20 (by decide)
    have z5_S44 := hF4.1 5 (by decide)
    have z16_S44 := hF4.1 16 (by decide)
    have f1_S44 := hF4.2.1 1 (by decide)
    have f1a_S44 := Fr_fa hF4 1 (by decide)
    have f2_S44 := hF4.2.1 2 (by decide)
    have f2a_S44 := Fr_fa hF4 2 (by decide)
    have f8_S44 := hF4.2.1 8 (by decide)
    have f8a_S44 := Fr_fa hF4 8 (by decide)
    have f10_S44 := hF4.2.1 10 (by decide)
    have f10a_S44 := Fr_fa hF4 10 (by decide)
    have f25_S44 := hF4.2.1 25 (by decide)
    have f25a_S44 := Fr_fa hF4 25 (by decide)
    have f28_S44 := hF4.2.1 28 (by decide)
    have f28a_S44 := Fr_fa hF4 28 (by decide)
    have f35_S44 := hF4.2.1 35 (by decide)
    have f35a_S44 := Fr_fa hF4 35 (by decide)
    have f36_S44 := hF4.2.1 36 (by decide)
    have f36a_S44 := Fr_fa hF4 36 (by decide)
    have f45_S44 := hF4.2.1 45 (by decide)
    have f45a_S44 := Fr_fa hF4 45 (by decide)
    have f46_S44 := hF4.2.1 46 (by decide)
    have f46a_S44 := Fr_fa hF4 46 (by decide)
    have f48_S44 := hF4.2.1 48 (by decide)
    have f48a_S44 := Fr_fa hF4 48 (by decide)
    have f5_S44 := hF4.2.1 5 (by decide)
    have f5a_S44 := Fr_fa hF4 5 (by decide)
    have f7_S44 := hF4.2.1 7 (by decide)
    have f7a_S44 := Fr_fa hF4 7 (by decide)
    have f11_S44 := hF4.2.1 11 (by decide)
    have f11a_S44 := Fr_fa hF4 11 (by decide)
    have f22_S44 := hF4.2.1 22 (by decide)
    have f22a_S44 := Fr_fa hF4 22 (by decide)
    have f23_S44 := hF4.2.1 23 (by decide)
    have f23a_S44 := Fr_fa hF4 23 (by decide)
    have g3_S44 := hF4.2.2 3 (by decide)
    have g3a_S44 := Fr_ga hF4 3 (by decide)
    have g4_S44 := hF4.2.2 4 (by decide)
    have g4a_S44 := Fr_ga hF4 4 (by decide)
    clear hF4
    have aS44 : AB nx x1.toInt S44 := AB_act qS44.2 (by (try clear hQ hO h6 hCD hAB hRL iJ180 nS31 mS31 oS31 nS33 mS33 oS33 cS33 rS33 aS33 nS35 mS35 oS35 cS35 rS35 nS36 oS36 aS36 nS37 mS37 oS37 nS38 mS38 oS38 nS39 mS39 oS39 nS40 mS40 oS40 nS41 mS41 oS41 aS41 qS42 nS42 aS42 nS43 oS43 aS43 qS44 nS44); (try clear j180); (try clear j104); (try clear hk163); (try clear h); (try clear hJ180); grind -mbtc (gen := 40) (ematch := 20) [OR1, q_zz, q_za, q_zga, q_fza, q_fx, q_fga, q_gza, q_gfa, q_gx, q_zf1, q_zg1, q_ff, q_fg1, q_gf1, q_gg, ti_link, in2, in24, in4002]) (by (try clear hQ hO h6 hCD hAB hRL iJ180 nS31 mS31 oS31 nS33 mS33 oS33 cS33 rS33 aS33 nS35 mS35 oS35 cS35 rS35 nS36 oS36 aS36 nS37 mS37 oS37 nS38 mS38 oS38 nS39 mS39 oS39 nS40 mS40 oS40 nS41 mS41 oS41 aS41 qS42 nS42 aS42 nS43 oS43 aS43 qS44 nS44); (try clear j180); (try clear j104); (try clear hk163); (try clear h); (try clear hJ180); grind -mbtc (gen := 40) (ematch := 20) [OR1, q_zz, q_za, q_zga, q_fza, q_fx, q_fga, q_gza, q_gfa, q_gx, q_zf1, q_zg1, q_ff, q_fg1, q_gf1, q_gg, ti_link, in2, in24, in4002]) (by decide) aS43
    refine ⟨by (try clear hQ hO h6 hCD hAB hRL iJ180 nS31 mS31 oS31 nS33 mS33 oS33 cS33 rS33 aS33 nS35 mS35 oS35 cS35 rS35 nS36 oS36 aS36 nS37 mS37 oS37 nS38 mS38 oS38 nS39 mS39 oS39 nS40 mS40 oS40 nS41 mS41 oS41 aS41 qS42 nS42 aS42 nS43 oS43 aS43 qS44 nS44 aS44); (try clear j180); (try clear j104); (try clear hk163); (try clear h); (try clear hJ180); grind -mbtc (gen := 40) (ematch := 20) [OR1, q_zz, q_za, q_zga, q_fza, q_fx, q_fga, q_gza, q_gfa, q_gx, q_zf1, q_zg1, q_ff, q_fg1, q_gf1, q_gg, ti_link, in2, in24, in4002], ?_⟩
    intro S45 eS45
    have nS45 : NC S44 S45 := NC_f eS45 (by decide)
    have oS45 : NO nx S44 S45 := NO_f eS45 (nH_r (by decide) (by (try clear hQ hO h6 hCD hAB hRL iJ180 nS31 mS31 oS31 nS33 mS33 oS33 cS33 rS33 aS33 nS35 mS35 oS35 cS35 rS35 nS36 oS36 aS36 nS37 mS37 oS37 nS38 mS38 oS38 nS39 mS39 oS39 nS40 mS40 oS40 nS41 mS41 oS41 aS41 qS42 nS42 aS42 nS43 oS43 aS43 qS44 nS44 aS44 nS45); (try clear j180); (try clear j104); (try clear hk163); (try clear h); (try clear hJ180); grind -mbtc (gen := 40) (ematch := 20) [OR1, q_zz, q_za, q_zga, q_fza, q_fx, q_fga, q_gza, q_gfa, q_gx, q_zf1, q_zg1, q_ff, q_fg1, q_gf1, q_gg, ti_link, in2, in24, in4002]))
    have aS45 : AB nx x1.toInt S45 := AB_fi eS45 (Or.inr (Or.inl rfl)) (by unfold ix; omega) aS44
    refine ⟨by (try clear hQ hO h6 hCD hAB hRL iJ180 nS31 mS31 oS31 nS33 mS33 oS33 cS33 rS33 aS33 nS35 mS35 oS35 cS35 rS35 nS36 oS36 aS36 nS37 mS37 oS37 nS38 mS38 oS38 nS39 mS39 oS39 nS40 mS40 oS40 nS41 mS41 oS41 aS41 qS42 nS42 aS42 nS43 oS43 aS43 qS44 nS44 aS44 nS45 oS45 aS45); (try clear j180); (try clear j104); (try clear hk163); (try clear h); (try clear hJ180); grind -mbtc (gen := 40) (ematch := 20) [OR1, q_zz, q_za, q_zga, q_fza, q_fx, q_fga, q_gza, q_gfa, q_gx, q_zf1, q_zg1, q_ff, q_fg1, q_gf1, q_gg, ti_link, in2, in24, in4002], ?_⟩
    intro z46 ez46
    intro S47 eS47
    have lS47 : ∀ m : Int, AV nx S45 z46 → AF nx m S45 → AF nx m S47 := fun m h8 h9 => AF_lv eS47 h8 h9
    have nS47 : NC S45 S47 := NC_z eS47 (by decide)
    have oS47 : NO nx S45 S47 := NO_z eS47
    have  pt47 : (S47.1 13) = -1 := by (try clear hQ hO h6 hCD hAB hRL iJ180 nS31 mS31 oS31 nS33 mS33 oS33 cS33 rS33 aS33 nS35 mS35 oS35 cS35 rS35 nS36 oS36 aS36 nS37 mS37 oS37 nS38 mS38 oS38 nS39 mS39 oS39 nS40 mS40 oS40 nS41 mS41 oS41 aS41 qS42 nS42 aS42 nS43 oS43 aS43 qS44 nS44 aS44 nS45 oS45 aS45 lS47 nS47 oS47); (try clear j180); (try clear j104); (try clear hk163); (try clear h); (try clear hJ180); grind -mbtc (gen := 40) (ematch := 20) [OR1, q_zz, q_za, q_zga, q_fza, q_fx, q_fga, q_gza, q_gfa, q_gx, q_zf1, q_zg1, q_ff, q_fg1, q_gf1, q_gg, ti_link, in2, in24, in4002]
    have  o47 : (S47.1 12) = x1 := by (try clear hQ hO h6 hCD hAB hRL iJ180 nS31 mS31 oS31 nS33 mS33 oS33 cS33 rS33 aS33 nS35 mS35 oS35 cS35 rS35 nS36 oS36 aS36 nS37 mS37 oS37 nS38 mS38 oS38 nS39 mS39 oS39 nS40 mS40 oS40 nS41 mS41 oS41 aS41 qS42 nS42 aS42 nS43 oS43 aS43 qS44 nS44 aS44 nS45 oS45 aS45 lS47 nS47 oS47); (try clear j180); (try clear j104); (try clear hk163); (try clear h); (try clear hJ180); grind -mbtc (gen := 40) (ematch := 20) [OR1, q_zz, q_za, q_zga, q_fza, q_fx, q_fga, q_gza, q_gfa, q_gx, q_zf1, q_zg1, q_ff, q_fg1, q_gf1, q_gg, ti_link, in2, in24, in4002]
    have  w47 : ((S47.2.1 10) (ix (S47.1 12))).toInt = 0 := by (try clear hQ hO h6 hCD hAB hRL iJ180 nS31 mS31 oS31 nS33 mS33 oS33 cS33 rS33 aS33 nS35 mS35 oS35 cS35 rS35 nS36 oS36 aS36 nS37 mS37 oS37 nS38 mS38 oS38 nS39 mS39 oS39 nS40 mS40 oS40 nS41 mS41 oS41 aS41 qS42 nS42 aS42 nS43 oS43 aS43 qS44 nS44 aS44 nS45 oS45 aS45 lS47 nS47 oS47); (try clear j180); (try clear j104); (try clear hk163); (try clear h); (try clear hJ180); grind -mbtc (gen := 40) (ematch := 20) [OR1, q_zz, q_za, q_zga, q_fza, q_fx, q_fga, q_gza, q_gfa, q_gx, q_zf1, q_zg1, q_ff, q_fg1, q_gf1, q_gg, ti_link, in2, in24, in4002]
    have aB47 : AB nx x1.toInt S47 := AB_z eS47 (by decide) aS45
    have aS47 : AF nx 0 S47 := AB_AF (by rw [o47]; exact aB47) pt47 (by (try clear hQ hO h6 hCD hAB hRL iJ180 nS31 mS31 oS31 nS33 mS33 oS33 cS33 rS33 aS33 nS35 mS35 oS35 cS35 rS35 nS36 oS36 aS36 nS37 mS37 oS37 nS38 mS38 oS38 nS39 mS39 oS39 nS40 mS40 oS40 nS41 mS41 oS41 aS41 qS42 nS42 aS42 nS43 oS43 aS43 qS44 nS44 aS44 nS45 oS45 aS45 lS47 nS47 oS47 aB47); (try clear j180); (try clear j104); (try clear hk163); (try clear h); (try clear hJ180); grind -mbtc (gen := 40) (ematch := 20) [OR1, q_zz, q_za, q_zga, q_fza, q_fx, q_fga, q_gza, q_gfa, q_gx, q_zf1, q_zg1, q_ff, q_fg1, q_gf1, q_gg, ti_link, in2, in24, in4002]) (by (try clear hQ hO h6 hCD hAB hRL iJ180 nS31 mS31 oS31 nS33 mS33 oS33 cS33 rS33 aS33 nS35 mS35 oS35 cS35 rS35 nS36 oS36 aS36 nS37 mS37 oS37 nS38 mS38 oS38 nS39 mS39 oS39 nS40 mS40 oS40 nS41 mS41 oS41 aS41 qS42 nS42 aS42 nS43 oS43 aS43 qS44 nS44 aS44 nS45 oS45 aS45 lS47 nS47 oS47 aB47); (try clear j180); (try clear j104); (try clear hk163); (try clear h); (try clear hJ180); grind -mbtc (gen := 40) (ematch := 20) [OR1, q_zz, q_za, q_zga, q_fza, q_fx, q_fga, q_gza, q_gfa, q_gx, q_zf1, q_zg1, q_ff, q_fg1, q_gf1, q_gg, ti_link, in2, in24, in4002]) (by (try clear hQ hO h6 hCD hAB hRL iJ180 nS31 mS31 oS31 nS33 mS33 oS33 cS33 rS33 aS33 nS35 mS35 oS35 cS35 rS35 nS36 oS36 aS36 nS37 mS37 oS37 nS38 mS38 oS38 nS39 mS39 oS39 nS40 mS40 oS40 nS41 mS41 oS41 aS41 qS42 nS42 aS42 nS43 oS43 aS43 qS44 nS44 aS44 nS45 oS45 aS45 lS47 nS47 oS47 aB47); (try clear j180); (try clear j104); (try clear hk163); (try clear h); (try clear hJ180); grind -mbtc (gen := 40) (ematch := 20) [OR1, q_zz, q_za, q_zga, q_fza, q_fx, q_fga, q_gza, q_gfa, q_gx, q_zf1, q_zg1, q_ff, q_fg1, q_gf1, q_gg, ti_link, in2, in24, in4002])
    have ab47 : AF nx ((S47.2.1 10) (ix (S47.1 12))).toInt S47 := by
          rw [w47]
          exact aS47
    have pd47 : PD nx 0 S47 := PD_0 pt47 (by (try clear hQ hO h6 hCD hAB hRL iJ180 nS31 mS31 oS31 nS33 mS33 oS33 cS33 rS33 aS33 nS35 mS35 oS35 cS35 rS35 nS36 oS36 aS36 nS37 mS37 oS37 nS38 mS38 oS38 nS39 mS39 oS39 nS40 mS40 oS40 nS41 mS41 oS41 aS41 qS42 nS42 aS42 nS43 oS43 aS43 qS44 nS44 aS44 nS45 oS45 aS45 lS47 nS47 oS47 aB47 aS47 ab47); (try clear j180); (try clear j104); (try clear hk163); (try clear h); (try clear hJ180); grind -mbtc (gen := 40) (ematch := 20) [OR1, q_zz, q_za, q_zga, q_fza, q_fx, q_fga, q_gza, q_gfa, q_gx, q_zf1, q_zg1, q_ff, q_fg1, q_gf1, q_gg, ti_link, in2, in24, in4002]) (by (try clear hQ hO h6 hCD hAB hRL iJ180 nS31 mS31 oS31 nS33 mS33 oS33 cS33 rS33 aS33 nS35 mS35 oS35 cS35 rS35 nS36 oS36 aS36 nS37 mS37 oS37 nS38 mS38 oS38 nS39 mS39 oS39 nS40 mS40 oS40 nS41 mS41 oS41 aS41 qS42 nS42 aS42 nS43 oS43 aS43 qS44 nS44 aS44 nS45 oS45 aS45 lS47 nS47 oS47 aB47 aS47 ab47); (try clear j180); (try clear j104); (try clear hk163); (try clear h); (try clear hJ180); grind -mbtc (gen := 40) (ematch := 20) [OR1, q_zz, q_za, q_zga, q_fza, q_fx, q_fga, q_gza, q_gfa, q_gx, q_zf1, q_zg1, q_ff, q_fg1, q_gf1, q_gg, ti_link, in2, in24, in4002])
    have cs47 : CS nx ((ix x1, 6, (S35.1 7)) :: kL) (S33.1 9).toInt (S33.1 10).toInt (-1) S47 := CS_nc nS47 (CS_nc nS45 (CS_nc nS44 (CS_nc nS43 (CS_nc nS42 (CS_nc nS41 (CS_nc nS40 (CS_nc nS39 (CS_nc nS38 (CS_nc nS37 (CS_nc nS36 cS35))))))))))
    have  t47 : (S47.1 9) = (S33.1 9) ∧ (S47.1 10) = (S33.1 10) := by (try clear hQ hO h6 hCD hAB hRL iJ180 nS31 mS31 oS31 nS33 mS33 oS33 cS33 rS33 aS33 nS35 mS35 oS35 cS35 rS35 nS36 oS36 aS36 nS37 mS37 oS37 nS38 mS38 oS38 nS39 mS39 oS39 nS40 mS40 oS40 nS41 mS41 oS41 aS41 qS42 nS42 aS42 nS43 oS43 aS43 qS44 nS44 aS44 nS45 oS45 aS45 lS47 nS47 oS47 aB47 aS47 ab47 pd47 cs47); (try clear j180); (try clear j104); (try clear hk163); (try clear h); (try clear hJ180); grind -mbtc (gen := 40) (ematch := 20) [OR1, q_zz, q_za, q_zga, q_fza, q_fx, q_fga, q_gza, q_gfa, q_gx, q_zf1, q_zg1, q_ff, q_fg1, q_gf1, q_gg, ti_link, in2, in24, in4002]
    have cb47 : CS nx ((ix x1, 6, (S35.1 7)) :: kL) (S47.1 9).toInt (S47.1 10).toInt (S47.1 13) S47 := by
          rw [pt47, t47.1, t47.2]
          exact cs47
    have oS47_ : OH nx S0 S47 := by (try clear j180); (try clear j104); (try clear hk163); grind (ematch := 30) (gen := 40) (splits := 15) [→ CD_nc, → AB_na, → OH_no, CD_nf, Q2_nf, q_zz, q_za, q_zga, q_fza, q_fx, q_fga, q_gza, q_gfa, q_gx, q_zf1, q_zg1, q_ff, q_fg1, q_gf1, q_gg, ti_link]
    have rS47 : RLs nx (x1.toInt + 1) ((ix x1, 6, (S35.1 7)) :: kL) ((S47.2.1 11)) := by (try clear j180); (try clear j104); (try clear hk163); grind (ematch := 30) (gen := 40) (splits := 15) [→ CD_nc, → AB_na, → OH_no, CD_nf, Q2_nf, q_zz, q_za, q_zga, q_fza, q_fx, q_fga, q_gza, q_gfa, q_gx, q_zf1, q_zg1, q_ff, q_fg1, q_gf1, q_gg, ti_link]
    have hs47 : SI nx n so pl wo ws S0 0 0 2 1000 400 (-10) 0 S47 ∧ (S47.1 12) = x1 ∧ x1.toInt = 12 * nx + ((S47.2.1 5) nx).toInt ∧ 0 ≤ ((S47.2.1 5) nx).toInt ∧ ((S47.2.1 5) nx).toInt < 12 ∧ CE ((S47.2.1 7)) ∧ ((S47.1 4) = 0 → (S.1 4) = 0 ∧ (S.1 3).toInt < (S47.1 3).toInt) ∧ (S.1 8).toInt ≤ (S47.1 8).toInt := by refine ⟨⟨⟨?_, ?_, ?_, ?_⟩, ?_, ?_, ?_, ?_⟩, ?_, ?_, ?_, ?_, ?_, ?_, ?_⟩ <;> ((try clear hQ hO h6 hCD hAB hRL iJ180 nS31 mS31 oS31 nS33 mS33 oS33 cS33 rS33 aS33 nS35 mS35 oS35 cS35 rS35 nS36 oS36 aS36 nS37 mS37 oS37 nS38 mS38 oS38 nS39 mS39 oS39 nS40 mS40 oS40 nS41 mS41 oS41 aS41 qS42 nS42 aS42 nS43 oS43 aS43 qS44 nS44 aS44 nS45 oS45 aS45 lS47 nS47 oS47 aB47 aS47 ab47 pd47 cs47 cb47 oS47_ rS47); (try clear j180); (try clear j104); (try clear hk163); grind -mbtc (splits := 20) (gen := 20) (ematch := 12) [QI, SI, PT, WB_ad2, WB_ro, WB_s1, WB_nf, CE_up, CE_in, LA_i, LA_n, LA_p, OR1, B01, → PI_ix, ix_int, XI, PI, PJ, BU, LV, LA_i, q_zz, q_za, q_zga, q_fza, q_fx, q_fga, q_gza, q_gfa, q_gx, q_zf1, q_zg1, q_ff, q_fg1, q_gf1, q_gg, ti_link, in2, in24, in4002])
    (try clear eS47); (try clear ez46); (try clear eS45); (try clear fS44); (try clear eS43); (try clear fS42); (try clear eS41); (try clear eS40); (try clear eS39); (try clear eS38); (try clear eS37); (try clear eS36); (try clear eS35); (try clear eS33); (try clear ez32); (try clear fS31); (try clear cs47); (try clear aS47); (try clear aB47); (try clear oS47); (try clear nS47); (try clear lS47); (try clear aS45); (try clear oS45); (try clear nS45); (try clear aS44); (try clear nS44); (try clear qS44); (try clear aS43); (try clear oS43); (try clear nS43); (try clear aS42); (try clear nS42); (try clear qS42); (try clear aS41); (try clear oS41); (try clear mS41); (try clear nS41); (try clear oS40); (try clear mS40); (try clear nS40); (try clear oS39); (try clear mS39); (try clear nS39); (try clear oS38); (try clear mS38); (try clear nS38); (try clear oS37); (try clear mS37); (try clear nS37); (try clear aS36); (try clear oS36); (try clear nS36); (try clear rS35); (try clear cS35); (try clear oS35); (try clear mS35); (try clear nS35); (try clear aS33); (try clear rS33); (try clear cS33); (try clear oS33); (try clear mS33); (try clear nS33); (try clear oS31); (try clear mS31); (try clear nS31); (try clear iJ180); (try clear hRL); (try clear hAB); (try clear hCD); (try clear g4a_S44); (try clear g4_S44); (try clear g3a_S44); (try clear g3_S44); (try clear f23a_S44); (try clear f23_S44); (try clear f22a_S44); (try clear f22_S44); (try clear f11a_S44); (try clear f11_S44); (try clear f7a_S44); (try clear f7_S44); (try clear f5a_S44); (try clear f5_S44); (try clear f48a_S44); (try clear f48_S44); (try clear f46a_S44); (try clear f46_S44); (try clear f45a_S44); (try clear f45_S44); (try clear f36a_S44); (try clear f36_S44); (try clear f35a_S44); (try clear f35_S44); (try clear f28a_S44); (try clear f28_S44); (try clear f25a_S44); (try clear f25_S44); (try clear f10a_S44); (try clear f10_S44); (try clear f8a_S44); (try clear f8_S44); (try clear f2a_S44); (try clear f2_S44); (try clear f1a_S44); (try clear f1_S44); (try clear z16_S44); (try clear z5_S44); (try clear z20_S44); (try clear z19_S44); (try clear z18_S44); (try clear z17_S44); (try clear z15_S44); (try clear z13_S44); (try clear z12_S44); (try clear z11_S44); (try clear z10_S44); (try clear z9_S44); (try clear z7_S44); (try clear z6_S44); (try clear z4_S44); (try clear z3_S44); (try clear pS44); (try clear g4a_S42); (try clear g4_S42); (try clear g3a_S42); (try clear g3_S42); (try clear f23a_S42); (try clear f23_S42); (try clear f22a_S42); (try clear f22_S42); (try clear f11a_S42); (try clear f11_S42); (try clear f7a_S42); (try clear f7_S42); (try clear f5a_S42); (try clear f5_S42); (try clear f48a_S42); (try clear f48_S42); (try clear f46a_S42); (try clear f46_S42); (try clear f45a_S42); (try clear f45_S42); (try clear f36a_S42); (try clear f36_S42); (try clear f35a_S42); (try clear f35_S42); (try clear f28a_S42); (try clear f28_S42); (try clear f25a_S42); (try clear f25_S42); (try clear f10a_S42); (try clear f10_S42); (try clear f8a_S42); (try clear f8_S42); (try clear f2a_S42); (try clear f2_S42); (try clear f1a_S42); (try clear f1_S42); (try clear z16_S42); (try clear z5_S42); (try clear z20_S42); (try clear z19_S42); (try clear z18_S42); (try clear z17_S42); (try clear z15_S42); (try clear z13_S42); (try clear z12_S42); (try clear z11_S42); (try clear z10_S42); (try clear z9_S42); (try clear z7_S42); (try clear z6_S42); (try clear z4_S42); (try clear z3_S42); (try clear pS42); (try clear g4a_S31); (try clear g4_S31); (try clear g3a_S31); (try clear g3_S31); (try clear f23a_S31); (try clear f23_S31); (try clear f22a_S31); (try clear f22_S31); (try clear f11a_S31); (try clear f11_S31); (try clear f7a_S31); (try clear f7_S31); (try clear f5a_S31); (try clear f5_S31); (try clear f48a_S31); (try clear f48_S31); (try clear f46a_S31); (try clear f46_S31); (try clear f45a_S31); (try clear f45_S31); (try clear f36a_S31); (try clear f36_S31); (try clear f35a_S31); (try clear f35_S31); (try clear f28a_S31); (try clear f28_S31); (try clear f25a_S31); (try clear f25_S31); (try clear f10a_S31); (try clear f10_S31); (try clear f8a_S31); (try clear f8_S31); (try clear f2a_S31); (try clear f2_S31); (try clear f1a_S31); (try clear f1_S31); (try clear z16_S31); (try clear z5_S31); (try clear z20_S31); (try clear z19_S31); (try clear z18_S31); (try clear z17_S31); (try clear z15_S31); (try clear z13_S31); (try clear z12_S31); (try clear z11_S31); (try clear z10_S31); (try clear z9_S31); (try clear z8_S31); (try clear z7_S31); (try clear z6_S31); (try clear pS31); (try clear hJ180)
    refine fq_block _ _ _ (fun S48 hF5 pS48 => ?_) (sq_block (nx := nx) (n := n) (so := so) (pl := pl) (wo := wo) (ws := ws) (S0 := S0) (d := 0) (G := 0) (GA := 2) (X := 1000) (Y := 400) (GW := (-10)) (GT := 0) (kL := ((ix x1, 6, (S35.1 7)) :: kL)) (kd := 0) (by (try clear hQ hO h6 ab47 pd47 cb47 oS47_ rS47 h); (try clear j180); (try clear j104); (try clear hk163); grind -mbtc (splits := 20) (gen := 20) (ematch := 12) [QI, SI, PT, WB_ad2, WB_ro, WB_s1, WB_nf, CE_up, CE_in, LA_i, LA_n, LA_p, OR1, B01, → PI_ix, ix_int, XI, PI, PJ, BU, LV, LA_i, q_zz, q_za, q_zga, q_fza, q_fx, q_fga, q_gza, q_gfa, q_gx, q_zf1, q_zg1, q_ff, q_fg1, q_gf1, q_gg, ti_link, in2, in24, in4002]) (by (try clear hQ hO h6 ab47 pd47 cb47 oS47_ rS47 h); (try clear j180); (try clear j104); (try clear hk163); grind -mbtc (splits := 20) (gen := 20) (ematch := 12) [QI, SI, PT, WB_ad2, WB_ro, WB_s1, WB_nf, CE_up, CE_in, LA_i, LA_n, LA_p, OR1, B01, → PI_ix, ix_int, XI, PI, PJ, BU, LV, LA_i, q_zz, q_za, q_zga, q_fza, q_fx, q_fga, q_gza, q_gfa, q_gx, q_zf1, q_zg1, q_ff, q_fg1, q_gf1, q_gg, ti_link, in2, in24, in4002]) (by (try clear hQ hO h6 ab47 pd47 cb47 oS47_ rS47 h); (try clear j180); (try clear j104); (try clear hk163); grind -mbtc (splits := 20) (gen := 20) (ematch := 12) [QI, SI, PT, WB_ad2, WB_ro, WB_s1, WB_nf, CE_up, CE_in, LA_i, LA_n, LA_p, OR1, B01, → PI_ix, ix_int, XI, PI, PJ, BU, LV, LA_i, q_zz, q_za, q_zga, q_fza, q_fx, q_fga, q_gza, q_gfa, q_gx, q_zf1, q_zg1, q_ff, q_fg1, q_gf1, q_gg, ti_link, in2, in24, in4002]) (by (try clear hQ hO h6 ab47 pd47 cb47 oS47_ rS47 h); (try clear j180); (try clear j104); (try clear hk163); grind -mbtc (splits := 20) (gen := 20) (ematch := 12) [QI, SI, PT, WB_ad2, WB_ro, WB_s1, WB_nf, CE_up, CE_in, LA_i, LA_n, LA_p, OR1, B01, → PI_ix, ix_int, XI, PI, PJ, BU, LV, LA_i, q_zz, q_za, q_zga, q_fza, q_fx, q_fga, q_gza, q_gfa, q_gx, q_zf1, q_zg1, q_ff, q_fg1, q_gf1, q_gg, ti_link, in2, in24, in4002]) (by (try clear j180); (try clear j104); (try clear hk163); grind (ematch := 30) (gen := 40) (splits := 15) [→ CD_nc, → AB_na, → OH_no, CD_nf, Q2_nf, q_zz, q_za, q_zga, q_fza, q_fx, q_fga, q_gza, q_gfa, q_gx, q_zf1, q_zg1, q_ff, q_fg1, q_gf1, q_gg, ti_link]) (by (try clear j180); (try clear j104); (try clear hk163); grind (ematch := 30) (gen := 40) (splits := 15) [→ CD_nc, → AB_na, → OH_no, CD_nf, Q2_nf, q_zz, q_za, q_zga, q_fza, q_fx, q_fga, q_gza, q_gfa, q_gx, q_zf1, q_zg1, q_ff, q_fg1, q_gf1, q_gg, ti_link]) (by (try clear j180); (try clear j104); (try clear hk163); grind (ematch := 30) (gen := 40) (splits := 15) [→ CD_nc, → AB_na, → OH_no, CD_nf, Q2_nf, q_zz, q_za, q_zga, q_fza, q_fx, q_fga, q_gza, q_gfa, q_gx, q_zf1, q_zg1, q_ff, q_fg1, q_gf1, q_gg, ti_link]) (by (try clear j180); (try clear j104); (try clear hk163); grind (ematch := 30) (gen := 40) (splits := 15) [→ CD_nc, → AB_na, → OH_no, CD_nf, Q2_nf, q_zz, q_za, q_zga, q_fza, q_fx, q_fga, q_gza, q_gfa, q_gx, q_zf1, q_zg1, q_ff, q_fg1, q_gf1, q_gg, ti_link]) (by (try clear j180); (try clear j104); (try clear hk163); grind (ematch := 30) (gen := 40) (splits := 15) [→ CD_nc, → AB_na, → OH_no, CD_nf, Q2_nf, q_zz, q_za, q_zga, q_fza, q_fx, q_fga, q_gza, q_gfa, q_gx, q_zf1, q_zg1, q_ff, q_fg1, q_gf1, q_gg, ti_link]))
    obtain ⟨pS48, qS48⟩ := pS48
    have z6_S48 := hF5.1 6 (by decide)
    have z12_S48 := hF5.1 12 (by decide)
    have z5_S48 := hF5.1 5 (by decide)
    have f1_S48 := hF5.2.1 1 (by decide)
    have f1a_S48 := Fr_fa hF5 1 (by decide)
    have f2_S48 := hF5.2.1 2 (by decide)
    have f2a_S48 := Fr_fa hF5 2 (by decide)
    have f5_S48 := hF5.2.1 5 (by decide)
    have f5a_S48 := Fr_fa hF5 5 (by decide)
    have f7_S48 := hF5.2.1 7 (by decide)
    have f7a_S48 := Fr_fa hF5 7 (by decide)
    have f11_S48 := hF5.2.1 11 (by decide)
    have f11a_S48 := Fr_fa hF5 11 (by decide)
    have f22_S48 := hF5.2.1 22 (by decide)
    have f22a_S48 := Fr_fa hF5 22 (by decide)
    have f23_S48 := hF5.2.1 23 (by decide)
    have f23a_S48 := Fr_fa hF5 23 (by decide)
    have g3_S48 := hF5.2.2 3 (by decide)
    have g3a_S48 := Fr_ga hF5 3 (by decide)
    have g4_S48 := hF5.2.2 4 (by decide)
    have g4a_S48 := Fr_ga hF5 4 (by decide)
    clear hF5
    refine fm_emit _ _ _ _ _ _ (fun S49 r49 hF6 pS49 => ?_) (sg_emit (nx := nx) _ _ _ (by (try clear hQ hO h6 ab47 pd47 cb47 oS47_ rS47 h qS48); (try clear j180); (try clear j104); (try clear hk163); grind -mbtc (splits := 20) (gen := 20) (ematch := 12) [QI, SI, PT, WB_ad2, WB_ro, WB_s1, WB_nf, CE_up, CE_in, LA_i, LA_n, LA_p, OR1, B01, → PI_ix, ix_int, XI, PI, PJ, BU, LV, LA_i, q_zz, q_za, q_zga, q_fza, q_fx, q_fga, q_gza, q_gfa, q_gx, q_zf1, q_zg1, q_ff, q_fg1, q_gf1, q_gg, ti_link, in2, in24, in4002]))
    obtain ⟨pS49, qS49⟩ := pS49
    have fS49 : S49.1 4 = 0 → S48.1 4 = 0 := fun q => (hF6.1 4 (by decide)).symm.trans q
    have mS49 : NA S48 S49 := NA_fr hF6 (by decide) (by decide) fS49
    have z3_S49 := hF6.1 3 (by decide)
    have z4_S49 := hF6.1 4 (by decide)
    have z6_S49 := hF6.1 6 (by decide)
    have z8_S49 := hF6.1 8 (by decide)
    have z9_S49 := hF6.1 9 (by decide)
    have z10_S49 := hF6.1 10 (by decide)
    have z11_S49 := hF6.1 11 (by decide)
    have z12_S49 := hF6.1 12 (by decide)
    have z13_S49 := hF6.1 13 (by decide)
    have z15_S49 := hF6.1 15 (by decide)
    have z17_S49 := hF6.1 17 (by decide)
    have z18_S49 := hF6.1 18 (by decide)
    have z19_S49 := hF6.1 19 (by decide)
    have z20_S49 := hF6.1 20 (by decide)
    have z5_S49 := hF6.1 5 (by decide)
    have z16_S49 := hF6.1 16 (by decide)
    have f1_S49 := hF6.2.1 1 (by decide)
    have f1a_S49 := Fr_fa hF6 1 (by decide)
    have f2_S49 := hF6.2.1 2 (by decide)
    have f2a_S49 := Fr_fa hF6 2 (by decide)
    have f8_S49 := hF6.2.1 8 (by decide)
    have f8a_S49 := Fr_fa hF6 8 (by decide)
    have f10_S49 := hF6.2.1 10 (by decide)
    have f10a_S49 := Fr_fa hF6 10 (by decide)
    have f25_S49 := hF6.2.1 25 (by decide)
    have f25a_S49 := Fr_fa hF6 25 (by decide)
    have f28_S49 := hF6.2.1 28 (by decide)
    have f28a_S49 := Fr_fa hF6 28 (by decide)
    have f35_S49 := hF6.2.1 35 (by decide)
    have f35a_S49 := Fr_fa hF6 35 (by decide)
    have f36_S49 := hF6.2.1 36 (by decide)
    have f36a_S49 := Fr_fa hF6 36 (by decide)
    have f45_S49 := hF6.2.1 45 (by decide)
    have f45a_S49 := Fr_fa hF6 45 (by decide)
    have f46_S49 := hF6.2.1 46 (by decide)
    have f46a_S49 := Fr_fa hF6 46 (by decide)
    have f48_S49 := hF6.2.1 48 (by decide)
    have f48a_S49 := Fr_fa hF6 48 (by decide)
    have f5_S49 := hF6.2.1 5 (by decide)
    have f5a_S49 := Fr_fa hF6 5 (by decide)
    have f7_S49 := hF6.2.1 7 (by decide)
    have f7a_S49 := Fr_fa hF6 7 (by decide)
    have f11_S49 := hF6.2.1 11 (by decide)
    have f11a_S49 := Fr_fa hF6 11 (by decide)
    have f22_S49 := hF6.2.1 22 (by decide)
    have f22a_S49 := Fr_fa hF6 22 (by decide)
    have f23_S49 := hF6.2.1 23 (by decide)
    have f23a_S49 := Fr_fa hF6 23 (by decide)
    have g3_S49 := hF6.2.2 3 (by decide)
    have g3a_S49 := Fr_ga hF6 3 (by decide)
    have g4_S49 := hF6.2.2 4 (by decide)
    have g4a_S49 := Fr_ga hF6 4 (by decide)
    clear hF6
    have cS49 : CD nx ((ix x1, 6, (S35.1 7)) :: kL) (S48.1 9).toInt (S48.1 10).toInt S49 := CD_end qS49.1 qS48.1
    have aS49 : AF nx ((S48.2.1 10) (ix (S48.1 12))).toInt S49 := AF_na mS49 qS48.2.1
    refine ⟨by (try clear hQ hO h6 ab47 pd47 cb47 oS47_ rS47 h qS48 qS49 mS49 cS49 aS49); (try clear j180); (try clear j104); (try clear hk163); grind -mbtc (splits := 20) (gen := 20) (ematch := 12) [QI, SI, PT, WB_ad2, WB_ro, WB_s1, WB_nf, CE_up, CE_in, LA_i, LA_n, LA_p, OR1, B01, → PI_ix, ix_int, XI, PI, PJ, BU, LV, LA_i, q_zz, q_za, q_zga, q_fza, q_fx, q_fga, q_gza, q_gfa, q_gx, q_zf1, q_zg1, q_ff, q_fg1, q_gf1, q_gg, ti_link, in2, in24, in4002], ?_⟩
    intro z50 ez50
    have vz50 : AV nx S49 z50 := fun hf9 => AV_e aS49 (by (try clear hQ hO h6 ab47 pd47 cb47 oS47_ rS47 h qS48 qS49 mS49 cS49 aS49); (try clear j180); (try clear j104); (try clear hk163); grind -mbtc (splits := 20) (gen := 20) (ematch := 12) [QI, SI, PT, WB_ad2, WB_ro, WB_s1, WB_nf, CE_up, CE_in, LA_i, LA_n, LA_p, OR1, B01, → PI_ix, ix_int, XI, PI, PJ, BU, LV, LA_i, q_zz, q_za, q_zga, q_fza, q_fx, q_fga, q_gza, q_gfa, q_gx, q_zf1, q_zg1, q_ff, q_fg1, q_gf1, q_gg, ti_link, in2, in24, in4002]) (by (try clear hQ hO h6 ab47 pd47 cb47 oS47_ rS47 h qS48 qS49 mS49 cS49 aS49); (try clear j180); (try clear j104); (try clear hk163); grind -mbtc (splits := 20) (gen := 20) (ematch := 12) [QI, SI, PT, WB_ad2, WB_ro, WB_s1, WB_nf, CE_up, CE_in, LA_i, LA_n, LA_p, OR1, B01, → PI_ix, ix_int, XI, PI, PJ, BU, LV, LA_i, q_zz, q_za, q_zga, q_fza, q_fx, q_fga, q_gza, q_gfa, q_gx, q_zf1, q_zg1, q_ff, q_fg1, q_gf1, q_gg, ti_link, in2, in24, in4002]) hf9
    refine fm_lead _ _ _ _ (fun S51 hF7 pS51 => ?_) (sgv_lead (nx := nx) _ (by (try clear hQ hO h6 ab47 pd47 cb47 oS47_ rS47 h qS48 qS49 mS49 cS49 aS49 vz50); (try clear j180); (try clear j104); (try clear hk163); grind -mbtc (splits := 20) (gen := 20) (ematch := 12) [QI, SI, PT, WB_ad2, WB_ro, WB_s1, WB_nf, CE_up, CE_in, LA_i, LA_n, LA_p, OR1, B01, → PI_ix, ix_int, XI, PI, PJ, BU, LV, LA_i, q_zz, q_za, q_zga, q_fza, q_fx, q_fga, q_gza, q_gfa, q_gx, q_zf1, q_zg1, q_ff, q_fg1, q_gf1, q_gg, ti_link, in2, in24, in4002]))
    obtain ⟨pS51, qS51⟩ := pS51
    have fS51 : S51.1 4 = 0 → S49.1 4 = 0 := fun q => (hF7.1 4 (by decide)).symm.trans q
    have nS51 : NC S49 S51 := NC_fr hF7 (by decide) (by decide) fS51
    have z3_S51 := hF7.1 3 (by decide)
    have z4_S51 := hF7.1 4 (by decide)
    have z6_S51 := hF7.1 6 (by decide)
    have z7_S51 := hF7.1 7 (by decide)
    have z8_S51 := hF7.1 8 (by decide)
    have z9_S51 := hF7.1 9 (by decide)
    have z10_S51 := hF7.1 10 (by decide)
    have z11_S51 := hF7.1 11 (by decide)
    have z12_S51 := hF7.1 12 (by decide)
    have z13_S51 := hF7.1 13 (by decide)
    have z15_S51 := hF7.1 15 (by decide)
    have z17_S51 := hF7.1 17 (by decide)
    have z18_S51 := hF7.1 18 (by decide)
    have z19_S51 := hF7.1 19 (by decide)
    have z20_S51 := hF7.1 20 (by decide)
    have z5_S51 := hF7.1 5 (by decide)
    have z16_S51 := hF7.1 16 (by decide)
    have f1_S51 := hF7.2.1 1 (by decide)
    have f1a_S51 := Fr_fa hF7 1 (by decide)
    have f2_S51 := hF7.2.1 2 (by decide)
    have f2a_S51 := Fr_fa hF7 2 (by decide)
    have f8_S51 := hF7.2.1 8 (by decide)
    have f8a_S51 := Fr_fa hF7 8 (by decide)
    have f10_S51 := hF7.2.1 10 (by decide)
    have f10a_S51 := Fr_fa hF7 10 (by decide)
    have f25_S51 := hF7.2.1 25 (by decide)
    have f25a_S51 := Fr_fa hF7 25 (by decide)
    have f28_S51 := hF7.2.1 28 (by decide)
    have f28a_S51 := Fr_fa hF7 28 (by decide)
    have f35_S51 := hF7.2.1 35 (by decide)
    have f35a_S51 := Fr_fa hF7 35 (by decide)
    have f36_S51 := hF7.2.1 36 (by decide)
    have f36a_S51 := Fr_fa hF7 36 (by decide)
    have f45_S51 := hF7.2.1 45 (by decide)
    have f45a_S51 := Fr_fa hF7 45 (by decide)
    have f46_S51 := hF7.2.1 46 (by decide)
    have f46a_S51 := Fr_fa hF7 46 (by decide)
    have f48_S51 := hF7.2.1 48 (by decide)
    have f48a_S51 := Fr_fa hF7 48 (by decide)
    have f5_S51 := hF7.2.1 5 (by decide)
    have f5a_S51 := Fr_fa hF7 5 (by decide)
    have f7_S51 := hF7.2.1 7 (by decide)
    have f7a_S51 := Fr_fa hF7 7 (by decide)
    have f11_S51 := hF7.2.1 11 (by decide)
    have f11a_S51 := Fr_fa hF7 11 (by decide)
    have f22_S51 := hF7.2.1 22 (by decide)
    have f22a_S51 := Fr_fa hF7 22 (by decide)
    have f23_S51 := hF7.2.1 23 (by decide)
    have f23a_S51 := Fr_fa hF7 23 (by decide)
    have g3_S51 := hF7.2.2 3 (by decide)
    have g3a_S51 := Fr_ga hF7 3 (by decide)
    have g4_S51 := hF7.2.2 4 (by decide)
    have g4a_S51 := Fr_ga hF7 4 (by decide)
    clear hF7
    have aS51 : AF nx ((S48.2.1 10) (ix (S48.1 12))).toInt S51 := qS51.2.1 _ aS49 vz50
    have  o51 : (S51.1 12) = x1 := by (try clear hQ hO h6 ab47 pd47 cb47 oS47_ rS47 h qS48 qS49 mS49 cS49 aS49 vz50 qS51 nS51 aS51); (try clear j180); (try clear j104); (try clear hk163); grind -mbtc (splits := 20) (gen := 20) (ematch := 12) [QI, SI, PT, WB_ad2, WB_ro, WB_s1, WB_nf, CE_up, CE_in, LA_i, LA_n, LA_p, OR1, B01, → PI_ix, ix_int, XI, PI, PJ, BU, LV, LA_i, q_zz, q_za, q_zga, q_fza, q_fx, q_fga, q_gza, q_gfa, q_gx, q_zf1, q_zg1, q_ff, q_fg1, q_gf1, q_gg, ti_link, in2, in24, in4002]
    have bS51 : AB nx ((S51.1 12).toInt + 1) S51 := AF_AB aS51 (fun hf9 => by (try clear hQ hO h6 ab47 pd47 cb47 oS47_ rS47 h qS48 qS49 mS49 cS49 aS49 vz50 qS51 nS51 aS51); (try clear j180); (try clear j104); (try clear hk163); grind -mbtc (splits := 20) (gen := 20) (ematch := 12) [QI, SI, PT, WB_ad2, WB_ro, WB_s1, WB_nf, CE_up, CE_in, LA_i, LA_n, LA_p, OR1, B01, → PI_ix, ix_int, XI, PI, PJ, BU, LV, LA_i, q_zz, q_za, q_zga, q_fza, q_fx, q_fga, q_gza, q_gfa, q_gx, q_zf1, q_zg1, q_ff, q_fg1, q_gf1, q_gg, ti_link, in2, in24, in4002])
    have bx51 : AB nx (x1.toInt + 1) S51 := by
          rw [← o51]
          exact bS51
    have cS51 : CD nx ((ix x1, 6, (S35.1 7)) :: kL) (S51.1 9).toInt (S51.1 10).toInt S51 := by (try clear j180); (try clear j104); (try clear hk163); grind (ematch := 30) (gen := 40) (splits := 15) [→ CD_nc, → AB_na, → OH_no, CD_nf, Q2_nf, q_zz, q_za, q_zga, q_fza, q_fx, q_fga, q_gza, q_gfa, q_gx, q_zf1, q_zg1, q_ff, q_fg1, q_gf1, q_gg, ti_link]
    have rS51 : RLs nx (x1.toInt + 1) ((ix x1, 6, (S35.1 7)) :: kL) ((S51.2.1 11)) := by (try clear j180); (try clear j104); (try clear hk163); grind (ematch := 30) (gen := 40) (splits := 15) [→ CD_nc, → AB_na, → OH_no, CD_nf, Q2_nf, q_zz, q_za, q_zga, q_fza, q_fx, q_fga, q_gza, q_gfa, q_gx, q_zf1, q_zg1, q_ff, q_fg1, q_gf1, q_gg, ti_link]
    have oS51_ : OH nx S0 S51 := by (try clear j180); (try clear j104); (try clear hk163); grind (ematch := 30) (gen := 40) (splits := 15) [→ CD_nc, → AB_na, → OH_no, CD_nf, Q2_nf, q_zz, q_za, q_zga, q_fza, q_fx, q_fga, q_gza, q_gfa, q_gx, q_zf1, q_zg1, q_ff, q_fg1, q_gf1, q_gg, ti_link]
    refine ⟨fun c8 => ?_, fun c8 => ?_⟩
    · exact ⟨by (try clear hQ hO h6 ab47 pd47 cb47 oS47_ rS47 h qS48 qS49 mS49 cS49 aS49 vz50 qS51 nS51 aS51 bS51 bx51 cS51 rS51 oS51_); (try clear j180); (try clear j104); (try clear hk163); grind -mbtc (splits := 20) (gen := 20) (ematch := 12) [QI, SI, PT, WB_ad2, WB_ro, WB_s1, WB_nf, CE_up, CE_in, LA_i, LA_n, LA_p, OR1, B01, → PI_ix, ix_int, XI, PI, PJ, BU, LV, LA_i, q_zz, q_za, q_zga, q_fza, q_fx, q_fga, q_gza, q_gfa, q_gx, q_zf1, q_zg1, q_ff, q_fg1, q_gf1, q_gg, ti_link, in2, in24, in4002], by refine ⟨?_, ?_⟩ <;> ((try clear j180); (try clear j104); (try clear hk163); grind (ematch := 30) (gen := 40) (splits := 15) [→ CD_nc, → AB_na, → OH_no, CD_nf, Q2_nf, q_zz, q_za, q_zga, q_fza, q_fx, q_fga, q_gza, q_gfa, q_gx, q_zf1, q_zg1, q_ff, q_fg1, q_gf1, q_gg, ti_link])⟩
    · refine ⟨by (try clear hQ hO h6 ab47 pd47 cb47 oS47_ rS47 h qS48 qS49 mS49 cS49 aS49 vz50 qS51 nS51 aS51 bS51 bx51 cS51 rS51 oS51_); (try clear j180); (try clear j104); (try clear hk163); grind -mbtc (splits := 20) (gen := 20) (ematch := 12) [QI, SI, PT, WB_ad2, WB_ro, WB_s1, WB_nf, CE_up, CE_in, LA_i, LA_n, LA_p, OR1, B01, → PI_ix, ix_int, XI, PI, PJ, BU, LV, LA_i, q_zz, q_za, q_zga, q_fza, q_fx, q_fga, q_gza, q_gfa, q_gx, q_zf1, q_zg1, q_ff, q_fg1, q_gf1, q_gg, ti_link, in2, in24, in4002], ?_⟩
      intro S53 eS53
      have nS53 : NC S51 S53 := NC_g eS53
      have mS53 : NA S51 S53 := NA_g eS53
      have oS53 : NO nx S51 S53 := NO_g eS53 (nL_6 (by (try clear hQ hO h6 ab47 pd47 cb47 oS47_ rS47 h qS48 qS49 mS49 cS49 aS49 vz50 qS51 nS51 aS51 bS51 bx51 cS51 rS51 oS51_ nS53 mS53); (try clear j180); (try clear j104); (try clear hk163); grind -mbtc (splits := 20) (gen := 20) (ematch := 12) [QI, SI, PT, WB_ad2, WB_ro, WB_s1, WB_nf, CE_up, CE_in, LA_i, LA_n, LA_p, OR1, B01, → PI_ix, ix_int, XI, PI, PJ, BU, LV, LA_i, q_zz, q_za, q_zga, q_fza, q_fx, q_fga, q_gza, q_gfa, q_gx, q_zf1, q_zg1, q_ff, q_fg1, q_gf1, q_gg, ti_link, in2, in24, in4002]))
      refine ⟨by (try clear hQ hO h6 ab47 pd47 cb47 oS47_ rS47 h qS48 qS49 mS49 cS49 aS49 vz50 qS51 nS51 aS51 bS51 bx51 cS51 rS51 oS51_ nS53 mS53 oS53); (try clear j180); (try clear j104); (try clear hk163); grind -mbtc (splits := 20) (gen := 20) (ematch := 12) [QI, SI, PT, WB_ad2, WB_ro, WB_s1, WB_nf, CE_up, CE_in, LA_i, LA_n, LA_p, OR1, B01, → PI_ix, ix_int, XI, PI, PJ, BU, LV, LA_i, q_zz, q_za, q_zga, q_fza, q_fx, q_fga, q_gza, q_gfa, q_gx, q_zf1, q_zg1, q_ff, q_fg1, q_gf1, q_gg, ti_link, in2, in24, in4002], ?_⟩
      intro z54 ez54
      intro z55 ez55
      refine ⟨by (try clear hQ hO h6 ab47 pd47 cb47 oS47_ rS47 h qS48 qS49 mS49 cS49 aS49 vz50 qS51 nS51 aS51 bS51 bx51 cS51 rS51 oS51_ nS53 mS53 oS53); (try clear j180); (try clear j104); (try clear hk163); grind -mbtc (splits := 20) (gen := 20) (ematch := 12) [QI, SI, PT, WB_ad2, WB_ro, WB_s1, WB_nf, CE_up, CE_in, LA_i, LA_n, LA_p, OR1, B01, → PI_ix, ix_int, XI, PI, PJ, BU, LV, LA_i, q_zz, q_za, q_zga, q_fza, q_fx, q_fga, q_gza, q_gfa, q_gx, q_zf1, q_zg1, q_ff, q_fg1, q_gf1, q_gg, ti_link, in2, in24, in4002], ?_⟩
      intro S56 eS56
      have nS56 : NC S53 S56 := NC_f eS56 (by decide)
      have mS56 : NA S53 S56 := NA_f eS56 (by decide)
      have oS56 : NO nx S53 S56 := NO_f eS56 (nH_5 (by (try clear hQ hO h6 ab47 pd47 cb47 oS47_ rS47 h qS48 qS49 mS49 cS49 aS49 vz50 qS51 nS51 aS51 bS51 bx51 cS51 rS51 oS51_ nS53 mS53 oS53 nS56 mS56); (try clear j180); (try clear j104); (try clear hk163); grind -mbtc (splits := 20) (gen := 20) (ematch := 12) [QI, SI, PT, WB_ad2, WB_ro, WB_s1, WB_nf, CE_up, CE_in, LA_i, LA_n, LA_p, OR1, B01, → PI_ix, ix_int, XI, PI, PJ, BU, LV, LA_i, q_zz, q_za, q_zga, q_fza, q_fx, q_fga, q_gza, q_gfa, q_gx, q_zf1, q_zg1, q_ff, q_fg1, q_gf1, q_gg, ti_link, in2, in24, in4002]))
      have cS56 : CD nx ((ix x1, 6, (S35.1 7)) :: kL) (S56.1 9).toInt (S56.1 10).toInt S56 := by (try clear j180); (try clear j104); (try clear hk163); grind (ematch := 30) (gen := 40) (splits := 15) [→ CD_nc, → AB_na, → OH_no, CD_nf, Q2_nf, q_zz, q_za, q_zga, q_fza, q_fx, q_fga, q_gza, q_gfa, q_gx, q_zf1, q_zg1, q_ff, q_fg1, q_gf1, q_gg, ti_link]
      have rS56 : RLs nx (x1.toInt + 1) ((ix x1, 6, (S35.1 7)) :: kL) ((S56.2.1 11)) := by (try clear j180); (try clear j104); (try clear hk163); grind (ematch := 30) (gen := 40) (splits := 15) [→ CD_nc, → AB_na, → OH_no, CD_nf, Q2_nf, q_zz, q_za, q_zga, q_fza, q_fx, q_fga, q_gza, q_gfa, q_gx, q_zf1, q_zg1, q_ff, q_fg1, q_gf1, q_gg, ti_link]
      have  n56 : x1.toInt + 1 = 12 * nx + ((S56.2.1 5) nx).toInt := by (try clear hQ hO h6 ab47 pd47 cb47 oS47_ rS47 h qS48 qS49 mS49 cS49 aS49 vz50 qS51 nS51 aS51 bS51 bx51 cS51 rS51 oS51_ nS53 mS53 oS53 nS56 mS56 oS56 cS56 rS56); (try clear j180); (try clear j104); (try clear hk163); grind -mbtc (splits := 20) (gen := 20) (ematch := 12) [QI, SI, PT, WB_ad2, WB_ro, WB_s1, WB_nf, CE_up, CE_in, LA_i, LA_n, LA_p, OR1, B01, → PI_ix, ix_int, XI, PI, PJ, BU, LV, LA_i, q_zz, q_za, q_zga, q_fza, q_fx, q_fga, q_gza, q_gfa, q_gx, q_zf1, q_zg1, q_ff, q_fg1, q_gf1, q_gg, ti_link, in2, in24, in4002]
      have qq56 : Q2 nx S56 := Q2_i (K6_c h6) cS56 (AB_na mS56 (AB_na mS53 bx51)) rS56 n56
      exact ⟨by (try clear hQ hO h6 ab47 pd47 cb47 oS47_ rS47 h qS48 qS49 mS49 cS49 aS49 vz50 qS51 nS51 aS51 bS51 bx51 cS51 rS51 oS51_ nS53 mS53 oS53 nS56 mS56 oS56 cS56 rS56 qq56); (try clear j180); (try clear j104); (try clear hk163); grind -mbtc (splits := 20) (gen := 20) (ematch := 12) [QI, SI, PT, WB_ad2, WB_ro, WB_s1, WB_nf, CE_up, CE_in, LA_i, LA_n, LA_p, OR1, B01, → PI_ix, ix_int, XI, PI, PJ, BU, LV, LA_i, q_zz, q_za, q_zga, q_fza, q_fx, q_fga, q_gza, q_gfa, q_gx, q_zf1, q_zg1, q_ff, q_fg1, q_gf1, q_gg, ti_link, in2, in24, in4002], by refine ⟨?_, ?_⟩ <;> ((try clear j180); (try clear j104); (try clear hk163); grind (ematch := 30) (gen := 40) (splits := 15) [→ CD_nc, → AB_na, → OH_no, CD_nf, Q2_nf, q_zz, q_za, q_zga, q_fza, q_fx, q_fga, q_gza, q_gfa, q_gx, q_zf1, q_zg1, q_ff, q_fg1, q_gf1, q_gg, ti_link])⟩
  · exact ⟨by (try clear hQ hO h6 hCD hAB hRL iJ180 nS31 mS31 oS31 nS33 mS33 oS33 cS33 rS33 aS33); (try clear j180); (try clear j104); (try clear hk163); grind -mbtc (splits := 20) (gen := 20) (ematch := 12) [QI, SI, PT, WB_ad2, WB_ro, WB_s1, WB_nf, CE_up, CE_in, LA_i, LA_n, LA_p, OR1, B01, → PI_ix, ix_int, XI, PI, PJ, BU, LV, LA_i, q_zz, q_za, q_zga, q_fza, q_fx, q_fga, q_gza, q_gfa, q_gx, q_zf1, q_zg1, q_ff, q_fg1, q_gf1, q_gg, ti_link, in2, in24, in4002], by refine ⟨?_, ?_⟩ <;> ((try clear j180); (try clear j104); (try clear hk163); grind (ematch := 30) (gen := 40) (splits := 15) [→ CD_nc, → AB_na, → OH_no, CD_nf, Q2_nf, q_zz, q_za, q_zga, q_fza, q_fx, q_fga, q_gza, q_gfa, q_gx, q_zf1, q_zg1, q_ff, q_fg1, q_gf1, q_gg, ti_link])⟩
