
set_option maxHeartbeats 4000000 in
theorem sj394_trial {nx n : Nat} {so pl : Nat → Int32} {wo ws : Nat → Int64} {S0 : mS} {D d : Nat} {G GA X Y GW GT : Int} {kL : LT3} {kd : Int} {r_block : mS → (mS → Prop) → Prop} (hf_block : FmV [3, 4, 7, 8, 9, 10, 11, 13, 14, 15, 16, 17, 18, 19, 20] [8, 10, 12, 13, 14, 15, 16, 17, 18, 19, 20, 21, 24, 25, 26, 27, 28, 29, 30, 31, 32, 33, 34, 35, 36, 37, 38, 39, 40, 41, 42, 43, 44, 45, 46, 47, 48] [9] (r_block)) (hr_block : ∀ (d : Nat) (G GA X Y GW GT : Int) (kL : LT3) (kd : Int) (S : mS), D ≤ d → LV d G GA X Y → X ≤ 1800 ∧ Y ≤ 900 → GW ≤ (d : Int) - 10 ∧ GT ≤ 6 * (d : Int) + 6 → SI nx n so pl wo ws S0 d G GA X Y GW GT S → (CS nx kL (S.1 9).toInt (S.1 10).toInt (S.1 13) S) → (AF nx ((S.2.1 10) (ix (S.1 12))).toInt S) → (OH nx S0 S) → (PD nx kd S) → (kd ≤ (d : Int)) → r_block S (fun S1 => (SI nx n so pl wo ws S0 d (G - 10) (GA - 4) X Y (GW - 2) (GT - 2) S1 ∧ ((S1.1 4) = 0 → (S.1 4) = 0 ∧ (S.1 3).toInt + 2 ≤ (S1.1 3).toInt) ∧ (S.1 8).toInt ≤ (S1.1 8).toInt ∧ (S.1 9).toInt ≤ (S1.1 9).toInt ∧ (S.1 10).toInt ≤ (S1.1 10).toInt ∧ (S1.1 13) = (S.1 13) ∧ (S1.1 15) = (S.1 15) ∧ (S1.1 16) = (S.1 16)) ∧ (CS nx kL (S1.1 9).toInt (S1.1 10).toInt (S1.1 13) S1 ∧ AF nx ((S1.2.1 10) (ix (S1.1 12))).toInt S1 ∧ OH nx S0 S1 ∧ PD nx kd S1 ∧ TM S S1))) {S : mS} (hL : LV d G GA X Y) (h : SI nx n so pl wo ws S0 d G GA X Y GW GT S) (hX : X ≤ 1700 ∧ Y ≤ 850) (hD : D ≤ d) (hW : GW ≤ (d : Int) - 12 ∧ GT ≤ 6 * (d : Int) - 3) (hf : (S.1 4) = 0) (hG : G + 2 ≤ 100 + 20 * (d : Int) ∧ GA + 2 ≤ 40 + 4 * (d : Int)) (hC : CS nx kL (S.1 9).toInt (S.1 10).toInt (S.1 13) S) (hA : AF nx ((S.2.1 10) (ix (S.1 12))).toInt S) (hO : OH nx S0 S) (hP : PD nx kd S) (hk : kd + 1 ≤ (d : Int)) (hE : CF nx kL (S.1 9).toInt (S.1 10).toInt 0 1 0 0 0 (S.1 13) S) : ∀ (x1 : Int32) (x3 : Int32) (x4 : Int32) (Sx : mS), (SI nx n so pl wo ws S0 d G GA (X + 18) (Y + 8) GW (GT + 7) Sx ∧ ((Sx.1 4) = 0 → (S.1 4) = 0 ∧ (S.1 3).toInt < (Sx.1 3).toInt) ∧ (S.1 8).toInt ≤ (Sx.1 8).toInt ∧ (S.1 9).toInt ≤ (Sx.1 9).toInt ∧ (S.1 10).toInt ≤ (Sx.1 10).toInt ∧ (Sx.1 13) = (S.1 13) ∧ (Sx.1 15) = (S.1 15) ∧ (Sx.1 16) = (S.1 16) + 1 ∧ x1 = (S.1 9) ∧ (S.1 9).toInt < (Sx.1 9).toInt ∧ WB nx pl GW (GT + 3) Sx ∧ LA nx x3.toInt ∧ x3.toInt < 12000 * nx + 12000 ∧ LA nx x4.toInt ∧ x4.toInt < 12000 * nx + 12000) ∧ (CD nx ((ix x1, 3, (0 : Int32)) :: kL) (Sx.1 9).toInt (Sx.1 10).toInt Sx ∧ AF nx ((Sx.2.1 10) (ix (Sx.1 12))).toInt Sx ∧ OH nx S0 Sx ∧ TM S Sx ∧ TF nx S x1 Sx ∧ (x3.toInt = -1 ∨ AV nx Sx x3) ∧ (x4.toInt = -1 ∨ AV nx Sx x4)) → wp_trial_394 r_block (fun S1 => (SI nx n so pl wo ws S0 d G GA (X + 18) (Y + 8) GW (GT + 3) S1 ∧ ((S1.1 4) = 0 → (S.1 4) = 0 ∧ (S.1 3).toInt < (S1.1 3).toInt) ∧ (S.1 8).toInt ≤ (S1.1 8).toInt ∧ (S.1 9).toInt ≤ (S1.1 9).toInt ∧ (S.1 10).toInt ≤ (S1.1 10).toInt ∧ (S1.1 13) = (S.1 13) ∧ (S1.1 15) = (S.1 15) ∧ (S1.1 16) = (S.1 16)) ∧ (CS nx kL (S1.1 9).toInt (S1.1 10).toInt (S1.1 13) S1 ∧ AF nx ((S1.2.1 10) (ix (S1.1 12))).toInt S1 ∧ OH nx S0 S1 ∧ PD nx kd S1 ∧ TM S S1)) x1 x3 x4 Sx := by
  have tS0 : TM S S := TM_rf
  have hwm : 8 * ((S.1 10).toInt - 500 * nx) ≤ 4000 + GW ∧ 9 * ((S.1 9).toInt - 500 * nx) ≤ 4000 + GT := by
    have q1 := h.2.2.2.1 hf
    have q2 := h.1.1
    have q3 := q2.2.2.2.2.2.2 hf
    have q4 := q2.1.2.2 (ix (S.1 3)) (by unfold ix; omega)
    omega
  have pdb : 0 ≤ (S.1 16).toInt ∧ (S.1 16).toInt ≤ 10 := ⟨(hP hf).1, by
    have q := (hP hf).2.1
    have q2 := hL.1
    omega⟩
  have j425 := @sj425_trial nx n so pl wo ws S0 D d G GA X Y GW GT kL kd r_block hf_block hr_block S hL h hX hD hW hf hG hC hA hO hP hk hE
  intro x1 x3 x4 Sx hJ394
  unfold wp_trial_394
  obtain ⟨hJ394, iJ394⟩ := hJ394
  intro S64 eS64
  have lS64 : ∀ m : Int, AV nx Sx x3 → AF nx m Sx → AF nx m S64 := fun m h8 h9 => AF_lv eS64 h8 h9
  have dS64 : NP Sx S64 := NP_z eS64 (by decide)
  have tS64 : NT Sx S64 := NT_z eS64 (by decide)
  have nS64 : NC Sx S64 := NC_z eS64 (by decide)
  have oS64 : NO nx Sx S64 := NO_z eS64
  have aS64 : AF nx ((Sx.2.1 10) (ix (Sx.1 12))).toInt S64 := AF_lx eS64 iJ394.2.2.2.2.2.1 iJ394.2.1
  refine ⟨by (try clear hC hA hO hP hk hE tS0 iJ394 lS64 dS64 tS64 nS64 oS64 aS64); (try clear j425); (try clear j394); (try clear j230); (try clear hr_block); (try clear hf_block); grind -mbtc (splits := 20) (gen := 40) (ematch := 20) [SI, PT, WB_ad2, WB_nt, WB_on, WB_fi, WB_nf, LA_n, LA_p, OR1, B01, PTc_up, ix_int, ix_1, XI, PI, PJ, BU, LV, LA_i, q_zz, q_za, q_zga, q_fza, q_fx, q_fga, q_gza, q_gfa, q_gx, q_zf1, q_zg1, q_ff, q_fg1, q_gf1, q_gg, ti_link, in1000], ?_⟩
  intro z65 ez65
  have vz65 : AV nx S64 z65 := by
        rw [ez65]
        exact AV_tb (w := x1) aS64 (by (try clear hC hA hO hP hk hE tS0 iJ394 lS64 dS64 tS64 nS64 oS64 aS64); (try clear j425); (try clear j394); (try clear j230); (try clear hr_block); (try clear hf_block); grind -mbtc (splits := 20) (gen := 40) (ematch := 20) [SI, PT, WB_ad2, WB_nt, WB_on, WB_fi, WB_nf, LA_n, LA_p, OR1, B01, PTc_up, ix_int, ix_1, XI, PI, PJ, BU, LV, LA_i, q_zz, q_za, q_zga, q_fza, q_fx, q_fga, q_gza, q_gfa, q_gx, q_zf1, q_zg1, q_ff, q_fg1, q_gf1, q_gg, ti_link, in1000]) (by (try clear hC hA hO hP hk hE tS0 iJ394 lS64 dS64 tS64 nS64 oS64 aS64); (try clear j425); (try clear j394); (try clear j230); (try clear hr_block); (try clear hf_block); grind -mbtc (splits := 20) (gen := 40) (ematch := 20) [SI, PT, WB_ad2, WB_nt, WB_on, WB_fi, WB_nf, LA_n, LA_p, OR1, B01, PTc_up, ix_int, ix_1, XI, PI, PJ, BU, LV, LA_i, q_zz, q_za, q_zga, q_fza, q_fx, q_fga, q_gza, q_gfa, q_gx, q_zf1, q_zg1, q_ff, q_fg1, q_gf1, q_gg, ti_link, in1000])
  refine fm_lead _ _ _ _ (fun S66 hF1 pS66 => ?_) (sgv_lead (nx := nx) _ (by (try clear hC hA hO hP hk hE tS0 iJ394 lS64 dS64 tS64 nS64 oS64 aS64 vz65); (try clear j425); (try clear j394); (try clear j230); (try clear hr_block); (try clear hf_block); grind -mbtc (splits := 20) (gen := 40) (ematch := 20) [SI, PT, WB_ad2, WB_nt, WB_on, WB_fi, WB_nf, LA_n, LA_p, OR1, B01, PTc_up, ix_int, ix_1, XI, PI, PJ, BU, LV, LA_i, q_zz, q_za, q_zga, q_fza, q_fx, q_fga, q_gza, q_gfa, q_gx, q_zf1, q_zg1, q_ff, q_fg1, q_gf1, q_gg, ti_link, in1000]))
  obtain ⟨pS66, qS66⟩ := pS66
  have tS66 : NT S64 S66 := NT_fr hF1 (by decide) (by decide)
  have fS66 : S66.1 4 = 0 → S64.1 4 = 0 := fun q => (hF1.1 4 (by decide)).symm.trans q
  have dS66 : NP S64 S66 := NP_fr hF1 (by decide) (by decide) fS66
  have nS66 : NC S64 S66 := NC_fr hF1 (by decide) (by decide) fS66
  have z3_S66 := hF1.1 3 (by decide)
  have z4_S66 := hF1.1 4 (by decide)
  have z6_S66 := hF1.1 6 (by decide)
  have z7_S66 := hF1.1 7 (by decide)
  have z8_S66 := hF1.1 8 (by decide)
  have z9_S66 := hF1.1 9 (by decide)
  have z10_S66 := hF1.1 10 (by decide)
  have z11_S66 := hF1.1 11 (by decide)
  have z12_S66 := hF1.1 12 (by decide)
  have z13_S66 := hF1.1 13 (by decide)
  have z15_S66 := hF1.1 15 (by decide)
  have z17_S66 := hF1.1 17 (by decide)
  have z18_S66 := hF1.1 18 (by decide)
  have z19_S66 := hF1.1 19 (by decide)
  have z20_S66 := hF1.1 20 (by decide)
  have z16_S66 := hF1.1 16 (by decide)
  have f1_S66 := hF1.2.1 1 (by decide)
  have f1a_S66 := Fr_fa hF1 1 (by decide)
  have f2_S66 := hF1.2.1 2 (by decide)
  have f2a_S66 := Fr_fa hF1 2 (by decide)
  have f8_S66 := hF1.2.1 8 (by decide)
  have f8a_S66 := Fr_fa hF1 8 (by decide)
  have f10_S66 := hF1.2.1 10 (by decide)
  have f10a_S66 := Fr_fa hF1 10 (by decide)
  have f25_S66 := hF1.2.1 25 (by decide)
  have f25a_S66 := Fr_fa hF1 25 (by decide)
  have f28_S66 := hF1.2.1 28 (by decide)
  have f28a_S66 := Fr_fa hF1 28 (by decide)
  have f35_S66 := hF1.2.1 35 (by decide)
  have f35a_S66 := Fr_fa hF1 35 (by decide)
  have f36_S66 := hF1.2.1 36 (by decide)
  have f36a_S66 := Fr_fa hF1 36 (by decide)
  have f45_S66 := hF1.2.1 45 (by decide)
  have f45a_S66 := Fr_fa hF1 45 (by decide)
  have f46_S66 := hF1.2.1 46 (by decide)
  have f46a_S66 := Fr_fa hF1 46 (by decide)
  have f48_S66 := hF1.2.1 48 (by decide)
  have f48a_S66 := Fr_fa hF1 48 (by decide)
  have f40_S66 := hF1.2.1 40 (by decide)
  have f40a_S66 := Fr_fa hF1 40 (by decide)
  have f41_S66 := hF1.2.1 41 (by decide)
  have f41a_S66 := Fr_fa hF1 41 (by decide)
  have f42_S66 := hF1.2.1 42 (by decide)
  have f42a_S66 := Fr_fa hF1 42 (by decide)
  have f44_S66 := hF1.2.1 44 (by decide)
  have f44a_S66 := Fr_fa hF1 44 (by decide)
  have f29_S66 := hF1.2.1 29 (by decide)
  have f29a_S66 := Fr_fa hF1 29 (by decide)
  have f27_S66 := hF1.2.1 27 (by decide)
  have f27a_S66 := Fr_fa hF1 27 (by decide)
  have f37_S66 := hF1.2.1 37 (by decide)
  have f37a_S66 := Fr_fa hF1 37 (by decide)
  have f38_S66 := hF1.2.1 38 (by decide)
  have f38a_S66 := Fr_fa hF1 38 (by decide)
  have g3_S66 := hF1.2.2 3 (by decide)
  have g3a_S66 := Fr_ga hF1 3 (by decide)
  have g4_S66 := hF1.2.2 4 (by decide)
  have g4a_S66 := Fr_ga hF1 4 (by decide)
  clear hF1
  have aS66 : AF nx ((Sx.2.1 10) (ix (Sx.1 12))).toInt S66 := qS66.2.1 _ aS64 vz65
  have wS66 : x4.toInt = -1 ∨ AV nx S66 x4 := iJ394.2.2.2.2.2.2.imp id (fun q => AV_m q (by (try clear hC hA hO hP hk hE tS0 iJ394 lS64 dS64 tS64 nS64 oS64 aS64 vz65 qS66 tS66 dS66 nS66 aS66); (try clear j425); (try clear j394); (try clear j230); (try clear hr_block); (try clear hf_block); grind -mbtc (splits := 20) (gen := 40) (ematch := 20) [SI, PT, WB_ad2, WB_nt, WB_on, WB_fi, WB_nf, LA_n, LA_p, OR1, B01, PTc_up, ix_int, ix_1, XI, PI, PJ, BU, LV, LA_i, q_zz, q_za, q_zga, q_fza, q_fx, q_fga, q_gza, q_gfa, q_gx, q_zf1, q_zg1, q_ff, q_fg1, q_gf1, q_gg, ti_link, in1000]) (by (try clear hC hA hO hP hk hE tS0 iJ394 lS64 dS64 tS64 nS64 oS64 aS64 vz65 qS66 tS66 dS66 nS66 aS66); (try clear j425); (try clear j394); (try clear j230); (try clear hr_block); (try clear hf_block); grind -mbtc (splits := 20) (gen := 40) (ematch := 20) [SI, PT, WB_ad2, WB_nt, WB_on, WB_fi, WB_nf, LA_n, LA_p, OR1, B01, PTc_up, ix_int, ix_1, XI, PI, PJ, BU, LV, LA_i, q_zz, q_za, q_zga, q_fza, q_fx, q_fga, q_gza, q_gfa, q_gx, q_zf1, q_zg1, q_ff, q_fg1, q_gf1, q_gg, ti_link, in1000]))
  intro S67 eS67
  have lS67 : ∀ m : Int, AV nx S66 x4 → AF nx m S66 → AF nx m S67 := fun m h8 h9 => AF_lv eS67 h8 h9
  have dS67 : NP S66 S67 := NP_z eS67 (by decide)
  have tS67 : NT S66 S67 := NT_z eS67 (by decide)
  have nS67 : NC S66 S67 := NC_z eS67 (by decide)
  have oS67 : NO nx S66 S67 := NO_z eS67
  have aS67 : AF nx ((Sx.2.1 10) (ix (Sx.1 12))).toInt S67 := AF_lx eS67 wS66 aS66
  refine ⟨by (try clear hC hA hO hP hk hE tS0 iJ394 lS64 dS64 tS64 nS64 oS64 aS64 vz65 qS66 tS66 dS66 nS66 aS66 wS66 lS67 dS67 tS67 nS67 oS67 aS67); (try clear j425); (try clear j394); (try clear j230); (try clear hr_block); (try clear hf_block); grind -mbtc (splits := 20) (gen := 40) (ematch := 20) [SI, PT, WB_ad2, WB_nt, WB_on, WB_fi, WB_nf, LA_n, LA_p, OR1, B01, PTc_up, ix_int, ix_1, XI, PI, PJ, BU, LV, LA_i, q_zz, q_za, q_zga, q_fza, q_fx, q_fga, q_gza, q_gfa, q_gx, q_zf1, q_zg1, q_ff, q_fg1, q_gf1, q_gg, ti_link, in1000], ?_⟩
  intro z68 ez68
  have vz68 : AV nx S67 z68 := by
        rw [ez68]
        exact AV_tb (w := x1) aS67 (by (try clear hC hA hO hP hk hE tS0 iJ394 lS64 dS64 tS64 nS64 oS64 aS64 vz65 qS66 tS66 dS66 nS66 aS66 wS66 lS67 dS67 tS67 nS67 oS67 aS67); (try clear j425); (try clear j394); (try clear j230); (try clear hr_block); (try clear hf_block); grind -mbtc (splits := 20) (gen := 40) (ematch := 20) [SI, PT, WB_ad2, WB_nt, WB_on, WB_fi, WB_nf, LA_n, LA_p, OR1, B01, PTc_up, ix_int, ix_1, XI, PI, PJ, BU, LV, LA_i, q_zz, q_za, q_zga, q_fza, q_fx, q_fga, q_gza, q_gfa, q_gx, q_zf1, q_zg1, q_ff, q_fg1, q_gf1, q_gg, ti_link, in1000]) (by (try clear hC hA hO hP hk hE tS0 iJ394 lS64 dS64 tS64 nS64 oS64 aS64 vz65 qS66 tS66 dS66 nS66 aS66 wS66 lS67 dS67 tS67 nS67 oS67 aS67); (try clear j425); (try clear j394); (try clear j230); (try clear hr_block); (try clear hf_block); grind -mbtc (splits := 20) (gen := 40) (ematch := 20) [SI, PT, WB_ad2, WB_nt, WB_on, WB_fi, WB_nf, LA_n, LA_p, OR1, B01, PTc_up, ix_int, ix_1, XI, PI, PJ, BU, LV, LA_i, q_zz, q_za, q_zga, q_fza, q_fx, q_fga, q_gza, q_gfa, q_gx, q_zf1, q_zg1, q_ff, q_fg1, q_gf1, q_gg, ti_link, in1000])
  refine fm_lead _ _ _ _ (fun S69 hF2 pS69 => ?_) (sgv_lead (nx := nx) _ (by (try clear hC hA hO hP hk hE tS0 iJ394 lS64 dS64 tS64 nS64 oS64 aS64 vz65 qS66 tS66 dS66 nS66 aS66 wS66 lS67 dS67 tS67 nS67 oS67 aS67 vz68); (try clear j425); (try clear j394); (try clear j230); (try clear hr_block); (try clear hf_block); grind -mbtc (splits := 20) (gen := 40) (ematch := 20) [SI, PT, WB_ad2, WB_nt, WB_on, WB_fi, WB_nf, LA_n, LA_p, OR1, B01, PTc_up, ix_int, ix_1, XI, PI, PJ, BU, LV, LA_i, q_zz, q_za, q_zga, q_fza, q_fx, q_fga, q_gza, q_gfa, q_gx, q_zf1, q_zg1, q_ff, q_fg1, q_gf1, q_gg, ti_link, in1000]))
  obtain ⟨pS69, qS69⟩ := pS69
  have tS69 : NT S67 S69 := NT_fr hF2 (by decide) (by decide)
  have fS69 : S69.1 4 = 0 → S67.1 4 = 0 := fun q => (hF2.1 4 (by decide)).symm.trans q
  have dS69 : NP S67 S69 := NP_fr hF2 (by decide) (by decide) fS69
  have nS69 : NC S67 S69 := NC_fr hF2 (by decide) (by decide) fS69
  have z3_S69 := hF2.1 3 (by decide)
  have z4_S69 := hF2.1 4 (by decide)
  have z6_S69 := hF2.1 6 (by decide)
  have z7_S69 := hF2.1 7 (by decide)
  have z8_S69 := hF2.1 8 (by decide)
  have z9_S69 := hF2.1 9 (by decide)
  have z10_S69 := hF2.1 10 (by decide)
  have z11_S69 := hF2.1 11 (by decide)
  have z12_S69 := hF2.1 12 (by decide)
  have z13_S69 := hF2.1 13 (by decide)
  have z15_S69 := hF2.1 15 (by decide)
  have z17_S69 := hF2.1 17 (by decide)
  have z18_S69 := hF2.1 18 (by decide)
  have z19_S69 := hF2.1 19 (by decide)
  have z20_S69 := hF2.1 20 (by decide)
  have z16_S69 := hF2.1 16 (by decide)
  have f1_S69 := hF2.2.1 1 (by decide)
  have f1a_S69 := Fr_fa hF2 1 (by decide)
  have f2_S69 := hF2.2.1 2 (by decide)
  have f2a_S69 := Fr_fa hF2 2 (by decide)
  have f8_S69 := hF2.2.1 8 (by decide)
  have f8a_S69 := Fr_fa hF2 8 (by decide)
  have f10_S69 := hF2.2.1 10 (by decide)
  have f10a_S69 := Fr_fa hF2 10 (by decide)
  have f25_S69 := hF2.2.1 25 (by decide)
  have f25a_S69 := Fr_fa hF2 25 (by decide)
  have f28_S69 := hF2.2.1 28 (by decide)
  have f28a_S69 := Fr_fa hF2 28 (by decide)
  have f35_S69 := hF2.2.1 35 (by decide)
  have f35a_S69 := Fr_fa hF2 35 (by decide)
  have f36_S69 := hF2.2.1 36 (by decide)
  have f36a_S69 := Fr_fa hF2 36 (by decide)
  have f45_S69 := hF2.2.1 45 (by decide)
  have f45a_S69 := Fr_fa hF2 45 (by decide)
  have f46_S69 := hF2.2.1 46 (by decide)
  have f46a_S69 := Fr_fa hF2 46 (by decide)
  have f48_S69 := hF2.2.1 48 (by decide)
  have f48a_S69 := Fr_fa hF2 48 (by decide)
  have f40_S69 := hF2.2.1 40 (by decide)
  have f40a_S69 := Fr_fa hF2 40 (by decide)
  have f41_S69 := hF2.2.1 41 (by decide)
  have f41a_S69 := Fr_fa hF2 41 (by decide)
  have f42_S69 := hF2.2.1 42 (by decide)
  have f42a_S69 := Fr_fa hF2 42 (by decide)
  have f44_S69 := hF2.2.1 44 (by decide)
  have f44a_S69 := Fr_fa hF2 44 (by decide)
  have f29_S69 := hF2.2.1 29 (by decide)
  have f29a_S69 := Fr_fa hF2 29 (by decide)
  have f27_S69 := hF2.2.1 27 (by decide)
  have f27a_S69 := Fr_fa hF2 27 (by decide)
  have f37_S69 := hF2.2.1 37 (by decide)
  have f37a_S69 := Fr_fa hF2 37 (by decide)
  have f38_S69 := hF2.2.1 38 (by decide)
  have f38a_S69 := Fr_fa hF2 38 (by decide)
  have g3_S69 := hF2.2.2 3 (by decide)
  have g3a_S69 := Fr_ga hF2 3 (by decide)
  have g4_S69 := hF2.2.2 4 (by decide)
  have g4a_S69 := Fr_ga hF2 4 (by decide)
  clear hF2
  have aS69 : AF nx ((Sx.2.1 10) (ix (Sx.1 12))).toInt S69 := qS69.2.1 _ aS67 vz68
  have tf69 : TF nx S x1 S69 := TF_np (TF_np (TF_np (TF_np iJ394.2.2.2.2.1 dS64) dS66) dS67) dS69
  have uS69 : TM S S69 := by (try clear j425); (try clear j394); (try clear j230); (try clear hr_block); (try clear hf_block); grind (ematch := 30) (gen := 40) (splits := 15) [→ CF_nc, → CS_nc, → AF_na, → OH_no, → CS_step, → CS_CF, AF_nf, AQ_o, CS_nf, q_zz, q_za, q_zga, q_fza, q_fx, q_fga, q_gza, q_gfa, q_gx, q_zf1, q_zg1, q_ff, q_fg1, q_gf1, q_gg, AV_i, → CD_nc, CD_nf, ← CD_CS, → PD_np, → TM_nt, → TM_tr, ti_link]
  have cS69 : CD nx ((ix x1, 3, (0 : Int32)) :: kL) (S69.1 9).toInt (S69.1 10).toInt S69 := by (try clear j425); (try clear j394); (try clear j230); (try clear hr_block); (try clear hf_block); grind (ematch := 30) (gen := 40) (splits := 15) [→ CF_nc, → CS_nc, → AF_na, → OH_no, → CS_step, → CS_CF, AF_nf, AQ_o, CS_nf, q_zz, q_za, q_zga, q_fza, q_fx, q_fga, q_gza, q_gfa, q_gx, q_zf1, q_zg1, q_ff, q_fg1, q_gf1, q_gg, AV_i, → CD_nc, CD_nf, ← CD_CS, → PD_np, → TM_nt, → TM_tr, ti_link]
  exact j425 _ _ (⟨by refine ⟨⟨⟨?_, ?_, ?_, ?_⟩, ?_, ?_, ?_, ?_⟩, ?_, ?_, ?_, ?_, ?_, ?_, ?_, ?_, ?_⟩ <;> ((try clear hC hA hO hP hk hE tS0 iJ394 lS64 dS64 tS64 nS64 oS64 aS64 vz65 qS66 tS66 dS66 nS66 aS66 wS66 lS67 dS67 tS67 nS67 oS67 aS67 vz68 qS69 tS69 dS69 nS69 aS69 tf69 uS69 cS69); (try clear j425); (try clear j394); (try clear j230); (try clear hr_block); (try clear hf_block); grind -mbtc (splits := 20) (gen := 40) (ematch := 20) [SI, PT, WB_ad2, WB_nt, WB_on, WB_fi, WB_nf, LA_n, LA_p, OR1, B01, PTc_up, ix_int, ix_1, XI, PI, PJ, BU, LV, LA_i, q_zz, q_za, q_zga, q_fza, q_fx, q_fga, q_gza, q_gfa, q_gx, q_zf1, q_zg1, q_ff, q_fg1, q_gf1, q_gg, ti_link, in1000]), by refine ⟨?_, ?_, ?_, ?_, ?_⟩ <;> ((try clear j425); (try clear j394); (try clear j230); (try clear hr_block); (try clear hf_block); grind (ematch := 30) (gen := 40) (splits := 15) [→ CF_nc, → CS_nc, → AF_na, → OH_no, → CS_step, → CS_CF, AF_nf, AQ_o, CS_nf, q_zz, q_za, q_zga, q_fza, q_fx, q_fga, q_gza, q_gfa, q_gx, q_zf1, q_zg1, q_ff, q_fg1, q_gf1, q_gg, AV_i, → CD_nc, CD_nf, ← CD_CS, → PD_np, → TM_nt, → TM_tr, ti_link])⟩)
