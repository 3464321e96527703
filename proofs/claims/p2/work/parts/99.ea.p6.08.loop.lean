
set_option maxHeartbeats 4000000 in
theorem sg_loop {nx n : Nat} {so pl : Nat → Int32} {wo ws : Nat → Int64} {S0 : mS} {D d : Nat} {G GA X Y GW GT : Int} {kL : LT3} {kd : Int} {r_block : mS → (mS → Prop) → Prop} (hf_block : FmV [3, 4, 7, 8, 9, 10, 11, 13, 14, 15, 16, 17, 18, 19, 20] [8, 10, 12, 13, 14, 15, 16, 17, 18, 19, 20, 21, 24, 25, 26, 27, 28, 29, 30, 31, 32, 33, 34, 35, 36, 37, 38, 39, 40, 41, 42, 43, 44, 45, 46, 47, 48] [9] (r_block)) (hr_block : ∀ (d : Nat) (G GA X Y GW GT : Int) (kL : LT3) (kd : Int) (S : mS), D ≤ d → LV d G GA X Y → X ≤ 1800 ∧ Y ≤ 900 → GW ≤ (d : Int) - 10 ∧ GT ≤ 6 * (d : Int) + 6 → SI nx n so pl wo ws S0 d G GA X Y GW GT S → (CS nx kL (S.1 9).toInt (S.1 10).toInt (S.1 13) S) → (AF nx ((S.2.1 10) (ix (S.1 12))).toInt S) → (OH nx S0 S) → (PD nx kd S) → (kd ≤ (d : Int)) → r_block S (fun S1 => (SI nx n so pl wo ws S0 d (G - 10) (GA - 4) X Y (GW - 2) (GT - 2) S1 ∧ ((S1.1 4) = 0 → (S.1 4) = 0 ∧ (S.1 3).toInt + 2 ≤ (S1.1 3).toInt) ∧ (S.1 8).toInt ≤ (S1.1 8).toInt ∧ (S.1 9).toInt ≤ (S1.1 9).toInt ∧ (S.1 10).toInt ≤ (S1.1 10).toInt ∧ (S1.1 13) = (S.1 13) ∧ (S1.1 15) = (S.1 15) ∧ (S1.1 16) = (S.1 16)) ∧ (CS nx kL (S1.1 9).toInt (S1.1 10).toInt (S1.1 13) S1 ∧ AF nx ((S1.2.1 10) (ix (S1.1 12))).toInt S1 ∧ OH nx S0 S1 ∧ PD nx kd S1 ∧ TM S S1))) {S : mS} (hL : LV d G GA X Y) (h : SI nx n so pl wo ws S0 d G GA X Y GW GT S) (hX : X ≤ 1700 ∧ Y ≤ 850) (hD : D ≤ d) (hW : GW ≤ (d : Int) - 17 ∧ GT ≤ 6 * (d : Int)) (hf : (S.1 4) = 0) (hG : G + 3 ≤ 100 + 20 * (d : Int) ∧ GA + 3 ≤ 40 + 4 * (d : Int)) (hC : CS nx kL (S.1 9).toInt (S.1 10).toInt (S.1 13) S) (hA : AF nx ((S.2.1 10) (ix (S.1 12))).toInt S) (hO : OH nx S0 S) (hP : PD nx kd S) (hk : kd + 1 ≤ (d : Int)) : wp_loop r_block S (fun S1 => (SI nx n so pl wo ws S0 d G GA (X + 14) (Y + 6) (GW + 5) GT S1 ∧ ((S1.1 4) = 0 → (S.1 4) = 0 ∧ (S.1 3).toInt < (S1.1 3).toInt) ∧ (S.1 8).toInt ≤ (S1.1 8).toInt ∧ (S.1 9).toInt ≤ (S1.1 9).toInt ∧ (S.1 10).toInt ≤ (S1.1 10).toInt ∧ (S1.1 13) = (S.1 13) ∧ (S1.1 15) = (S.1 15) ∧ (S1.1 16) = (S.1 16)) ∧ (CS nx kL (S1.1 9).toInt (S1.1 10).toInt (S1.1 13) S1 ∧ AF nx ((S1.2.1 10) (ix (S1.1 12))).toInt S1 ∧ OH nx S0 S1 ∧ PD nx kd S1 ∧ TM S S1)) := by
  have tS0 : TM S S := TM_rf
  have hwm : 8 * ((S.1 10).toInt - 500 * nx) ≤ 4000 + GW ∧ 9 * ((S.1 9).toInt - 500 * nx) ≤ 4000 + GT := by
    have q1 := h.2.2.2.1 hf
    have q2 := h.1.1
    have q3 := q2.2.2.2.2.2.2 hf
    have q4 := q2.1.2.2 (ix (S.1 3)) (by unfold ix; omega)
    omega
  unfold wp_loop
  have j137 : ∀ (x1 : Int32) (x2 : Int32) (x3 : Int32) (x4 : Int32) (x5 : Int32) (x6 : Int32) (y1 : Int32) (Sx : mS), (SI nx n so pl wo ws S0 d (G + 3) (GA + 3) (X + 8) (Y + 3) (GW + 7) GT Sx ∧ ((Sx.1 4) = 0 → (S.1 4) = 0 ∧ (S.1 3).toInt < (Sx.1 3).toInt) ∧ (S.1 8).toInt ≤ (Sx.1 8).toInt ∧ (S.1 9).toInt ≤ (Sx.1 9).toInt ∧ (S.1 10).toInt ≤ (Sx.1 10).toInt ∧ (Sx.1 13) = (S.1 13) ∧ (Sx.1 16) = (S.1 16) ∧ (Sx.1 15) = x1 ∧ x2 = (S.1 15) ∧ x1 = (S.1 10) ∧ (S.1 10).toInt < (Sx.1 10).toInt ∧ (x2.toInt = -1 ∨ (500 * nx ≤ x2.toInt ∧ x2.toInt < (Sx.1 10).toInt)) ∧ (x3 = 0 ∨ x3 = 1) ∧ (x6 = 0 ∨ x6 = 1) ∧ (y1 = 0 ∨ y1 = 1) ∧ 12000 * nx ≤ x4.toInt ∧ x4.toInt < 12000 * nx + 12000 ∧ (x5.toInt = -1 ∨ 12000 * nx ≤ x5.toInt) ∧ x5.toInt < 12000 * nx + 12000) ∧ (CS nx ((ix x4, 0, (S.1 13)) :: (ix x1, 4, (0 : Int32)) :: kL) (Sx.1 9).toInt (Sx.1 10).toInt (S.1 13) Sx ∧ AF nx ((Sx.2.1 10) (ix (Sx.1 12))).toInt Sx ∧ OH nx S0 Sx ∧ PD nx kd Sx ∧ TM S Sx ∧ (Sx.2.1 40) (ix x1) = (S.1 13) ∧ AV nx Sx x5) → wp_loop_137 r_block (fun S1 => (SI nx n so pl wo ws S0 d G GA (X + 14) (Y + 6) (GW + 5) GT S1 ∧ ((S1.1 4) = 0 → (S.1 4) = 0 ∧ (S.1 3).toInt < (S1.1 3).toInt) ∧ (S.1 8).toInt ≤ (S1.1 8).toInt ∧ (S.1 9).toInt ≤ (S1.1 9).toInt ∧ (S.1 10).toInt ≤ (S1.1 10).toInt ∧ (S1.1 13) = (S.1 13) ∧ (S1.1 15) = (S.1 15) ∧ (S1.1 16) = (S.1 16)) ∧ (CS nx kL (S1.1 9).toInt (S1.1 10).toInt (S1.1 13) S1 ∧ AF nx ((S1.2.1 10) (ix (S1.1 12))).toInt S1 ∧ OH nx S0 S1 ∧ PD nx kd S1 ∧ TM S S1)) x1 x2 x3 x4 x5 x6 y1 Sx := by
    intro x1 x2 x3 x4 x5 x6 y1 Sx hJ137
    unfold wp_loop_137
    obtain ⟨hJ137, iJ137⟩ := hJ137
    refine ⟨by (try clear hC hA hO hP hk tS0 iJ137); (try clear j137); (try clear hr_block); (try clear hf_block); grind -mbtc (splits := 20) (gen := 30) (ematch := 15) [SI, PT, WB_ad2, WB_nw, LA_n, LA_p, OR1, B01, PW_up, ix_int, XI, PI, PJ, BU, LV, LA_i, q_zz, q_za, q_zga, q_fza, q_fx, q_fga, q_gza, q_gfa, q_gx, q_zf1, q_zg1, q_ff, q_fg1, q_gf1, q_gg, ti_link, in1000, in24000], ?_⟩
    intro S18 eS18
    have dS18 : NP Sx S18 := NP_z eS18 (by decide)
    have tS18 : NT Sx S18 := NT_z eS18 (by decide)
    have nS18 : NC Sx S18 := NC_z eS18 (by decide)
    have mS18 : NA Sx S18 := NA_z eS18 (by decide)
    have oS18 : NO nx Sx S18 := NO_z eS18
    refine hf_block _ _ _ (fun S19 hF1 pS19 => ?_) (hr_block d (G + 3) (GA + 3) (X + 8) (Y + 3) (GW + 7) GT ((ix x4, 0, (S.1 13)) :: (ix x1, 4, (0 : Int32)) :: kL) kd _ (by (try clear hC hA hO hP hk tS0 iJ137 dS18 tS18 nS18 mS18 oS18); (try clear j137); (try clear hr_block); (try clear hf_block); grind -mbtc (splits := 20) (gen := 30) (ematch := 15) [SI, PT, WB_ad2, WB_nw, LA_n, LA_p, OR1, B01, PW_up, ix_int, XI, PI, PJ, BU, LV, LA_i, q_zz, q_za, q_zga, q_fza, q_fx, q_fga, q_gza, q_gfa, q_gx, q_zf1, q_zg1, q_ff, q_fg1, q_gf1, q_gg, ti_link, in1000, in24000]) (by (try clear hC hA hO hP hk tS0 iJ137 dS18 tS18 nS18 mS18 oS18); (try clear j137); (try clear hr_block); (try clear hf_block); grind -mbtc (splits := 20) (gen := 30) (ematch := 15) [SI, PT, WB_ad2, WB_nw, LA_n, LA_p, OR1, B01, PW_up, ix_int, XI, PI, PJ, BU, LV, LA_i, q_zz, q_za, q_zga, q_fza, q_fx, q_fga, q_gza, q_gfa, q_gx, q_zf1, q_zg1, q_ff, q_fg1, q_gf1, q_gg, ti_link, in1000, in24000]) (by (try clear hC hA hO hP hk tS0 iJ137 dS18 tS18 nS18 mS18 oS18); (try clear j137); (try clear hr_block); (try clear hf_block); grind -mbtc (splits := 20) (gen := 30) (ematch := 15) [SI, PT, WB_ad2, WB_nw, LA_n, LA_p, OR1, B01, PW_up, ix_int, XI, PI, PJ, BU, LV, LA_i, q_zz, q_za, q_zga, q_fza, q_fx, q_fga, q_gza, q_gfa, q_gx, q_zf1, q_zg1, q_ff, q_fg1, q_gf1, q_gg, ti_link, in1000, in24000]) (by (try clear hC hA hO hP hk tS0 iJ137 dS18 tS18 nS18 mS18 oS18); (try clear j137); (try clear hr_block); (try clear hf_block); grind -mbtc (splits := 20) (gen := 30) (ematch := 15) [SI, PT, WB_ad2, WB_nw, LA_n, LA_p, OR1, B01, PW_up, ix_int, XI, PI, PJ, BU, LV, LA_i, q_zz, q_za, q_zga, q_fza, q_fx, q_fga, q_gza, q_gfa, q_gx, q_zf1, q_zg1, q_ff, q_fg1, q_gf1, q_gg, ti_link, in1000, in24000]) (by (try clear hC hA hO hP hk tS0 iJ137 dS18 tS18 nS18 mS18 oS18); (try clear j137); (try clear hr_block); (try clear hf_block); grind -mbtc (splits := 20) (gen := 30) (ematch := 15) [SI, PT, WB_ad2, WB_nw, LA_n, LA_p, OR1, B01, PW_up, ix_int, XI, PI, PJ, BU, LV, LA_i, q_zz, q_za, q_zga, q_fza, q_fx, q_fga, q_gza, q_gfa, q_gx, q_zf1, q_zg1, q_ff, q_fg1, q_gf1, q_gg, ti_link, in1000, in24000]) (by (try clear j137); (try clear hr_block); (try clear hf_block); grind (ematch := 12) (gen := 12) (splits := 15) [→ CF_nc, → CS_nc, → AF_na, → OH_no, → CS_step, → CS_CF, AF_nf, AQ_o, CS_nf, q_zz, q_za, q_zga, q_fza, q_fx, q_fga, q_gza, q_gfa, q_gx, q_zf1, q_zg1, q_ff, q_fg1, q_gf1, q_gg, AV_i, → CD_nc, CD_nf, ← CD_CS, → PD_np, → TM_nt, → TM_tr, ti_link]) (by (try clear j137); (try clear hr_block); (try clear hf_block); grind (ematch := 12) (gen := 12) (splits := 15) [→ CF_nc, → CS_nc, → AF_na, → OH_no, → CS_step, → CS_CF, AF_nf, AQ_o, CS_nf, q_zz, q_za, q_zga, q_fza, q_fx, q_fga, q_gza, q_gfa, q_gx, q_zf1, q_zg1, q_ff, q_fg1, q_gf1, q_gg, AV_i, → CD_nc, CD_nf, ← CD_CS, → PD_np, → TM_nt, → TM_tr, ti_link]) (by (try clear j137); (try clear hr_block); (try clear hf_block); grind (ematch := 12) (gen := 12) (splits := 15) [→ CF_nc, → CS_nc, → AF_na, → OH_no, → CS_step, → CS_CF, AF_nf, AQ_o, CS_nf, q_zz, q_za, q_zga, q_fza, q_fx, q_fga, q_gza, q_gfa, q_gx, q_zf1, q_zg1, q_ff, q_fg1, q_gf1, q_gg, AV_i, → CD_nc, CD_nf, ← CD_CS, → PD_np, → TM_nt, → TM_tr, ti_link]) (by (try clear j137); (try clear hr_block); (try clear hf_block); grind (ematch := 12) (gen := 12) (splits := 15) [→ CF_nc, → CS_nc, → AF_na, → OH_no, → CS_step, → CS_CF, AF_nf, AQ_o, CS_nf, q_zz, q_za, q_zga, q_fza, q_fx, q_fga, q_gza, q_gfa, q_gx, q_zf1, q_zg1, q_ff, q_fg1, q_gf1, q_gg, AV_i, → CD_nc, CD_nf, ← CD_CS, → PD_np, → TM_nt, → TM_tr, ti_link]) (by (try clear j137); (try clear hr_block); (try clear hf_block); grind (ematch := 12) (gen := 12) (splits := 15) [→ CF_nc, → CS_nc, → AF_na, → OH_no, → CS_step, → CS_CF, AF_nf, AQ_o, CS_nf, q_zz, q_za, q_zga, q_fza, q_fx, q_fga, q_gza, q_gfa, q_gx, q_zf1, q_zg1, q_ff, q_fg1, q_gf1, q_gg, AV_i, → CD_nc, CD_nf, ← CD_CS, → PD_np, → TM_nt, → TM_tr, ti_link]))
    obtain ⟨pS19, qS19⟩ := pS19
    have z6_S19 := hF1.1 6 (by decide)
    have z12_S19 := hF1.1 12 (by decide)
    have f1_S19 := hF1.2.1 1 (by decide)
    have f1a_S19 := Fr_fa hF1 1 (by decide)
    have f2_S19 := hF1.2.1 2 (by decide)
    have f2a_S19 := Fr_fa hF1 2 (by decide)
    have g3_S19 := hF1.2.2 3 (by decide)
    have g3a_S19 := Fr_ga hF1 3 (by decide)
    have g4_S19 := hF1.2.2 4 (by decide)
    have g4a_S19 := Fr_ga hF1 4 (by decide)
    clear hF1
    have hT19 : (S19.2.1 40) (ix x1) = (S.1 13) := (qS19.2.2.2.2.2.2.2 (ix x1) (by (try clear hC hA hO hP hk tS0 iJ137 dS18 tS18 nS18 mS18 oS18 qS19); (try clear j137); (try clear hr_block); (try clear hf_block); grind -mbtc (splits := 20) (gen := 30) (ematch := 15) [SI, PT, WB_ad2, WB_nw, LA_n, LA_p, OR1, B01, PW_up, ix_int, XI, PI, PJ, BU, LV, LA_i, q_zz, q_za, q_zga, q_fza, q_fx, q_fga, q_gza, q_gfa, q_gx, q_zf1, q_zg1, q_ff, q_fg1, q_gf1, q_gg, ti_link, in1000, in24000])).trans (by rw [eS18]; exact iJ137.2.2.2.2.2.1)
    refine ⟨by (try clear hC hA hO hP hk tS0 iJ137 dS18 tS18 nS18 mS18 oS18 qS19 hT19); (try clear j137); (try clear hr_block); (try clear hf_block); grind -mbtc (splits := 20) (gen := 30) (ematch := 15) [SI, PT, WB_ad2, WB_nw, LA_n, LA_p, OR1, B01, PW_up, ix_int, XI, PI, PJ, BU, LV, LA_i, q_zz, q_za, q_zga, q_fza, q_fx, q_fga, q_gza, q_gfa, q_gx, q_zf1, q_zg1, q_ff, q_fg1, q_gf1, q_gg, ti_link, in1000, in24000], ?_⟩
    intro z20 ez20
    have vz20 : AV nx S19 z20 := by
          rw [ez20]
          exact AV_wa (w := x1) qS19.2.1 (by (try clear hC hA hO hP hk tS0 iJ137 dS18 tS18 nS18 mS18 oS18 qS19 hT19); (try clear j137); (try clear hr_block); (try clear hf_block); grind -mbtc (splits := 20) (gen := 30) (ematch := 15) [SI, PT, WB_ad2, WB_nw, LA_n, LA_p, OR1, B01, PW_up, ix_int, XI, PI, PJ, BU, LV, LA_i, q_zz, q_za, q_zga, q_fza, q_fx, q_fga, q_gza, q_gfa, q_gx, q_zf1, q_zg1, q_ff, q_fg1, q_gf1, q_gg, ti_link, in1000, in24000]) (by (try clear hC hA hO hP hk tS0 iJ137 dS18 tS18 nS18 mS18 oS18 qS19 hT19); (try clear j137); (try clear hr_block); (try clear hf_block); grind -mbtc (splits := 20) (gen := 30) (ematch := 15) [SI, PT, WB_ad2, WB_nw, LA_n, LA_p, OR1, B01, PW_up, ix_int, XI, PI, PJ, BU, LV, LA_i, q_zz, q_za, q_zga, q_fza, q_fx, q_fga, q_gza, q_gfa, q_gx, q_zf1, q_zg1, q_ff, q_fg1, q_gf1, q_gg, ti_link, in1000, in24000])
    refine fm_lead _ _ _ _ (fun S21 hF2 pS21 => ?_) (sgv_lead (nx := nx) _ (by (try clear hC hA hO hP hk tS0 iJ137 dS18 tS18 nS18 mS18 oS18 qS19 hT19 vz20); (try clear j137); (try clear hr_block); (try clear hf_block); grind -mbtc (splits := 20) (gen := 30) (ematch := 15) [SI, PT, WB_ad2, WB_nw, LA_n, LA_p, OR1, B01, PW_up, ix_int, XI, PI, PJ, BU, LV, LA_i, q_zz, q_za, q_zga, q_fza, q_fx, q_fga, q_gza, q_gfa, q_gx, q_zf1, q_zg1, q_ff, q_fg1, q_gf1, q_gg, ti_link, in1000, in24000]))
    obtain ⟨pS21, qS21⟩ := pS21
    have tS21 : NT S19 S21 := NT_fr hF2 (by decide) (by decide)
    have fS21 : S21.1 4 = 0 → S19.1 4 = 0 := fun q => (hF2.1 4 (by decide)).symm.trans q
    have dS21 : NP S19 S21 := NP_fr hF2 (by decide) (by decide) fS21
    have nS21 : NC S19 S21 := NC_fr hF2 (by decide) (by decide) fS21
    have z3_S21 := hF2.1 3 (by decide)
    have z4_S21 := hF2.1 4 (by decide)
    have z6_S21 := hF2.1 6 (by decide)
    have z7_S21 := hF2.1 7 (by decide)
    have z8_S21 := hF2.1 8 (by decide)
    have z9_S21 := hF2.1 9 (by decide)
    have z10_S21 := hF2.1 10 (by decide)
    have z11_S21 := hF2.1 11 (by decide)
    have z12_S21 := hF2.1 12 (by decide)
    have z13_S21 := hF2.1 13 (by decide)
    have z15_S21 := hF2.1 15 (by decide)
    have z17_S21 := hF2.1 17 (by decide)
    have z18_S21 := hF2.1 18 (by decide)
    have z19_S21 := hF2.1 19 (by decide)
    have z20_S21 := hF2.1 20 (by decide)
    have z16_S21 := hF2.1 16 (by decide)
    have f1_S21 := hF2.2.1 1 (by decide)
    have f1a_S21 := Fr_fa hF2 1 (by decide)
    have f2_S21 := hF2.2.1 2 (by decide)
    have f2a_S21 := Fr_fa hF2 2 (by decide)
    have f8_S21 := hF2.2.1 8 (by decide)
    have f8a_S21 := Fr_fa hF2 8 (by decide)
    have f10_S21 := hF2.2.1 10 (by decide)
    have f10a_S21 := Fr_fa hF2 10 (by decide)
    have f25_S21 := hF2.2.1 25 (by decide)
    have f25a_S21 := Fr_fa hF2 25 (by decide)
    have f28_S21 := hF2.2.1 28 (by decide)
    have f28a_S21 := Fr_fa hF2 28 (by decide)
    have f35_S21 := hF2.2.1 35 (by decide)
    have f35a_S21 := Fr_fa hF2 35 (by decide)
    have f36_S21 := hF2.2.1 36 (by decide)
    have f36a_S21 := Fr_fa hF2 36 (by decide)
    have f45_S21 := hF2.2.1 45 (by decide)
    have f45a_S21 := Fr_fa hF2 45 (by decide)
    have f46_S21 := hF2.2.1 46 (by decide)
    have f46a_S21 := Fr_fa hF2 46 (by decide)
    have f48_S21 := hF2.2.1 48 (by decide)
    have f48a_S21 := Fr_fa hF2 48 (by decide)
    have f40_S21 := hF2.2.1 40 (by decide)
    have f40a_S21 := Fr_fa hF2 40 (by decide)
    have f41_S21 := hF2.2.1 41 (by decide)
    have f41a_S21 := Fr_fa hF2 41 (by decide)
    have f42_S21 := hF2.2.1 42 (by decide)
    have f42a_S21 := Fr_fa hF2 42 (by decide)
    have f44_S21 := hF2.2.1 44 (by decide)
    have f44a_S21 := Fr_fa hF2 44 (by decide)
    have f29_S21 := hF2.2.1 29 (by decide)
    have f29a_S21 := Fr_fa hF2 29 (by decide)
    have g3_S21 := hF2.2.2 3 (by decide)
    have g3a_S21 := Fr_ga hF2 3 (by decide)
    have g4_S21 := hF2.2.2 4 (by decide)
    have g4a_S21 := Fr_ga hF2 4 (by decide)
    clear hF2
    refine ⟨by (try clear hC hA hO hP hk tS0 iJ137 dS18 tS18 nS18 mS18 oS18 qS19 hT19 vz20 qS21 tS21 dS21 nS21); (try clear j137); (try clear hr_block); (try clear hf_block); grind -mbtc (splits := 20) (gen := 30) (ematch := 15) [SI, PT, WB_ad2, WB_nw, LA_n, LA_p, OR1, B01, PW_up, ix_int, XI, PI, PJ, BU, LV, LA_i, q_zz, q_za, q_zga, q_fza, q_fx, q_fga, q_gza, q_gfa, q_gx, q_zf1, q_zg1, q_ff, q_fg1, q_gf1, q_gg, ti_link, in1000, in24000], ?_⟩
    intro S22 eS22
    have dS22 : NP S21 S22 := NP_z eS22 (by decide)
    have tS22 : NT S21 S22 := NT_z eS22 (by decide)
    have nS22 : NC S21 S22 := NC_z eS22 (by decide)
    have mS22 : NA S21 S22 := NA_z eS22 (by decide)
    have oS22 : NO nx S21 S22 := NO_z eS22
    refine ⟨by (try clear hC hA hO hP hk tS0 iJ137 dS18 tS18 nS18 mS18 oS18 qS19 hT19 vz20 qS21 tS21 dS21 nS21 dS22 tS22 nS22 mS22 oS22); (try clear j137); (try clear hr_block); (try clear hf_block); grind -mbtc (splits := 20) (gen := 30) (ematch := 15) [SI, PT, WB_ad2, WB_nw, LA_n, LA_p, OR1, B01, PW_up, ix_int, XI, PI, PJ, BU, LV, LA_i, q_zz, q_za, q_zga, q_fza, q_fx, q_fga, q_gza, q_gfa, q_gx, q_zf1, q_zg1, q_ff, q_fg1, q_gf1, q_gg, ti_link, in1000, in24000], ?_⟩
    intro S23 eS23
    have dS23 : NP S22 S23 := NP_z eS23 (by decide)
    have tS23 : NT S22 S23 := NT_z eS23 (by decide)
    have nS23 : NC S22 S23 := NC_z eS23 (by decide)
    have mS23 : NA S22 S23 := NA_z eS23 (by decide)
    have oS23 : NO nx S22 S23 := NO_z eS23
    intro S24 eS24
    have tS24 : NT S23 S24 := NT_z eS24 (by decide)
    have nS24 : NC S23 S24 := NC_z eS24 (by decide)
    have mS24 : NA S23 S24 := NA_z eS24 (by decide)
    have oS24 : NO nx S23 S24 := NO_z eS24
    have hT24 : (S24.2.1 40) (ix x1) = (S.1 13) := by (try clear j137); (try clear hr_block); (try clear hf_block); grind (ematch := 12) (gen := 12) (splits := 15) [→ CF_nc, → CS_nc, → AF_na, → OH_no, → CS_step, → CS_CF, AF_nf, AQ_o, CS_nf, q_zz, q_za, q_zga, q_fza, q_fx, q_fga, q_gza, q_gfa, q_gx, q_zf1, q_zg1, q_ff, q_fg1, q_gf1, q_gg, AV_i, → CD_nc, CD_nf, ← CD_CS, → PD_np, → TM_nt, → TM_tr, ti_link]
    have cS24 : CS nx ((ix x4, 0, (S.1 13)) :: (ix x1, 4, (0 : Int32)) :: kL) (S24.1 9).toInt (S24.1 10).toInt (S.1 13) S24 := by (try clear j137); (try clear hr_block); (try clear hf_block); grind (ematch := 12) (gen := 12) (splits := 15) [→ CF_nc, → CS_nc, → AF_na, → OH_no, → CS_step, → CS_CF, AF_nf, AQ_o, CS_nf, q_zz, q_za, q_zga, q_fza, q_fx, q_fga, q_gza, q_gfa, q_gx, q_zf1, q_zg1, q_ff, q_fg1, q_gf1, q_gg, AV_i, → CD_nc, CD_nf, ← CD_CS, → PD_np, → TM_nt, → TM_tr, ti_link]
    refine ⟨by (try clear hC hA hO hP hk tS0 iJ137 dS18 tS18 nS18 mS18 oS18 qS19 hT19 vz20 qS21 tS21 dS21 nS21 dS22 tS22 nS22 mS22 oS22 dS23 tS23 nS23 mS23 oS23 tS24 nS24 mS24 oS24 hT24 cS24); (try clear j137); (try clear hr_block); (try clear hf_block); grind -mbtc (splits := 20) (gen := 30) (ematch := 15) [SI, PT, WB_ad2, WB_nw, LA_n, LA_p, OR1, B01, PW_up, ix_int, XI, PI, PJ, BU, LV, LA_i, q_zz, q_za, q_zga, q_fza, q_fx, q_fga, q_gza, q_gfa, q_gx, q_zf1, q_zg1, q_ff, q_fg1, q_gf1, q_gg, ti_link, in1000, in24000], ?_⟩
    intro z25 ez25
    refine fm_emit _ _ _ _ _ _ (fun S26 r26 hF3 pS26 => ?_) (sg_emit (nx := nx) _ _ _ (by (try clear hC hA hO hP hk tS0 iJ137 dS18 tS18 nS18 mS18 oS18 qS19 hT19 vz20 qS21 tS21 dS21 nS21 dS22 tS22 nS22 mS22 oS22 dS23 tS23 nS23 mS23 oS23 tS24 nS24 mS24 oS24 hT24 cS24); (try clear j137); (try clear hr_block); (try clear hf_block); grind -mbtc (splits := 20) (gen := 30) (ematch := 15) [SI, PT, WB_ad2, WB_nw, LA_n, LA_p, OR1, B01, PW_up, ix_int, XI, PI, PJ, BU, LV, LA_i, q_zz, q_za, q_zga, q_fza, q_fx, q_fga, q_gza, q_gfa, q_gx, q_zf1, q_zg1, q_ff, q_fg1, q_gf1, q_gg, ti_link, in1000, in24000]))
    obtain ⟨pS26, qS26⟩ := pS26
    have tS26 : NT S24 S26 := NT_fr hF3 (by decide) (by decide)
    have fS26 : S26.1 4 = 0 → S24.1 4 = 0 := fun q => (hF3.1 4 (by decide)).symm.trans q
    have dS26 : NP S24 S26 := NP_fr hF3 (by decide) (by decide) fS26
    have mS26 : NA S24 S26 := NA_fr hF3 (by decide) (by decide) fS26
    have z3_S26 := hF3.1 3 (by decide)
    have z4_S26 := hF3.1 4 (by decide)
    have z6_S26 := hF3.1 6 (by decide)
    have z8_S26 := hF3.1 8 (by decide)
    have z9_S26 := hF3.1 9 (by decide)
    have z10_S26 := hF3.1 10 (by decide)
    have z11_S26 := hF3.1 11 (by decide)
    have z12_S26 := hF3.1 12 (by decide)
    have z13_S26 := hF3.1 13 (by decide)
    have z15_S26 := hF3.1 15 (by decide)
    have z17_S26 := hF3.1 17 (by decide)
    have z18_S26 := hF3.1 18 (by decide)
    have z19_S26 := hF3.1 19 (by decide)
    have z20_S26 := hF3.1 20 (by decide)
    have z16_S26 := hF3.1 16 (by decide)
    have f1_S26 := hF3.2.1 1 (by decide)
    have f1a_S26 := Fr_fa hF3 1 (by decide)
    have f2_S26 := hF3.2.1 2 (by decide)
    have f2a_S26 := Fr_fa hF3 2 (by decide)
    have f8_S26 := hF3.2.1 8 (by decide)
    have f8a_S26 := Fr_fa hF3 8 (by decide)
    have f10_S26 := hF3.2.1 10 (by decide)
    have f10a_S26 := Fr_fa hF3 10 (by decide)
    have f25_S26 := hF3.2.1 25 (by decide)
    have f25a_S26 := Fr_fa hF3 25 (by decide)
    have f28_S26 := hF3.2.1 28 (by decide)
    have f28a_S26 := Fr_fa hF3 28 (by decide)
    have f35_S26 := hF3.2.1 35 (by decide)
    have f35a_S26 := Fr_fa hF3 35 (by decide)
    have f36_S26 := hF3.2.1 36 (by decide)
    have f36a_S26 := Fr_fa hF3 36 (by decide)
    have f45_S26 := hF3.2.1 45 (by decide)
    have f45a_S26 := Fr_fa hF3 45 (by decide)
    have f46_S26 := hF3.2.1 46 (by decide)
    have f46a_S26 := Fr_fa hF3 46 (by decide)
    have f48_S26 := hF3.2.1 48 (by decide)
    have f48a_S26 := Fr_fa hF3 48 (by decide)
    have f40_S26 := hF3.2.1 40 (by decide)
    have f40a_S26 := Fr_fa hF3 40 (by decide)
    have f41_S26 := hF3.2.1 41 (by decide)
    have f41a_S26 := Fr_fa hF3 41 (by decide)
    have f42_S26 := hF3.2.1 42 (by decide)
    have f42a_S26 := Fr_fa hF3 42 (by decide)
    have f44_S26 := hF3.2.1 44 (by decide)
    have f44a_S26 := Fr_fa hF3 44 (by decide)
    have f29_S26 := hF3.2.1 29 (by decide)
    have f29a_S26 := Fr_fa hF3 29 (by decide)
    have g3_S26 := hF3.2.2 3 (by decide)
    have g3a_S26 := Fr_ga hF3 3 (by decide)
    have g4_S26 := hF3.2.2 4 (by decide)
    have g4a_S26 := Fr_ga hF3 4 (by decide)
    clear hF3
    have cS26 : CD nx ((ix x4, 0, (S.1 13)) :: (ix x1, 4, (0 : Int32)) :: kL) (S24.1 9).toInt (S24.1 10).toInt S26 := CD_jump qS26.1 cS24 ⟨by (try clear hC hA hO hP hk tS0 iJ137 dS18 tS18 nS18 mS18 oS18 qS19 hT19 vz20 qS21 tS21 dS21 nS21 dS22 tS22 nS22 mS22 oS22 dS23 tS23 nS23 mS23 oS23 tS24 nS24 mS24 oS24 hT24 cS24 qS26 tS26 dS26 mS26); (try clear j137); (try clear hr_block); (try clear hf_block); grind -mbtc (splits := 20) (gen := 30) (ematch := 15) [SI, PT, WB_ad2, WB_nw, LA_n, LA_p, OR1, B01, PW_up, ix_int, XI, PI, PJ, BU, LV, LA_i, q_zz, q_za, q_zga, q_fza, q_fx, q_fga, q_gza, q_gfa, q_gx, q_zf1, q_zg1, q_ff, q_fg1, q_gf1, q_gg, ti_link, in1000, in24000], by (try clear hC hA hO hP hk tS0 iJ137 dS18 tS18 nS18 mS18 oS18 qS19 hT19 vz20 qS21 tS21 dS21 nS21 dS22 tS22 nS22 mS22 oS22 dS23 tS23 nS23 mS23 oS23 tS24 nS24 mS24 oS24 hT24 cS24 qS26 tS26 dS26 mS26); (try clear j137); (try clear hr_block); (try clear hf_block); grind -mbtc (splits := 20) (gen := 30) (ematch := 15) [SI, PT, WB_ad2, WB_nw, LA_n, LA_p, OR1, B01, PW_up, ix_int, XI, PI, PJ, BU, LV, LA_i, q_zz, q_za, q_zga, q_fza, q_fx, q_fga, q_gza, q_gfa, q_gx, q_zf1, q_zg1, q_ff, q_fg1, q_gf1, q_gg, ti_link, in1000, in24000]⟩ ez25 hT24
    refine ⟨by (try clear hC hA hO hP hk tS0 iJ137 dS18 tS18 nS18 mS18 oS18 qS19 hT19 vz20 qS21 tS21 dS21 nS21 dS22 tS22 nS22 mS22 oS22 dS23 tS23 nS23 mS23 oS23 tS24 nS24 mS24 oS24 hT24 cS24 qS26 tS26 dS26 mS26 cS26); (try clear j137); (try clear hr_block); (try clear hf_block); grind -mbtc (splits := 20) (gen := 30) (ematch := 15) [SI, PT, WB_ad2, WB_nw, LA_n, LA_p, OR1, B01, PW_up, ix_int, XI, PI, PJ, BU, LV, LA_i, q_zz, q_za, q_zga, q_fza, q_fx, q_fga, q_gza, q_gfa, q_gx, q_zf1, q_zg1, q_ff, q_fg1, q_gf1, q_gg, ti_link, in1000, in24000], ?_⟩
    intro S27 eS27
    have dS27 : NP S26 S27 := NP_f eS27 (by decide)
    have tS27 : NT S26 S27 := NT_f eS27 (by decide)
    have mS27 : NA S26 S27 := NA_f eS27 (by decide)
    have oS27 : NO nx S26 S27 := NO_f eS27 (nH_c (by decide) (by (try clear hC hA hO hP hk tS0 iJ137 dS18 tS18 nS18 mS18 oS18 qS19 hT19 vz20 qS21 tS21 dS21 nS21 dS22 tS22 nS22 mS22 oS22 dS23 tS23 nS23 mS23 oS23 tS24 nS24 mS24 oS24 hT24 cS24 qS26 tS26 dS26 mS26 cS26 dS27 tS27 mS27); (try clear j137); (try clear hr_block); (try clear hf_block); grind -mbtc (splits := 20) (gen := 30) (ematch := 15) [SI, PT, WB_ad2, WB_nw, LA_n, LA_p, OR1, B01, PW_up, ix_int, XI, PI, PJ, BU, LV, LA_i, q_zz, q_za, q_zga, q_fza, q_fx, q_fga, q_gza, q_gfa, q_gx, q_zf1, q_zg1, q_ff, q_fg1, q_gf1, q_gg, ti_link, in1000, in24000]))
    have cS27 : CS nx ((ix x1, 4, (0 : Int32)) :: kL) (S24.1 9).toInt (S24.1 10).toInt (S.1 13) S27 := CS_patch eS27 (by (try clear hC hA hO hP hk tS0 iJ137 dS18 tS18 nS18 mS18 oS18 qS19 hT19 vz20 qS21 tS21 dS21 nS21 dS22 tS22 nS22 mS22 oS22 dS23 tS23 nS23 mS23 oS23 tS24 nS24 mS24 oS24 hT24 cS24 qS26 tS26 dS26 mS26 cS26 dS27 tS27 mS27 oS27); (try clear j137); (try clear hr_block); (try clear hf_block); grind -mbtc (splits := 20) (gen := 30) (ematch := 15) [SI, PT, WB_ad2, WB_nw, LA_n, LA_p, OR1, B01, PW_up, ix_int, XI, PI, PJ, BU, LV, LA_i, q_zz, q_za, q_zga, q_fza, q_fx, q_fga, q_gza, q_gfa, q_gx, q_zf1, q_zg1, q_ff, q_fg1, q_gf1, q_gg, ti_link, in1000, in24000]) (CD_CS _ cS26)
    refine ⟨by (try clear hC hA hO hP hk tS0 iJ137 dS18 tS18 nS18 mS18 oS18 qS19 hT19 vz20 qS21 tS21 dS21 nS21 dS22 tS22 nS22 mS22 oS22 dS23 tS23 nS23 mS23 oS23 tS24 nS24 mS24 oS24 hT24 cS24 qS26 tS26 dS26 mS26 cS26 dS27 tS27 mS27 oS27 cS27); (try clear j137); (try clear hr_block); (try clear hf_block); grind -mbtc (splits := 20) (gen := 30) (ematch := 15) [SI, PT, WB_ad2, WB_nw, LA_n, LA_p, OR1, B01, PW_up, ix_int, XI, PI, PJ, BU, LV, LA_i, q_zz, q_za, q_zga, q_fza, q_fx, q_fga, q_gza, q_gfa, q_gx, q_zf1, q_zg1, q_ff, q_fg1, q_gf1, q_gg, ti_link, in1000, in24000], ?_⟩
    intro S28 eS28
    have dS28 : NP S27 S28 := NP_f eS28 (by decide)
    have tS28 : NT S27 S28 := NT_f eS28 (by decide)
    have mS28 : NA S27 S28 := NA_f eS28 (by decide)
    have oS28 : NO nx S27 S28 := NO_f eS28 (nH_t (by decide) (by (try clear hC hA hO hP hk tS0 iJ137 dS18 tS18 nS18 mS18 oS18 qS19 hT19 vz20 qS21 tS21 dS21 nS21 dS22 tS22 nS22 mS22 oS22 dS23 tS23 nS23 mS23 oS23 tS24 nS24 mS24 oS24 hT24 cS24 qS26 tS26 dS26 mS26 cS26 dS27 tS27 mS27 oS27 cS27 dS28 tS28 mS28); (try clear j137); (try clear hr_block); (try clear hf_block); grind -mbtc (splits := 20) (gen := 30) (ematch := 15) [SI, PT, WB_ad2, WB_nw, LA_n, LA_p, OR1, B01, PW_up, ix_int, XI, PI, PJ, BU, LV, LA_i, q_zz, q_za, q_zga, q_fza, q_fx, q_fga, q_gza, q_gfa, q_gx, q_zf1, q_zg1, q_ff, q_fg1, q_gf1, q_gg, ti_link, in1000, in24000]))
    have cs28 : CS nx ((ix x1, 4, (0 : Int32)) :: kL) (S24.1 9).toInt (S24.1 10).toInt (S.1 13) S28 := CS_lift (by rw [eS28]; rfl) (fun _ _ _ q => CW_w43 eS28 (Or.inl (List.mem_cons_self ..)) q) cS27
    have cS28 : CS nx kL (S24.1 9).toInt (S24.1 10).toInt (S.1 13) S28 := CS_wcl (by (try clear hC hA hO hP hk tS0 iJ137 dS18 tS18 nS18 mS18 oS18 qS19 hT19 vz20 qS21 tS21 dS21 nS21 dS22 tS22 nS22 mS22 oS22 dS23 tS23 nS23 mS23 oS23 tS24 nS24 mS24 oS24 hT24 cS24 qS26 tS26 dS26 mS26 cS26 dS27 tS27 mS27 oS27 cS27 dS28 tS28 mS28 oS28 cs28); (try clear j137); (try clear hr_block); (try clear hf_block); grind -mbtc (splits := 20) (gen := 30) (ematch := 15) [SI, PT, WB_ad2, WB_nw, LA_n, LA_p, OR1, B01, PW_up, ix_int, XI, PI, PJ, BU, LV, LA_i, q_zz, q_za, q_zga, q_fza, q_fx, q_fga, q_gza, q_gfa, q_gx, q_zf1, q_zg1, q_ff, q_fg1, q_gf1, q_gg, ti_link, in1000, in24000]) (by (try clear hC hA hO hP hk tS0 iJ137 dS18 tS18 nS18 mS18 oS18 qS19 hT19 vz20 qS21 tS21 dS21 nS21 dS22 tS22 nS22 mS22 oS22 dS23 tS23 nS23 mS23 oS23 tS24 nS24 mS24 oS24 hT24 cS24 qS26 tS26 dS26 mS26 cS26 dS27 tS27 mS27 oS27 cS27 dS28 tS28 mS28 oS28 cs28); (try clear j137); (try clear hr_block); (try clear hf_block); grind -mbtc (splits := 20) (gen := 30) (ematch := 15) [SI, PT, WB_ad2, WB_nw, LA_n, LA_p, OR1, B01, PW_up, ix_int, XI, PI, PJ, BU, LV, LA_i, q_zz, q_za, q_zga, q_fza, q_fx, q_fga, q_gza, q_gfa, q_gx, q_zf1, q_zg1, q_ff, q_fg1, q_gf1, q_gg, ti_link, in1000, in24000]) (by
          rw [eS28]
          show upd _ _ _ _ = _
          unfold upd
          rw [if_pos rfl]
          rfl) (by (try clear j137); (try clear hr_block); (try clear hf_block); grind (ematch := 12) (gen := 12) (splits := 15) [→ CF_nc, → CS_nc, → AF_na, → OH_no, → CS_step, → CS_CF, AF_nf, AQ_o, CS_nf, q_zz, q_za, q_zga, q_fza, q_fx, q_fga, q_gza, q_gfa, q_gx, q_zf1, q_zg1, q_ff, q_fg1, q_gf1, q_gg, AV_i, → CD_nc, CD_nf, ← CD_CS, → PD_np, → TM_nt, → TM_tr, ti_link]) cs28
    have vS28 : AV nx S28 x5 := AV_m iJ137.2.2.2.2.2.2 (by (try clear hC hA hO hP hk tS0 iJ137 dS18 tS18 nS18 mS18 oS18 qS19 hT19 vz20 qS21 tS21 dS21 nS21 dS22 tS22 nS22 mS22 oS22 dS23 tS23 nS23 mS23 oS23 tS24 nS24 mS24 oS24 hT24 cS24 qS26 tS26 dS26 mS26 cS26 dS27 tS27 mS27 oS27 cS27 dS28 tS28 mS28 oS28 cs28 cS28); (try clear j137); (try clear hr_block); (try clear hf_block); grind -mbtc (splits := 20) (gen := 30) (ematch := 15) [SI, PT, WB_ad2, WB_nw, LA_n, LA_p, OR1, B01, PW_up, ix_int, XI, PI, PJ, BU, LV, LA_i, q_zz, q_za, q_zga, q_fza, q_fx, q_fga, q_gza, q_gfa, q_gx, q_zf1, q_zg1, q_ff, q_fg1, q_gf1, q_gg, ti_link, in1000, in24000]) (by (try clear hC hA hO hP hk tS0 iJ137 dS18 tS18 nS18 mS18 oS18 qS19 hT19 vz20 qS21 tS21 dS21 nS21 dS22 tS22 nS22 mS22 oS22 dS23 tS23 nS23 mS23 oS23 tS24 nS24 mS24 oS24 hT24 cS24 qS26 tS26 dS26 mS26 cS26 dS27 tS27 mS27 oS27 cS27 dS28 tS28 mS28 oS28 cs28 cS28); (try clear j137); (try clear hr_block); (try clear hf_block); grind -mbtc (splits := 20) (gen := 30) (ematch := 15) [SI, PT, WB_ad2, WB_nw, LA_n, LA_p, OR1, B01, PW_up, ix_int, XI, PI, PJ, BU, LV, LA_i, q_zz, q_za, q_zga, q_fza, q_fx, q_fga, q_gza, q_gfa, q_gx, q_zf1, q_zg1, q_ff, q_fg1, q_gf1, q_gg, ti_link, in1000, in24000])
    intro S29 eS29
    have lS29 : ∀ m : Int, AV nx S28 x5 → AF nx m S28 → AF nx m S29 := fun m h8 h9 => AF_lv eS29 h8 h9
    have dS29 : NP S28 S29 := NP_z eS29 (by decide)
    have tS29 : NT S28 S29 := NT_z eS29 (by decide)
    have nS29 : NC S28 S29 := NC_z eS29 (by decide)
    have oS29 : NO nx S28 S29 := NO_z eS29
    have aS29 : AF nx ((S19.2.1 10) (ix (S19.1 12))).toInt S29 := by (try clear j137); (try clear hr_block); (try clear hf_block); grind (ematch := 12) (gen := 12) (splits := 15) [→ CF_nc, → CS_nc, → AF_na, → OH_no, → CS_step, → CS_CF, AF_nf, AQ_o, CS_nf, q_zz, q_za, q_zga, q_fza, q_fx, q_fga, q_gza, q_gfa, q_gx, q_zf1, q_zg1, q_ff, q_fg1, q_gf1, q_gg, AV_i, → CD_nc, CD_nf, ← CD_CS, → PD_np, → TM_nt, → TM_tr, ti_link]
    refine ⟨by (try clear hC hA hO hP hk tS0 iJ137 dS18 tS18 nS18 mS18 oS18 qS19 hT19 vz20 qS21 tS21 dS21 nS21 dS22 tS22 nS22 mS22 oS22 dS23 tS23 nS23 mS23 oS23 tS24 nS24 mS24 oS24 hT24 cS24 qS26 tS26 dS26 mS26 cS26 dS27 tS27 mS27 oS27 cS27 dS28 tS28 mS28 oS28 cs28 cS28 vS28 lS29 dS29 tS29 nS29 oS29 aS29); (try clear j137); (try clear hr_block); (try clear hf_block); grind -mbtc (splits := 20) (gen := 30) (ematch := 15) [SI, PT, WB_ad2, WB_nw, LA_n, LA_p, OR1, B01, PW_up, ix_int, XI, PI, PJ, BU, LV, LA_i, q_zz, q_za, q_zga, q_fza, q_fx, q_fga, q_gza, q_gfa, q_gx, q_zf1, q_zg1, q_ff, q_fg1, q_gf1, q_gg, ti_link, in1000, in24000], ?_⟩
    intro z30 ez30
    have vz30 : AV nx S29 z30 := by
          rw [ez30]
          exact AV_we (w := x1) aS29 (by (try clear hC hA hO hP hk tS0 iJ137 dS18 tS18 nS18 mS18 oS18 qS19 hT19 vz20 qS21 tS21 dS21 nS21 dS22 tS22 nS22 mS22 oS22 dS23 tS23 nS23 mS23 oS23 tS24 nS24 mS24 oS24 hT24 cS24 qS26 tS26 dS26 mS26 cS26 dS27 tS27 mS27 oS27 cS27 dS28 tS28 mS28 oS28 cs28 cS28 vS28 lS29 dS29 tS29 nS29 oS29 aS29); (try clear j137); (try clear hr_block); (try clear hf_block); grind -mbtc (splits := 20) (gen := 30) (ematch := 15) [SI, PT, WB_ad2, WB_nw, LA_n, LA_p, OR1, B01, PW_up, ix_int, XI, PI, PJ, BU, LV, LA_i, q_zz, q_za, q_zga, q_fza, q_fx, q_fga, q_gza, q_gfa, q_gx, q_zf1, q_zg1, q_ff, q_fg1, q_gf1, q_gg, ti_link, in1000, in24000]) (by (try clear hC hA hO hP hk tS0 iJ137 dS18 tS18 nS18 mS18 oS18 qS19 hT19 vz20 qS21 tS21 dS21 nS21 dS22 tS22 nS22 mS22 oS22 dS23 tS23 nS23 mS23 oS23 tS24 nS24 mS24 oS24 hT24 cS24 qS26 tS26 dS26 mS26 cS26 dS27 tS27 mS27 oS27 cS27 dS28 tS28 mS28 oS28 cs28 cS28 vS28 lS29 dS29 tS29 nS29 oS29 aS29); (try clear j137); (try clear hr_block); (try clear hf_block); grind -mbtc (splits := 20) (gen := 30) (ematch := 15) [SI, PT, WB_ad2, WB_nw, LA_n, LA_p, OR1, B01, PW_up, ix_int, XI, PI, PJ, BU, LV, LA_i, q_zz, q_za, q_zga, q_fza, q_fx, q_fga, q_gza, q_gfa, q_gx, q_zf1, q_zg1, q_ff, q_fg1, q_gf1, q_gg, ti_link, in1000, in24000])
    refine fm_lead _ _ _ _ (fun S31 hF4 pS31 => ?_) (sgv_lead (nx := nx) _ (by (try clear hC hA hO hP hk tS0 iJ137 dS18 tS18 nS18 mS18 oS18 qS19 hT19 vz20 qS21 tS21 dS21 nS21 dS22 tS22 nS22 mS22 oS22 dS23 tS23 nS23 mS23 oS23 tS24 nS24 mS24 oS24 hT24 cS24 qS26 tS26 dS26 mS26 cS26 dS27 tS27 mS27 oS27 cS27 dS28 tS28 mS28 oS28 cs28 cS28 vS28 lS29 dS29 tS29 nS29 oS29 aS29 vz30); (try clear j137); (try clear hr_block); (try clear hf_block); grind -mbtc (splits := 20) (gen := 30) (ematch := 15) [SI, PT, WB_ad2, WB_nw, LA_n, LA_p, OR1, B01, PW_up, ix_int, XI, PI, PJ, BU, LV, LA_i, q_zz, q_za, q_zga, q_fza, q_fx, q_fga, q_gza, q_gfa, q_gx, q_zf1, q_zg1, q_ff, q_fg1, q_gf1, q_gg, ti_link, in1000, in24000]))
    obtain ⟨pS31, qS31⟩ := pS31
    have tS31 : NT S29 S31 := NT_fr hF4 (by decide) (by decide)
    have fS31 : S31.1 4 = 0 → S29.1 4 = 0 := fun q => (hF4.1 4 (by decide)).symm.trans q
    have dS31 : NP S29 S31 := NP_fr hF4 (by decide) (by decide) fS31
    have nS31 : NC S29 S31 := NC_fr hF4 (by decide) (by decide) fS31
    have z3_S31 := hF4.1 3 (by decide)
    have z4_S31 := hF4.1 4 (by decide)
    have z6_S31 := hF4.1 6 (by decide)
    have z7_S31 := hF4.1 7 (by decide)
    have z8_S31 := hF4.1 8 (by decide)
    have z9_S31 := hF4.1 9 (by decide)
    have z10_S31 := hF4.1 10 (by decide)
    have z11_S31 := hF4.1 11 (by decide)
    have z12_S31 := hF4.1 12 (by decide)
    have z13_S31 := hF4.1 13 (by decide)
    have z15_S31 := hF4.1 15 (by decide)
    have z17_S31 := hF4.1 17 (by decide)
    have z18_S31 := hF4.1 18 (by decide)
    have z19_S31 := hF4.1 19 (by decide)
    have z20_S31 := hF4.1 20 (by decide)
    have z16_S31 := hF4.1 16 (by decide)
    have f1_S31 := hF4.2.1 1 (by decide)
    have f1a_S31 := Fr_fa hF4 1 (by decide)
    have f2_S31 := hF4.2.1 2 (by decide)
    have f2a_S31 := Fr_fa hF4 2 (by decide)
    have f8_S31 := hF4.2.1 8 (by decide)
    have f8a_S31 := Fr_fa hF4 8 (by decide)
    have f10_S31 := hF4.2.1 10 (by decide)
    have f10a_S31 := Fr_fa hF4 10 (by decide)
    have f25_S31 := hF4.2.1 25 (by decide)
    have f25a_S31 := Fr_fa hF4 25 (by decide)
    have f28_S31 := hF4.2.1 28 (by decide)
    have f28a_S31 := Fr_fa hF4 28 (by decide)
    have f35_S31 := hF4.2.1 35 (by decide)
    have f35a_S31 := Fr_fa hF4 35 (by decide)
    have f36_S31 := hF4.2.1 36 (by decide)
    have f36a_S31 := Fr_fa hF4 36 (by decide)
    have f45_S31 := hF4.2.1 45 (by decide)
    have f45a_S31 := Fr_fa hF4 45 (by decide)
    have f46_S31 := hF4.2.1 46 (by decide)
    have f46a_S31 := Fr_fa hF4 46 (by decide)
    have f48_S31 := hF4.2.1 48 (by decide)
    have f48a_S31 := Fr_fa hF4 48 (by decide)
    have f40_S31 := hF4.2.1 40 (by decide)
    have f40a_S31 := Fr_fa hF4 40 (by decide)
    have f41_S31 := hF4.2.1 41 (by decide)
    have f41a_S31 := Fr_fa hF4 41 (by decide)
    have f42_S31 := hF4.2.1 42 (by decide)
    have f42a_S31 := Fr_fa hF4 42 (by decide)
    have f44_S31 := hF4.2.1 44 (by decide)
    have f44a_S31 := Fr_fa hF4 44 (by decide)
    have f29_S31 := hF4.2.1 29 (by decide)
    have f29a_S31 := Fr_fa hF4 29 (by decide)
    have g3_S31 := hF4.2.2 3 (by decide)
    have g3a_S31 := Fr_ga hF4 3 (by decide)
    have g4_S31 := hF4.2.2 4 (by decide)
    have g4a_S31 := Fr_ga hF4 4 (by decide)
    clear hF4
    refine ⟨by (try clear hC hA hO hP hk tS0 iJ137 dS18 tS18 nS18 mS18 oS18 qS19 hT19 vz20 qS21 tS21 dS21 nS21 dS22 tS22 nS22 mS22 oS22 dS23 tS23 nS23 mS23 oS23 tS24 nS24 mS24 oS24 hT24 cS24 qS26 tS26 dS26 mS26 cS26 dS27 tS27 mS27 oS27 cS27 dS28 tS28 mS28 oS28 cs28 cS28 vS28 lS29 dS29 tS29 nS29 oS29 aS29 vz30 qS31 tS31 dS31 nS31); (try clear j137); (try clear hr_block); (try clear hf_block); grind -mbtc (splits := 20) (gen := 30) (ematch := 15) [SI, PT, WB_ad2, WB_nw, LA_n, LA_p, OR1, B01, PW_up, ix_int, XI, PI, PJ, BU, LV, LA_i, q_zz, q_za, q_zga, q_fza, q_fx, q_fga, q_gza, q_gfa, q_gx, q_zf1, q_zg1, q_ff, q_fg1, q_gf1, q_gg, ti_link, in1000, in24000], ?_⟩
    intro z32 ez32
    have  rz32 : 12000 * nx ≤ z32.toInt ∧ z32.toInt < 12000 * nx + 12000 := by
          rw [ez32]
          exact PW_in (x := x1) (w := (S31.1 10)) (by (try clear hC hA hO hP hk tS0 iJ137 dS18 tS18 nS18 mS18 oS18 qS19 hT19 vz20 qS21 tS21 dS21 nS21 dS22 tS22 nS22 mS22 oS22 dS23 tS23 nS23 mS23 oS23 tS24 nS24 mS24 oS24 hT24 cS24 qS26 tS26 dS26 mS26 cS26 dS27 tS27 mS27 oS27 cS27 dS28 tS28 mS28 oS28 cs28 cS28 vS28 lS29 dS29 tS29 nS29 oS29 aS29 vz30 qS31 tS31 dS31 nS31); (try clear j137); (try clear hr_block); (try clear hf_block); grind -mbtc (splits := 20) (gen := 30) (ematch := 15) [SI, PT, WB_ad2, WB_nw, LA_n, LA_p, OR1, B01, PW_up, ix_int, XI, PI, PJ, BU, LV, LA_i, q_zz, q_za, q_zga, q_fza, q_fx, q_fga, q_gza, q_gfa, q_gx, q_zf1, q_zg1, q_ff, q_fg1, q_gf1, q_gg, ti_link, in1000, in24000]) (by (try clear hC hA hO hP hk tS0 iJ137 dS18 tS18 nS18 mS18 oS18 qS19 hT19 vz20 qS21 tS21 dS21 nS21 dS22 tS22 nS22 mS22 oS22 dS23 tS23 nS23 mS23 oS23 tS24 nS24 mS24 oS24 hT24 cS24 qS26 tS26 dS26 mS26 cS26 dS27 tS27 mS27 oS27 cS27 dS28 tS28 mS28 oS28 cs28 cS28 vS28 lS29 dS29 tS29 nS29 oS29 aS29 vz30 qS31 tS31 dS31 nS31); (try clear j137); (try clear hr_block); (try clear hf_block); grind -mbtc (splits := 20) (gen := 30) (ematch := 15) [SI, PT, WB_ad2, WB_nw, LA_n, LA_p, OR1, B01, PW_up, ix_int, XI, PI, PJ, BU, LV, LA_i, q_zz, q_za, q_zga, q_fza, q_fx, q_fga, q_gza, q_gfa, q_gx, q_zf1, q_zg1, q_ff, q_fg1, q_gf1, q_gg, ti_link, in1000, in24000]) (by (try clear hC hA hO hP hk tS0 iJ137 dS18 tS18 nS18 mS18 oS18 qS19 hT19 vz20 qS21 tS21 dS21 nS21 dS22 tS22 nS22 mS22 oS22 dS23 tS23 nS23 mS23 oS23 tS24 nS24 mS24 oS24 hT24 cS24 qS26 tS26 dS26 mS26 cS26 dS27 tS27 mS27 oS27 cS27 dS28 tS28 mS28 oS28 cs28 cS28 vS28 lS29 dS29 tS29 nS29 oS29 aS29 vz30 qS31 tS31 dS31 nS31); (try clear j137); (try clear hr_block); (try clear hf_block); grind -mbtc (splits := 20) (gen := 30) (ematch := 15) [SI, PT, WB_ad2, WB_nw, LA_n, LA_p, OR1, B01, PW_up, ix_int, XI, PI, PJ, BU, LV, LA_i, q_zz, q_za, q_zga, q_fza, q_fx, q_fga, q_gza, q_gfa, q_gx, q_zf1, q_zg1, q_ff, q_fg1, q_gf1, q_gg, ti_link, in1000, in24000])
    have aS31 : AF nx ((S19.2.1 10) (ix (S19.1 12))).toInt S31 := by (try clear j137); (try clear hr_block); (try clear hf_block); grind (ematch := 12) (gen := 12) (splits := 15) [→ CF_nc, → CS_nc, → AF_na, → OH_no, → CS_step, → CS_CF, AF_nf, AQ_o, CS_nf, q_zz, q_za, q_zga, q_fza, q_fx, q_fga, q_gza, q_gfa, q_gx, q_zf1, q_zg1, q_ff, q_fg1, q_gf1, q_gg, AV_i, → CD_nc, CD_nf, ← CD_CS, → PD_np, → TM_nt, → TM_tr, ti_link]
    have vz32 : AV nx S31 z32 := by
          rw [ez32]
          exact AV_we (w := x1) aS31 (by (try clear hC hA hO hP hk tS0 iJ137 dS18 tS18 nS18 mS18 oS18 qS19 hT19 vz20 qS21 tS21 dS21 nS21 dS22 tS22 nS22 mS22 oS22 dS23 tS23 nS23 mS23 oS23 tS24 nS24 mS24 oS24 hT24 cS24 qS26 tS26 dS26 mS26 cS26 dS27 tS27 mS27 oS27 cS27 dS28 tS28 mS28 oS28 cs28 cS28 vS28 lS29 dS29 tS29 nS29 oS29 aS29 vz30 qS31 tS31 dS31 nS31 aS31); (try clear j137); (try clear hr_block); (try clear hf_block); grind -mbtc (splits := 20) (gen := 30) (ematch := 15) [SI, PT, WB_ad2, WB_nw, LA_n, LA_p, OR1, B01, PW_up, ix_int, XI, PI, PJ, BU, LV, LA_i, q_zz, q_za, q_zga, q_fza, q_fx, q_fga, q_gza, q_gfa, q_gx, q_zf1, q_zg1, q_ff, q_fg1, q_gf1, q_gg, ti_link, in1000, in24000]) (by (try clear hC hA hO hP hk tS0 iJ137 dS18 tS18 nS18 mS18 oS18 qS19 hT19 vz20 qS21 tS21 dS21 nS21 dS22 tS22 nS22 mS22 oS22 dS23 tS23 nS23 mS23 oS23 tS24 nS24 mS24 oS24 hT24 cS24 qS26 tS26 dS26 mS26 cS26 dS27 tS27 mS27 oS27 cS27 dS28 tS28 mS28 oS28 cs28 cS28 vS28 lS29 dS29 tS29 nS29 oS29 aS29 vz30 qS31 tS31 dS31 nS31 aS31); (try clear j137); (try clear hr_block); (try clear hf_block); grind -mbtc (splits := 20) (gen := 30) (ematch := 15) [SI, PT, WB_ad2, WB_nw, LA_n, LA_p, OR1, B01, PW_up, ix_int, XI, PI, PJ, BU, LV, LA_i, q_zz, q_za, q_zga, q_fza, q_fx, q_fga, q_gza, q_gfa, q_gx, q_zf1, q_zg1, q_ff, q_fg1, q_gf1, q_gg, ti_link, in1000, in24000])
    intro S33 eS33
    have lS33 : ∀ m : Int, AV nx S31 z32 → AF nx m S31 → AF nx m S33 := fun m h8 h9 => AF_lv eS33 h8 h9
    have dS33 : NP S31 S33 := NP_z eS33 (by decide)
    have tS33 : NT S31 S33 := NT_z eS33 (by decide)
    have nS33 : NC S31 S33 := NC_z eS33 (by decide)
    have oS33 : NO nx S31 S33 := NO_z eS33
    have tS33_ : TM S S33 := by (try clear j137); (try clear hr_block); (try clear hf_block); grind (ematch := 12) (gen := 12) (splits := 15) [→ CF_nc, → CS_nc, → AF_na, → OH_no, → CS_step, → CS_CF, AF_nf, AQ_o, CS_nf, q_zz, q_za, q_zga, q_fza, q_fx, q_fga, q_gza, q_gfa, q_gx, q_zf1, q_zg1, q_ff, q_fg1, q_gf1, q_gg, AV_i, → CD_nc, CD_nf, ← CD_CS, → PD_np, → TM_nt, → TM_tr, ti_link]
    have pS33_ : PD nx kd S33 := PD_tm hA tS33_ (by (try clear hC hA hO hP hk tS0 iJ137 dS18 tS18 nS18 mS18 oS18 qS19 hT19 vz20 qS21 tS21 dS21 nS21 dS22 tS22 nS22 mS22 oS22 dS23 tS23 nS23 mS23 oS23 tS24 nS24 mS24 oS24 hT24 cS24 qS26 tS26 dS26 mS26 cS26 dS27 tS27 mS27 oS27 cS27 dS28 tS28 mS28 oS28 cs28 cS28 vS28 lS29 dS29 tS29 nS29 oS29 aS29 vz30 qS31 tS31 dS31 nS31 aS31 vz32 lS33 dS33 tS33 nS33 oS33 tS33_); (try clear j137); (try clear hr_block); (try clear hf_block); grind -mbtc (splits := 20) (gen := 30) (ematch := 15) [SI, PT, WB_ad2, WB_nw, LA_n, LA_p, OR1, B01, PW_up, ix_int, XI, PI, PJ, BU, LV, LA_i, q_zz, q_za, q_zga, q_fza, q_fx, q_fga, q_gza, q_gfa, q_gx, q_zf1, q_zg1, q_ff, q_fg1, q_gf1, q_gg, ti_link, in1000, in24000]) (by (try clear hC hA hO hP hk tS0 iJ137 dS18 tS18 nS18 mS18 oS18 qS19 hT19 vz20 qS21 tS21 dS21 nS21 dS22 tS22 nS22 mS22 oS22 dS23 tS23 nS23 mS23 oS23 tS24 nS24 mS24 oS24 hT24 cS24 qS26 tS26 dS26 mS26 cS26 dS27 tS27 mS27 oS27 cS27 dS28 tS28 mS28 oS28 cs28 cS28 vS28 lS29 dS29 tS29 nS29 oS29 aS29 vz30 qS31 tS31 dS31 nS31 aS31 vz32 lS33 dS33 tS33 nS33 oS33 tS33_); (try clear j137); (try clear hr_block); (try clear hf_block); grind -mbtc (splits := 20) (gen := 30) (ematch := 15) [SI, PT, WB_ad2, WB_nw, LA_n, LA_p, OR1, B01, PW_up, ix_int, XI, PI, PJ, BU, LV, LA_i, q_zz, q_za, q_zga, q_fza, q_fx, q_fga, q_gza, q_gfa, q_gx, q_zf1, q_zg1, q_ff, q_fg1, q_gf1, q_gg, ti_link, in1000, in24000]) hP
    exact ⟨by (try clear hC hA hO hP hk tS0 iJ137 dS18 tS18 nS18 mS18 oS18 qS19 hT19 vz20 qS21 tS21 dS21 nS21 dS22 tS22 nS22 mS22 oS22 dS23 tS23 nS23 mS23 oS23 tS24 nS24 mS24 oS24 hT24 cS24 qS26 tS26 dS26 mS26 cS26 dS27 tS27 mS27 oS27 cS27 dS28 tS28 mS28 oS28 cs28 cS28 vS28 lS29 dS29 tS29 nS29 oS29 aS29 vz30 qS31 tS31 dS31 nS31 aS31 vz32 lS33 dS33 tS33 nS33 oS33 tS33_ pS33_); (try clear j137); (try clear hr_block); (try clear hf_block); grind -mbtc (splits := 20) (gen := 30) (ematch := 15) [SI, PT, WB_ad2, WB_nw, LA_n, LA_p, OR1, B01, PW_up, ix_int, XI, PI, PJ, BU, LV, LA_i, q_zz, q_za, q_zga, q_fza, q_fx, q_fga, q_gza, q_gfa, q_gx, q_zf1, q_zg1, q_ff, q_fg1, q_gf1, q_gg, ti_link, in1000, in24000], by refine ⟨?_, ?_, ?_, ?_, ?_⟩ <;> ((try clear j137); (try clear hr_block); (try clear hf_block); grind (ematch := 12) (gen := 12) (splits := 15) [→ CF_nc, → CS_nc, → AF_na, → OH_no, → CS_step, → CS_CF, AF_nf, AQ_o, CS_nf, q_zz, q_za, q_zga, q_fza, q_fx, q_fga, q_gza, q_gfa, q_gx, q_zf1, q_zg1, q_ff, q_fg1, q_gf1, q_gg, AV_i, → CD_nc, CD_nf, ← CD_CS, → PD_np, → TM_nt, → TM_tr, ti_link])⟩
  intro z1 ez1
  intro S2 eS2
  have nS2 : NC S S2 := NC_z eS2 (by decide)
  have oS2 : NO nx S S2 := NO_z eS2
  have aS2 : AFv nx ((S.2.1 10) (ix (S.1 12))).toInt (S.1 9).toInt (S.1 10).toInt (-1) S2 := AFv_z eS2 (Or.inr rfl) (AFv_o (-1) hA)
  have tS2 : TM S S2 := TM_w10 eS2 (by (try clear hC hA hO hP hk tS0 nS2 oS2 aS2); (try clear j137); (try clear hr_block); (try clear hf_block); grind -mbtc (splits := 20) (gen := 30) (ematch := 15) [SI, PT, WB_ad2, WB_nw, LA_n, LA_p, OR1, B01, PW_up, ix_int, XI, PI, PJ, BU, LV, LA_i, q_zz, q_za, q_zga, q_fza, q_fx, q_fga, q_gza, q_gfa, q_gx, q_zf1, q_zg1, q_ff, q_fg1, q_gf1, q_gg, ti_link, in1000, in24000]) tS0
  refine ⟨by (try clear hC hA hO hP hk tS0 nS2 oS2 aS2 tS2); (try clear j137); (try clear hr_block); (try clear hf_block); grind -mbtc (splits := 20) (gen := 30) (ematch := 15) [SI, PT, WB_ad2, WB_nw, LA_n, LA_p, OR1, B01, PW_up, ix_int, XI, PI, PJ, BU, LV, LA_i, q_zz, q_za, q_zga, q_fza, q_fx, q_fga, q_gza, q_gfa, q_gx, q_zf1, q_zg1, q_ff, q_fg1, q_gf1, q_gg, ti_link, in1000, in24000], ?_⟩
  intro S3 eS3
  have oS3 : NO nx S2 S3 := NO_f eS3 (nH_t (by decide) (by (try clear hC hA hO hP hk tS0 nS2 oS2 aS2 tS2); (try clear j137); (try clear hr_block); (try clear hf_block); grind -mbtc (splits := 20) (gen := 30) (ematch := 15) [SI, PT, WB_ad2, WB_nw, LA_n, LA_p, OR1, B01, PW_up, ix_int, XI, PI, PJ, BU, LV, LA_i, q_zz, q_za, q_zga, q_fza, q_fx, q_fga, q_gza, q_gfa, q_gx, q_zf1, q_zg1, q_ff, q_fg1, q_gf1, q_gg, ti_link, in1000, in24000]))
  have aS3 : AFv nx ((S.2.1 10) (ix (S.1 12))).toInt (S.1 9).toInt (S.1 10).toInt (-1) S3 := AFv_f eS3 (Or.inr (Or.inl ⟨by unfold ix; omega, by decide⟩)) aS2
  have tS3 : TM S S3 := TM_fi eS3 (Or.inl ⟨rfl, by unfold ix; omega⟩) tS2
  have cS3 : CS nx kL (S.1 9).toInt (S.1 10).toInt (S.1 13) S3 := CS_lift (by rw [eS3]; rfl) (fun _ _ _ q => CW_w40 eS3 (by unfold ix; omega) q) (CS_nc nS2 hC)
  refine ⟨by (try clear hC hA hO hP hk tS0 nS2 oS2 aS2 tS2 oS3 aS3 tS3 cS3); (try clear j137); (try clear hr_block); (try clear hf_block); grind -mbtc (splits := 20) (gen := 30) (ematch := 15) [SI, PT, WB_ad2, WB_nw, LA_n, LA_p, OR1, B01, PW_up, ix_int, XI, PI, PJ, BU, LV, LA_i, q_zz, q_za, q_zga, q_fza, q_fx, q_fga, q_gza, q_gfa, q_gx, q_zf1, q_zg1, q_ff, q_fg1, q_gf1, q_gg, ti_link, in1000, in24000], ?_⟩
  intro S4 eS4
  have dS4 : NP S3 S4 := NP_f eS4 (by decide)
  have tS4 : NT S3 S4 := NT_f eS4 (by decide)
  have mS4 : NA S3 S4 := NA_f eS4 (by decide)
  have oS4 : NO nx S3 S4 := NO_f eS4 (nH_t (by decide) (by (try clear hC hA hO hP hk tS0 nS2 oS2 aS2 tS2 oS3 aS3 tS3 cS3 dS4 tS4 mS4); (try clear j137); (try clear hr_block); (try clear hf_block); grind -mbtc (splits := 20) (gen := 30) (ematch := 15) [SI, PT, WB_ad2, WB_nw, LA_n, LA_p, OR1, B01, PW_up, ix_int, XI, PI, PJ, BU, LV, LA_i, q_zz, q_za, q_zga, q_fza, q_fx, q_fga, q_gza, q_gfa, q_gx, q_zf1, q_zg1, q_ff, q_fg1, q_gf1, q_gg, ti_link, in1000, in24000]))
  have aS4 : AFv nx ((S.2.1 10) (ix (S.1 12))).toInt (S.1 9).toInt (S.1 10).toInt (-1) S4 := AFv_na mS4 aS3
  have cS4 : CS nx kL (S.1 9).toInt (S.1 10).toInt (S.1 13) S4 := CS_lift (by rw [eS4]; rfl) (fun _ _ _ q => CW_w41 eS4 (by unfold ix; omega) q) cS3
  have wt4 : (S4.2.1 40) (ix (S.1 10)) = (S.1 13) := by
        rw [eS4, eS3, eS2]
        show upd _ _ _ _ = _
        unfold upd
        rw [if_pos rfl]
        rfl
  have wd4 : (S4.2.1 41) (ix (S.1 10)) = (S.1 16) := by
        rw [eS4, eS3, eS2]
        show upd _ _ _ _ = _
        unfold upd
        rw [if_pos rfl]
        rfl
  have tt4 : S4.2.1 25 = S.2.1 25 := by
        rw [eS4, eS3, eS2]
        rfl
  refine fm_emit _ _ _ _ _ _ (fun S5 r5 hF5 pS5 => ?_) (sg_emit (nx := nx) _ _ _ (by (try clear hC hA hO hP hk tS0 nS2 oS2 aS2 tS2 oS3 aS3 tS3 cS3 dS4 tS4 mS4 oS4 aS4 cS4 wt4 wd4 tt4); (try clear j137); (try clear hr_block); (try clear hf_block); grind -mbtc (splits := 20) (gen := 30) (ematch := 15) [SI, PT, WB_ad2, WB_nw, LA_n, LA_p, OR1, B01, PW_up, ix_int, XI, PI, PJ, BU, LV, LA_i, q_zz, q_za, q_zga, q_fza, q_fx, q_fga, q_gza, q_gfa, q_gx, q_zf1, q_zg1, q_ff, q_fg1, q_gf1, q_gg, ti_link, in1000, in24000]))
  obtain ⟨pS5, qS5⟩ := pS5
  have tS5 : NT S4 S5 := NT_fr hF5 (by decide) (by decide)
  have fS5 : S5.1 4 = 0 → S4.1 4 = 0 := fun q => (hF5.1 4 (by decide)).symm.trans q
  have dS5 : NP S4 S5 := NP_fr hF5 (by decide) (by decide) fS5
  have mS5 : NA S4 S5 := NA_fr hF5 (by decide) (by decide) fS5
  have z3_S5 := hF5.1 3 (by decide)
  have z4_S5 := hF5.1 4 (by decide)
  have z6_S5 := hF5.1 6 (by decide)
  have z8_S5 := hF5.1 8 (by decide)
  have z9_S5 := hF5.1 9 (by decide)
  have z10_S5 := hF5.1 10 (by decide)
  have z11_S5 := hF5.1 11 (by decide)
  have z12_S5 := hF5.1 12 (by decide)
  have z13_S5 := hF5.1 13 (by decide)
  have z15_S5 := hF5.1 15 (by decide)
  have z17_S5 := hF5.1 17 (by decide)
  have z18_S5 := hF5.1 18 (by decide)
  have z19_S5 := hF5.1 19 (by decide)
  have z20_S5 := hF5.1 20 (by decide)
  have z16_S5 := hF5.1 16 (by decide)
  have f1_S5 := hF5.2.1 1 (by decide)
  have f1a_S5 := Fr_fa hF5 1 (by decide)
  have f2_S5 := hF5.2.1 2 (by decide)
  have f2a_S5 := Fr_fa hF5 2 (by decide)
  have f8_S5 := hF5.2.1 8 (by decide)
  have f8a_S5 := Fr_fa hF5 8 (by decide)
  have f10_S5 := hF5.2.1 10 (by decide)
  have f10a_S5 := Fr_fa hF5 10 (by decide)
  have f25_S5 := hF5.2.1 25 (by decide)
  have f25a_S5 := Fr_fa hF5 25 (by decide)
  have f28_S5 := hF5.2.1 28 (by decide)
  have f28a_S5 := Fr_fa hF5 28 (by decide)
  have f35_S5 := hF5.2.1 35 (by decide)
  have f35a_S5 := Fr_fa hF5 35 (by decide)
  have f36_S5 := hF5.2.1 36 (by decide)
  have f36a_S5 := Fr_fa hF5 36 (by decide)
  have f45_S5 := hF5.2.1 45 (by decide)
  have f45a_S5 := Fr_fa hF5 45 (by decide)
  have f46_S5 := hF5.2.1 46 (by decide)
  have f46a_S5 := Fr_fa hF5 46 (by decide)
  have f48_S5 := hF5.2.1 48 (by decide)
  have f48a_S5 := Fr_fa hF5 48 (by decide)
  have f40_S5 := hF5.2.1 40 (by decide)
  have f40a_S5 := Fr_fa hF5 40 (by decide)
  have f41_S5 := hF5.2.1 41 (by decide)
  have f41a_S5 := Fr_fa hF5 41 (by decide)
  have f42_S5 := hF5.2.1 42 (by decide)
  have f42a_S5 := Fr_fa hF5 42 (by decide)
  have f44_S5 := hF5.2.1 44 (by decide)
  have f44a_S5 := Fr_fa hF5 44 (by decide)
  have f29_S5 := hF5.2.1 29 (by decide)
  have f29a_S5 := Fr_fa hF5 29 (by decide)
  have g3_S5 := hF5.2.2 3 (by decide)
  have g3a_S5 := Fr_ga hF5 3 (by decide)
  have g4_S5 := hF5.2.2 4 (by decide)
  have g4a_S5 := Fr_ga hF5 4 (by decide)
  clear hF5
  have aS5 : AFv nx ((S.2.1 10) (ix (S.1 12))).toInt (S.1 9).toInt (S.1 10).toInt (-1) S5 := AFv_na mS5 aS4
  refine ⟨by (try clear hC hA hO hP hk tS0 nS2 oS2 aS2 tS2 oS3 aS3 tS3 cS3 dS4 tS4 mS4 oS4 aS4 cS4 wt4 wd4 tt4 qS5 tS5 dS5 mS5 aS5); (try clear j137); (try clear hr_block); (try clear hf_block); grind -mbtc (splits := 20) (gen := 30) (ematch := 15) [SI, PT, WB_ad2, WB_nw, LA_n, LA_p, OR1, B01, PW_up, ix_int, XI, PI, PJ, BU, LV, LA_i, q_zz, q_za, q_zga, q_fza, q_fx, q_fga, q_gza, q_gfa, q_gx, q_zf1, q_zg1, q_ff, q_fg1, q_gf1, q_gg, ti_link, in1000, in24000], ?_⟩
  intro S6 eS6
  have dS6 : NP S5 S6 := NP_f eS6 (by decide)
  have tS6 : NT S5 S6 := NT_f eS6 (by decide)
  have mS6 : NA S5 S6 := NA_f eS6 (by decide)
  have oS6 : NO nx S5 S6 := NO_f eS6 (nH_t (by decide) (by (try clear hC hA hO hP hk tS0 nS2 oS2 aS2 tS2 oS3 aS3 tS3 cS3 dS4 tS4 mS4 oS4 aS4 cS4 wt4 wd4 tt4 qS5 tS5 dS5 mS5 aS5 dS6 tS6 mS6); (try clear j137); (try clear hr_block); (try clear hf_block); grind -mbtc (splits := 20) (gen := 30) (ematch := 15) [SI, PT, WB_ad2, WB_nw, LA_n, LA_p, OR1, B01, PW_up, ix_int, XI, PI, PJ, BU, LV, LA_i, q_zz, q_za, q_zga, q_fza, q_fx, q_fga, q_gza, q_gfa, q_gx, q_zf1, q_zg1, q_ff, q_fg1, q_gf1, q_gg, ti_link, in1000, in24000]))
  have aS6 : AFv nx ((S.2.1 10) (ix (S.1 12))).toInt (S.1 9).toInt (S.1 10).toInt (-1) S6 := AFv_na mS6 aS5
  have cS6 : CS nx ((ix (S.1 10), 4, (0 : Int32)) :: kL) (S.1 9).toInt ((S.1 10).toInt + 1) (S.1 13) S6 := CS_loop qS5.1 (by rw [← pS5.1]; exact eS6) rfl (by (try clear hC hA hO hP hk tS0 nS2 oS2 aS2 tS2 oS3 aS3 tS3 cS3 dS4 tS4 mS4 oS4 aS4 cS4 wt4 wd4 tt4 qS5 tS5 dS5 mS5 aS5 dS6 tS6 mS6 oS6 aS6); (try clear j137); (try clear hr_block); (try clear hf_block); grind -mbtc (splits := 20) (gen := 30) (ematch := 15) [SI, PT, WB_ad2, WB_nw, LA_n, LA_p, OR1, B01, PW_up, ix_int, XI, PI, PJ, BU, LV, LA_i, q_zz, q_za, q_zga, q_fza, q_fx, q_fga, q_gza, q_gfa, q_gx, q_zf1, q_zg1, q_ff, q_fg1, q_gf1, q_gg, ti_link, in1000, in24000]) wt4 (by
        intro hf9
        rw [wd4, wt4, tt4]
        have q := hP hf
        exact ⟨q.1, q.2.2.1, q.2.2.2.1⟩) cS4
  refine fm_then _ _ _ _ _ (fun S7 r7 hF6 pS7 => ?_) (sgv_then (nx := nx) _ _ (by (try clear hC hA hO hP hk tS0 nS2 oS2 aS2 tS2 oS3 aS3 tS3 cS3 dS4 tS4 mS4 oS4 aS4 cS4 wt4 wd4 tt4 qS5 tS5 dS5 mS5 aS5 dS6 tS6 mS6 oS6 aS6 cS6); (try clear j137); (try clear hr_block); (try clear hf_block); grind -mbtc (splits := 20) (gen := 30) (ematch := 15) [SI, PT, WB_ad2, WB_nw, LA_n, LA_p, OR1, B01, PW_up, ix_int, XI, PI, PJ, BU, LV, LA_i, q_zz, q_za, q_zga, q_fza, q_fx, q_fga, q_gza, q_gfa, q_gx, q_zf1, q_zg1, q_ff, q_fg1, q_gf1, q_gg, ti_link, in1000, in24000]))
  obtain ⟨pS7, qS7⟩ := pS7
  have tS7 : NT S6 S7 := NT_fr hF6 (by decide) (by decide)
  have fS7 : S7.1 4 = 0 → S6.1 4 = 0 := fun q => (hF6.1 4 (by decide)).symm.trans q
  have dS7 : NP S6 S7 := NP_fr hF6 (by decide) (by decide) fS7
  have nS7 : NC S6 S7 := NC_fr hF6 (by decide) (by decide) fS7
  have z3_S7 := hF6.1 3 (by decide)
  have z4_S7 := hF6.1 4 (by decide)
  have z6_S7 := hF6.1 6 (by decide)
  have z7_S7 := hF6.1 7 (by decide)
  have z9_S7 := hF6.1 9 (by decide)
  have z10_S7 := hF6.1 10 (by decide)
  have z11_S7 := hF6.1 11 (by decide)
  have z12_S7 := hF6.1 12 (by decide)
  have z13_S7 := hF6.1 13 (by decide)
  have z15_S7 := hF6.1 15 (by decide)
  have z17_S7 := hF6.1 17 (by decide)
  have z18_S7 := hF6.1 18 (by decide)
  have z20_S7 := hF6.1 20 (by decide)
  have z16_S7 := hF6.1 16 (by decide)
  have f1_S7 := hF6.2.1 1 (by decide)
  have f1a_S7 := Fr_fa hF6 1 (by decide)
  have f2_S7 := hF6.2.1 2 (by decide)
  have f2a_S7 := Fr_fa hF6 2 (by decide)
  have f8_S7 := hF6.2.1 8 (by decide)
  have f8a_S7 := Fr_fa hF6 8 (by decide)
  have f10_S7 := hF6.2.1 10 (by decide)
  have f10a_S7 := Fr_fa hF6 10 (by decide)
  have f25_S7 := hF6.2.1 25 (by decide)
  have f25a_S7 := Fr_fa hF6 25 (by decide)
  have f28_S7 := hF6.2.1 28 (by decide)
  have f28a_S7 := Fr_fa hF6 28 (by decide)
  have f35_S7 := hF6.2.1 35 (by decide)
  have f35a_S7 := Fr_fa hF6 35 (by decide)
  have f36_S7 := hF6.2.1 36 (by decide)
  have f36a_S7 := Fr_fa hF6 36 (by decide)
  have f45_S7 := hF6.2.1 45 (by decide)
  have f45a_S7 := Fr_fa hF6 45 (by decide)
  have f46_S7 := hF6.2.1 46 (by decide)
  have f46a_S7 := Fr_fa hF6 46 (by decide)
  have f48_S7 := hF6.2.1 48 (by decide)
  have f48a_S7 := Fr_fa hF6 48 (by decide)
  have f40_S7 := hF6.2.1 40 (by decide)
  have f40a_S7 := Fr_fa hF6 40 (by decide)
  have f41_S7 := hF6.2.1 41 (by decide)
  have f41a_S7 := Fr_fa hF6 41 (by decide)
  have f42_S7 := hF6.2.1 42 (by decide)
  have f42a_S7 := Fr_fa hF6 42 (by decide)
  have f44_S7 := hF6.2.1 44 (by decide)
  have f44a_S7 := Fr_fa hF6 44 (by decide)
  have f29_S7 := hF6.2.1 29 (by decide)
  have f29a_S7 := Fr_fa hF6 29 (by decide)
  have g3_S7 := hF6.2.2 3 (by decide)
  have g3a_S7 := Fr_ga hF6 3 (by decide)
  have g4_S7 := hF6.2.2 4 (by decide)
  have g4a_S7 := Fr_ga hF6 4 (by decide)
  clear hF6
  have aS7 : AFv nx ((S.2.1 10) (ix (S.1 12))).toInt (S.1 9).toInt (S.1 10).toInt (-1) S7 := qS7.2.2 _ _ _ _ aS6 ⟨by decide, by decide, by decide⟩
  refine ⟨by (try clear hC hA hO hP hk tS0 nS2 oS2 aS2 tS2 oS3 aS3 tS3 cS3 dS4 tS4 mS4 oS4 aS4 cS4 wt4 wd4 tt4 qS5 tS5 dS5 mS5 aS5 dS6 tS6 mS6 oS6 aS6 cS6 qS7 tS7 dS7 nS7 aS7); (try clear j137); (try clear hr_block); (try clear hf_block); grind -mbtc (splits := 20) (gen := 30) (ematch := 15) [SI, PT, WB_ad2, WB_nw, LA_n, LA_p, OR1, B01, PW_up, ix_int, XI, PI, PJ, BU, LV, LA_i, q_zz, q_za, q_zga, q_fza, q_fx, q_fga, q_gza, q_gfa, q_gx, q_zf1, q_zg1, q_ff, q_fg1, q_gf1, q_gg, ti_link, in1000, in24000], ?_⟩
  intro S8 eS8
  have dS8 : NP S7 S8 := NP_f eS8 (by decide)
  have tS8 : NT S7 S8 := NT_f eS8 (by decide)
  have nS8 : NC S7 S8 := NC_f eS8 (by decide)
  have oS8 : NO nx S7 S8 := NO_f eS8 (nH_t (by decide) (by (try clear hC hA hO hP hk tS0 nS2 oS2 aS2 tS2 oS3 aS3 tS3 cS3 dS4 tS4 mS4 oS4 aS4 cS4 wt4 wd4 tt4 qS5 tS5 dS5 mS5 aS5 dS6 tS6 mS6 oS6 aS6 cS6 qS7 tS7 dS7 nS7 aS7 dS8 tS8 nS8); (try clear j137); (try clear hr_block); (try clear hf_block); grind -mbtc (splits := 20) (gen := 30) (ematch := 15) [SI, PT, WB_ad2, WB_nw, LA_n, LA_p, OR1, B01, PW_up, ix_int, XI, PI, PJ, BU, LV, LA_i, q_zz, q_za, q_zga, q_fza, q_fx, q_fga, q_gza, q_gfa, q_gx, q_zf1, q_zg1, q_ff, q_fg1, q_gf1, q_gg, ti_link, in1000, in24000]))
  have aS8 : AFv nx ((S.2.1 10) (ix (S.1 12))).toInt (S.1 9).toInt (S.1 10).toInt (-1) S8 := AFv_f eS8 (Or.inr (Or.inl ⟨by unfold ix; omega, by decide⟩)) aS7
  refine fm_act _ _ _ _ _ (fun S9 r9 hF7 pS9 => ?_) (sgv_act (nx := nx) _ _ (by (try clear hC hA hO hP hk tS0 nS2 oS2 aS2 tS2 oS3 aS3 tS3 cS3 dS4 tS4 mS4 oS4 aS4 cS4 wt4 wd4 tt4 qS5 tS5 dS5 mS5 aS5 dS6 tS6 mS6 oS6 aS6 cS6 qS7 tS7 dS7 nS7 aS7 dS8 tS8 nS8 oS8 aS8); (try clear j137); (try clear hr_block); (try clear hf_block); grind -mbtc (splits := 20) (gen := 30) (ematch := 15) [SI, PT, WB_ad2, WB_nw, LA_n, LA_p, OR1, B01, PW_up, ix_int, XI, PI, PJ, BU, LV, LA_i, q_zz, q_za, q_zga, q_fza, q_fx, q_fga, q_gza, q_gfa, q_gx, q_zf1, q_zg1, q_ff, q_fg1, q_gf1, q_gg, ti_link, in1000, in24000]))
  obtain ⟨pS9, qS9⟩ := pS9
  have tS9 : NT S8 S9 := NT_fr hF7 (by decide) (by decide)
  have fS9 : S9.1 4 = 0 → S8.1 4 = 0 := fun q => (hF7.1 4 (by decide)).symm.trans q
  have dS9 : NP S8 S9 := NP_fr hF7 (by decide) (by decide) fS9
  have nS9 : NC S8 S9 := NC_fr hF7 (by decide) (by decide) fS9
  have z3_S9 := hF7.1 3 (by decide)
  have z4_S9 := hF7.1 4 (by decide)
  have z6_S9 := hF7.1 6 (by decide)
  have z7_S9 := hF7.1 7 (by decide)
  have z9_S9 := hF7.1 9 (by decide)
  have z10_S9 := hF7.1 10 (by decide)
  have z11_S9 := hF7.1 11 (by decide)
  have z12_S9 := hF7.1 12 (by decide)
  have z13_S9 := hF7.1 13 (by decide)
  have z15_S9 := hF7.1 15 (by decide)
  have z17_S9 := hF7.1 17 (by decide)
  have z18_S9 := hF7.1 18 (by decide)
  have z19_S9 := hF7.1 19 (by decide)
  have z20_S9 := hF7.1 20 (by decide)
  have z16_S9 := hF7.1 16 (by decide)
  have f1_S9 := hF7.2.1 1 (by decide)
  have f1a_S9 := Fr_fa hF7 1 (by decide)
  have f2_S9 := hF7.2.1 2 (by decide)
  have f2a_S9 := Fr_fa hF7 2 (by decide)
  have f8_S9 := hF7.2.1 8 (by decide)
  have f8a_S9 := Fr_fa hF7 8 (by decide)
  have f10_S9 := hF7.2.1 10 (by decide)
  have f10a_S9 := Fr_fa hF7 10 (by decide)
  have f25_S9 := hF7.2.1 25 (by decide)
  have f25a_S9 := Fr_fa hF7 25 (by decide)
  have f28_S9 := hF7.2.1 28 (by decide)
  have f28a_S9 := Fr_fa hF7 28 (by decide)
  have f35_S9 := hF7.2.1 35 (by decide)
  have f35a_S9 := Fr_fa hF7 35 (by decide)
  have f36_S9 := hF7.2.1 36 (by decide)
  have f36a_S9 := Fr_fa hF7 36 (by decide)
  have f45_S9 := hF7.2.1 45 (by decide)
  have f45a_S9 := Fr_fa hF7 45 (by decide)
  have f46_S9 := hF7.2.1 46 (by decide)
  have f46a_S9 := Fr_fa hF7 46 (by decide)
  have f48_S9 := hF7.2.1 48 (by decide)
  have f48a_S9 := Fr_fa hF7 48 (by decide)
  have f40_S9 := hF7.2.1 40 (by decide)
  have f40a_S9 := Fr_fa hF7 40 (by decide)
  have f41_S9 := hF7.2.1 41 (by decide)
  have f41a_S9 := Fr_fa hF7 41 (by decide)
  have f42_S9 := hF7.2.1 42 (by decide)
  have f42a_S9 := Fr_fa hF7 42 (by decide)
  have f44_S9 := hF7.2.1 44 (by decide)
  have f44a_S9 := Fr_fa hF7 44 (by decide)
  have f29_S9 := hF7.2.1 29 (by decide)
  have f29a_S9 := Fr_fa hF7 29 (by decide)
  have g3_S9 := hF7.2.2 3 (by decide)
  have g3a_S9 := Fr_ga hF7 3 (by decide)
  have g4_S9 := hF7.2.2 4 (by decide)
  have g4a_S9 := Fr_ga hF7 4 (by decide)
  clear hF7
  have aS9 : AFv nx ((S.2.1 10) (ix (S.1 12))).toInt (S.1 9).toInt (S.1 10).toInt (-1) S9 := qS9.2.2 _ _ _ _ aS8 ⟨by decide, by decide, by decide⟩
  refine ⟨by (try clear hC hA hO hP hk tS0 nS2 oS2 aS2 tS2 oS3 aS3 tS3 cS3 dS4 tS4 mS4 oS4 aS4 cS4 wt4 wd4 tt4 qS5 tS5 dS5 mS5 aS5 dS6 tS6 mS6 oS6 aS6 cS6 qS7 tS7 dS7 nS7 aS7 dS8 tS8 nS8 oS8 aS8 qS9 tS9 dS9 nS9 aS9); (try clear j137); (try clear hr_block); (try clear hf_block); grind -mbtc (splits := 20) (gen := 30) (ematch := 15) [SI, PT, WB_ad2, WB_nw, LA_n, LA_p, OR1, B01, PW_up, ix_int, XI, PI, PJ, BU, LV, LA_i, q_zz, q_za, q_zga, q_fza, q_fx, q_fga, q_gza, q_gfa, q_gx, q_zf1, q_zg1, q_ff, q_fg1, q_gf1, q_gg, ti_link, in1000, in24000], ?_⟩
  intro S10 eS10
  have dS10 : NP S9 S10 := NP_f eS10 (by decide)
  have tS10 : NT S9 S10 := NT_f eS10 (by decide)
  have nS10 : NC S9 S10 := NC_f eS10 (by decide)
  have oS10 : NO nx S9 S10 := NO_f eS10 (nH_t (by decide) (by (try clear hC hA hO hP hk tS0 nS2 oS2 aS2 tS2 oS3 aS3 tS3 cS3 dS4 tS4 mS4 oS4 aS4 cS4 wt4 wd4 tt4 qS5 tS5 dS5 mS5 aS5 dS6 tS6 mS6 oS6 aS6 cS6 qS7 tS7 dS7 nS7 aS7 dS8 tS8 nS8 oS8 aS8 qS9 tS9 dS9 nS9 aS9 dS10 tS10 nS10); (try clear j137); (try clear hr_block); (try clear hf_block); grind -mbtc (splits := 20) (gen := 30) (ematch := 15) [SI, PT, WB_ad2, WB_nw, LA_n, LA_p, OR1, B01, PW_up, ix_int, XI, PI, PJ, BU, LV, LA_i, q_zz, q_za, q_zga, q_fza, q_fx, q_fga, q_gza, q_gfa, q_gx, q_zf1, q_zg1, q_ff, q_fg1, q_gf1, q_gg, ti_link, in1000, in24000]))
  have av10 : AFv nx ((S.2.1 10) (ix (S.1 12))).toInt (S.1 9).toInt (S.1 10).toInt (-1) S10 := AFv_f eS10 (Or.inr (Or.inl ⟨by unfold ix; omega, by decide⟩)) aS9
  have w10 : (S10.1 10).toInt = (S.1 10).toInt + 1 := by (try clear hC hA hO hP hk tS0 nS2 oS2 aS2 tS2 oS3 aS3 tS3 cS3 dS4 tS4 mS4 oS4 aS4 cS4 wt4 wd4 tt4 qS5 tS5 dS5 mS5 aS5 dS6 tS6 mS6 oS6 aS6 cS6 qS7 tS7 dS7 nS7 aS7 dS8 tS8 nS8 oS8 aS8 qS9 tS9 dS9 nS9 aS9 dS10 tS10 nS10 oS10 av10); (try clear j137); (try clear hr_block); (try clear hf_block); grind -mbtc (splits := 20) (gen := 30) (ematch := 15) [SI, PT, WB_ad2, WB_nw, LA_n, LA_p, OR1, B01, PW_up, ix_int, XI, PI, PJ, BU, LV, LA_i, q_zz, q_za, q_zga, q_fza, q_fx, q_fga, q_gza, q_gfa, q_gx, q_zf1, q_zg1, q_ff, q_fg1, q_gf1, q_gg, ti_link, in1000, in24000]
  have aS10 : AF nx ((S.2.1 10) (ix (S.1 12))).toInt S10 := AF_o (AFv_nw (w := S.1 10) rfl (by (try clear hC hA hO hP hk tS0 nS2 oS2 aS2 tS2 oS3 aS3 tS3 cS3 dS4 tS4 mS4 oS4 aS4 cS4 wt4 wd4 tt4 qS5 tS5 dS5 mS5 aS5 dS6 tS6 mS6 oS6 aS6 cS6 qS7 tS7 dS7 nS7 aS7 dS8 tS8 nS8 oS8 aS8 qS9 tS9 dS9 nS9 aS9 dS10 tS10 nS10 oS10 av10 w10); (try clear j137); (try clear hr_block); (try clear hf_block); grind -mbtc (splits := 20) (gen := 30) (ematch := 15) [SI, PT, WB_ad2, WB_nw, LA_n, LA_p, OR1, B01, PW_up, ix_int, XI, PI, PJ, BU, LV, LA_i, q_zz, q_za, q_zga, q_fza, q_fx, q_fga, q_gza, q_gfa, q_gx, q_zf1, q_zg1, q_ff, q_fg1, q_gf1, q_gg, ti_link, in1000, in24000]) (fun _ => ⟨⟨by (try clear hC hA hO hP hk tS0 nS2 oS2 aS2 tS2 oS3 aS3 tS3 cS3 dS4 tS4 mS4 oS4 aS4 cS4 wt4 wd4 tt4 qS5 tS5 dS5 mS5 aS5 dS6 tS6 mS6 oS6 aS6 cS6 qS7 tS7 dS7 nS7 aS7 dS8 tS8 nS8 oS8 aS8 qS9 tS9 dS9 nS9 aS9 dS10 tS10 nS10 oS10 av10 w10); (try clear j137); (try clear hr_block); (try clear hf_block); grind -mbtc (splits := 20) (gen := 30) (ematch := 15) [SI, PT, WB_ad2, WB_nw, LA_n, LA_p, OR1, B01, PW_up, ix_int, XI, PI, PJ, BU, LV, LA_i, q_zz, q_za, q_zga, q_fza, q_fx, q_fga, q_gza, q_gfa, q_gx, q_zf1, q_zg1, q_ff, q_fg1, q_gf1, q_gg, ti_link, in1000, in24000], by (try clear hC hA hO hP hk tS0 nS2 oS2 aS2 tS2 oS3 aS3 tS3 cS3 dS4 tS4 mS4 oS4 aS4 cS4 wt4 wd4 tt4 qS5 tS5 dS5 mS5 aS5 dS6 tS6 mS6 oS6 aS6 cS6 qS7 tS7 dS7 nS7 aS7 dS8 tS8 nS8 oS8 aS8 qS9 tS9 dS9 nS9 aS9 dS10 tS10 nS10 oS10 av10 w10); (try clear j137); (try clear hr_block); (try clear hf_block); grind -mbtc (splits := 20) (gen := 30) (ematch := 15) [SI, PT, WB_ad2, WB_nw, LA_n, LA_p, OR1, B01, PW_up, ix_int, XI, PI, PJ, BU, LV, LA_i, q_zz, q_za, q_zga, q_fza, q_fx, q_fga, q_gza, q_gfa, q_gx, q_zf1, q_zg1, q_ff, q_fg1, q_gf1, q_gg, ti_link, in1000, in24000]⟩, ⟨by (try clear hC hA hO hP hk tS0 nS2 oS2 aS2 tS2 oS3 aS3 tS3 cS3 dS4 tS4 mS4 oS4 aS4 cS4 wt4 wd4 tt4 qS5 tS5 dS5 mS5 aS5 dS6 tS6 mS6 oS6 aS6 cS6 qS7 tS7 dS7 nS7 aS7 dS8 tS8 nS8 oS8 aS8 qS9 tS9 dS9 nS9 aS9 dS10 tS10 nS10 oS10 av10 w10); (try clear j137); (try clear hr_block); (try clear hf_block); grind -mbtc (splits := 20) (gen := 30) (ematch := 15) [SI, PT, WB_ad2, WB_nw, LA_n, LA_p, OR1, B01, PW_up, ix_int, XI, PI, PJ, BU, LV, LA_i, q_zz, q_za, q_zga, q_fza, q_fx, q_fga, q_gza, q_gfa, q_gx, q_zf1, q_zg1, q_ff, q_fg1, q_gf1, q_gg, ti_link, in1000, in24000], by (try clear hC hA hO hP hk tS0 nS2 oS2 aS2 tS2 oS3 aS3 tS3 cS3 dS4 tS4 mS4 oS4 aS4 cS4 wt4 wd4 tt4 qS5 tS5 dS5 mS5 aS5 dS6 tS6 mS6 oS6 aS6 cS6 qS7 tS7 dS7 nS7 aS7 dS8 tS8 nS8 oS8 aS8 qS9 tS9 dS9 nS9 aS9 dS10 tS10 nS10 oS10 av10 w10); (try clear j137); (try clear hr_block); (try clear hf_block); grind -mbtc (splits := 20) (gen := 30) (ematch := 15) [SI, PT, WB_ad2, WB_nw, LA_n, LA_p, OR1, B01, PW_up, ix_int, XI, PI, PJ, BU, LV, LA_i, q_zz, q_za, q_zga, q_fza, q_fx, q_fga, q_gza, q_gfa, q_gx, q_zf1, q_zg1, q_ff, q_fg1, q_gf1, q_gg, ti_link, in1000, in24000]⟩⟩) av10) (by (try clear hC hA hO hP hk tS0 nS2 oS2 aS2 tS2 oS3 aS3 tS3 cS3 dS4 tS4 mS4 oS4 aS4 cS4 wt4 wd4 tt4 qS5 tS5 dS5 mS5 aS5 dS6 tS6 mS6 oS6 aS6 cS6 qS7 tS7 dS7 nS7 aS7 dS8 tS8 nS8 oS8 aS8 qS9 tS9 dS9 nS9 aS9 dS10 tS10 nS10 oS10 av10 w10); (try clear j137); (try clear hr_block); (try clear hf_block); grind -mbtc (splits := 20) (gen := 30) (ematch := 15) [SI, PT, WB_ad2, WB_nw, LA_n, LA_p, OR1, B01, PW_up, ix_int, XI, PI, PJ, BU, LV, LA_i, q_zz, q_za, q_zga, q_fza, q_fx, q_fga, q_gza, q_gfa, q_gx, q_zf1, q_zg1, q_ff, q_fg1, q_gf1, q_gg, ti_link, in1000, in24000]) w10
  have tS10 : TM S S10 := by (try clear j137); (try clear hr_block); (try clear hf_block); grind (ematch := 12) (gen := 12) (splits := 15) [→ CF_nc, → CS_nc, → AF_na, → OH_no, → CS_step, → CS_CF, AF_nf, AQ_o, CS_nf, q_zz, q_za, q_zga, q_fza, q_fx, q_fga, q_gza, q_gfa, q_gx, q_zf1, q_zg1, q_ff, q_fg1, q_gf1, q_gg, AV_i, → CD_nc, CD_nf, ← CD_CS, → PD_np, → TM_nt, → TM_tr, ti_link]
  have pS10_ : PD nx kd S10 := PD_tm hA tS10 (by (try clear hC hA hO hP hk tS0 nS2 oS2 aS2 tS2 oS3 aS3 tS3 cS3 dS4 tS4 mS4 oS4 aS4 cS4 wt4 wd4 tt4 qS5 tS5 dS5 mS5 aS5 dS6 tS6 mS6 oS6 aS6 cS6 qS7 tS7 dS7 nS7 aS7 dS8 tS8 nS8 oS8 aS8 qS9 tS9 dS9 nS9 aS9 dS10 tS10 nS10 oS10 av10 w10 aS10 tS10); (try clear j137); (try clear hr_block); (try clear hf_block); grind -mbtc (splits := 20) (gen := 30) (ematch := 15) [SI, PT, WB_ad2, WB_nw, LA_n, LA_p, OR1, B01, PW_up, ix_int, XI, PI, PJ, BU, LV, LA_i, q_zz, q_za, q_zga, q_fza, q_fx, q_fga, q_gza, q_gfa, q_gx, q_zf1, q_zg1, q_ff, q_fg1, q_gf1, q_gg, ti_link, in1000, in24000]) (by (try clear hC hA hO hP hk tS0 nS2 oS2 aS2 tS2 oS3 aS3 tS3 cS3 dS4 tS4 mS4 oS4 aS4 cS4 wt4 wd4 tt4 qS5 tS5 dS5 mS5 aS5 dS6 tS6 mS6 oS6 aS6 cS6 qS7 tS7 dS7 nS7 aS7 dS8 tS8 nS8 oS8 aS8 qS9 tS9 dS9 nS9 aS9 dS10 tS10 nS10 oS10 av10 w10 aS10 tS10); (try clear j137); (try clear hr_block); (try clear hf_block); grind -mbtc (splits := 20) (gen := 30) (ematch := 15) [SI, PT, WB_ad2, WB_nw, LA_n, LA_p, OR1, B01, PW_up, ix_int, XI, PI, PJ, BU, LV, LA_i, q_zz, q_za, q_zga, q_fza, q_fx, q_fga, q_gza, q_gfa, q_gx, q_zf1, q_zg1, q_ff, q_fg1, q_gf1, q_gg, ti_link, in1000, in24000]) hP
  have cS10 : CS nx ((ix (S.1 10), 4, (0 : Int32)) :: kL) (S10.1 9).toInt (S10.1 10).toInt (S10.1 13) S10 := by
        rw [w10]
        (try clear j137); (try clear hr_block); (try clear hf_block); grind (ematch := 12) (gen := 12) (splits := 15) [→ CF_nc, → CS_nc, → AF_na, → OH_no, → CS_step, → CS_CF, AF_nf, AQ_o, CS_nf, q_zz, q_za, q_zga, q_fza, q_fx, q_fga, q_gza, q_gfa, q_gx, q_zf1, q_zg1, q_ff, q_fg1, q_gf1, q_gg, AV_i, → CD_nc, CD_nf, ← CD_CS, → PD_np, → TM_nt, → TM_tr, ti_link]
  have oS10_ : OH nx S0 S10 := by (try clear j137); (try clear hr_block); (try clear hf_block); grind (ematch := 12) (gen := 12) (splits := 15) [→ CF_nc, → CS_nc, → AF_na, → OH_no, → CS_step, → CS_CF, AF_nf, AQ_o, CS_nf, q_zz, q_za, q_zga, q_fza, q_fx, q_fga, q_gza, q_gfa, q_gx, q_zf1, q_zg1, q_ff, q_fg1, q_gf1, q_gg, AV_i, → CD_nc, CD_nf, ← CD_CS, → PD_np, → TM_nt, → TM_tr, ti_link]
  have wt10 : (S10.2.1 40) (ix (S.1 10)) = (S.1 13) := by (try clear j137); (try clear hr_block); (try clear hf_block); grind (ematch := 12) (gen := 12) (splits := 15) [→ CF_nc, → CS_nc, → AF_na, → OH_no, → CS_step, → CS_CF, AF_nf, AQ_o, CS_nf, q_zz, q_za, q_zga, q_fza, q_fx, q_fga, q_gza, q_gfa, q_gx, q_zf1, q_zg1, q_ff, q_fg1, q_gf1, q_gg, AV_i, → CD_nc, CD_nf, ← CD_CS, → PD_np, → TM_nt, → TM_tr, ti_link]
  refine fq_expression _ _ _ (fun S11 hF8 pS11 => ?_) (sq_expression (nx := nx) (n := n) (so := so) (pl := pl) (wo := wo) (ws := ws) (S0 := S0) (d := d) (G := (G + 2)) (GA := (GA + 2)) (X := X) (Y := Y) (kL := ((ix (S.1 10), 4, (0 : Int32)) :: kL)) (kn := (S10.1 9).toInt) (kw := (S10.1 10).toInt) (kh := 0) (ki := 0) (kc := 0) (ko := 0) (km := ((S10.2.1 10) (ix (S10.1 12))).toInt) (kt := (S10.1 13)) (by (try clear hC hA hO hP hk tS0 nS2 oS2 aS2 tS2 oS3 aS3 tS3 cS3 dS4 tS4 mS4 oS4 aS4 cS4 wt4 wd4 tt4 qS5 tS5 dS5 mS5 aS5 dS6 tS6 mS6 oS6 aS6 cS6 qS7 tS7 dS7 nS7 aS7 dS8 tS8 nS8 oS8 aS8 qS9 tS9 dS9 nS9 aS9 dS10 tS10 nS10 oS10 av10 w10 aS10 tS10 pS10_ cS10 oS10_ wt10); (try clear j137); (try clear hr_block); (try clear hf_block); grind -mbtc (splits := 20) (gen := 30) (ematch := 15) [SI, PT, WB_ad2, WB_nw, LA_n, LA_p, OR1, B01, PW_up, ix_int, XI, PI, PJ, BU, LV, LA_i, q_zz, q_za, q_zga, q_fza, q_fx, q_fga, q_gza, q_gfa, q_gx, q_zf1, q_zg1, q_ff, q_fg1, q_gf1, q_gg, ti_link, in1000, in24000]) (by (try clear hC hA hO hP hk tS0 nS2 oS2 aS2 tS2 oS3 aS3 tS3 cS3 dS4 tS4 mS4 oS4 aS4 cS4 wt4 wd4 tt4 qS5 tS5 dS5 mS5 aS5 dS6 tS6 mS6 oS6 aS6 cS6 qS7 tS7 dS7 nS7 aS7 dS8 tS8 nS8 oS8 aS8 qS9 tS9 dS9 nS9 aS9 dS10 tS10 nS10 oS10 av10 w10 aS10 tS10 pS10_ cS10 oS10_ wt10); (try clear j137); (try clear hr_block); (try clear hf_block); grind -mbtc (splits := 20) (gen := 30) (ematch := 15) [SI, PT, WB_ad2, WB_nw, LA_n, LA_p, OR1, B01, PW_up, ix_int, XI, PI, PJ, BU, LV, LA_i, q_zz, q_za, q_zga, q_fza, q_fx, q_fga, q_gza, q_gfa, q_gx, q_zf1, q_zg1, q_ff, q_fg1, q_gf1, q_gg, ti_link, in1000, in24000]) (by (try clear j137); (try clear hr_block); (try clear hf_block); grind (ematch := 12) (gen := 12) (splits := 15) [→ CF_nc, → CS_nc, → AF_na, → OH_no, → CS_step, → CS_CF, AF_nf, AQ_o, CS_nf, q_zz, q_za, q_zga, q_fza, q_fx, q_fga, q_gza, q_gfa, q_gx, q_zf1, q_zg1, q_ff, q_fg1, q_gf1, q_gg, AV_i, → CD_nc, CD_nf, ← CD_CS, → PD_np, → TM_nt, → TM_tr, ti_link]) (by (try clear j137); (try clear hr_block); (try clear hf_block); grind (ematch := 12) (gen := 12) (splits := 15) [→ CF_nc, → CS_nc, → AF_na, → OH_no, → CS_step, → CS_CF, AF_nf, AQ_o, CS_nf, q_zz, q_za, q_zga, q_fza, q_fx, q_fga, q_gza, q_gfa, q_gx, q_zf1, q_zg1, q_ff, q_fg1, q_gf1, q_gg, AV_i, → CD_nc, CD_nf, ← CD_CS, → PD_np, → TM_nt, → TM_tr, ti_link]) (by (try clear j137); (try clear hr_block); (try clear hf_block); grind (ematch := 12) (gen := 12) (splits := 15) [→ CF_nc, → CS_nc, → AF_na, → OH_no, → CS_step, → CS_CF, AF_nf, AQ_o, CS_nf, q_zz, q_za, q_zga, q_fza, q_fx, q_fga, q_gza, q_gfa, q_gx, q_zf1, q_zg1, q_ff, q_fg1, q_gf1, q_gg, AV_i, → CD_nc, CD_nf, ← CD_CS, → PD_np, → TM_nt, → TM_tr, ti_link]) (by (try clear j137); (try clear hr_block); (try clear hf_block); grind (ematch := 12) (gen := 12) (splits := 15) [→ CF_nc, → CS_nc, → AF_na, → OH_no, → CS_step, → CS_CF, AF_nf, AQ_o, CS_nf, q_zz, q_za, q_zga, q_fza, q_fx, q_fga, q_gza, q_gfa, q_gx, q_zf1, q_zg1, q_ff, q_fg1, q_gf1, q_gg, AV_i, → CD_nc, CD_nf, ← CD_CS, → PD_np, → TM_nt, → TM_tr, ti_link]))
  obtain ⟨pS11, qS11⟩ := pS11
  have tS11 : NT S10 S11 := NT_fr hF8 (by decide) (by decide)
  have fS11 : S11.1 4 = 0 → S10.1 4 = 0 := by (try clear hC hA hO hP hk tS0 nS2 oS2 aS2 tS2 oS3 aS3 tS3 cS3 dS4 tS4 mS4 oS4 aS4 cS4 wt4 wd4 tt4 qS5 tS5 dS5 mS5 aS5 dS6 tS6 mS6 oS6 aS6 cS6 qS7 tS7 dS7 nS7 aS7 dS8 tS8 nS8 oS8 aS8 qS9 tS9 dS9 nS9 aS9 dS10 tS10 nS10 oS10 av10 w10 aS10 tS10 pS10_ cS10 oS10_ wt10 qS11 tS11); (try clear j137); (try clear hr_block); (try clear hf_block); grind [ti_link]
  have dS11 : NP S10 S11 := NP_fr hF8 (by decide) (by decide) fS11
  have z6_S11 := hF8.1 6 (by decide)
  have z9_S11 := hF8.1 9 (by decide)
  have z10_S11 := hF8.1 10 (by decide)
  have z11_S11 := hF8.1 11 (by decide)
  have z12_S11 := hF8.1 12 (by decide)
  have z13_S11 := hF8.1 13 (by decide)
  have z15_S11 := hF8.1 15 (by decide)
  have z17_S11 := hF8.1 17 (by decide)
  have z20_S11 := hF8.1 20 (by decide)
  have z16_S11 := hF8.1 16 (by decide)
  have f1_S11 := hF8.2.1 1 (by decide)
  have f1a_S11 := Fr_fa hF8 1 (by decide)
  have f2_S11 := hF8.2.1 2 (by decide)
  have f2a_S11 := Fr_fa hF8 2 (by decide)
  have f10_S11 := hF8.2.1 10 (by decide)
  have f10a_S11 := Fr_fa hF8 10 (by decide)
  have f25_S11 := hF8.2.1 25 (by decide)
  have f25a_S11 := Fr_fa hF8 25 (by decide)
  have f28_S11 := hF8.2.1 28 (by decide)
  have f28a_S11 := Fr_fa hF8 28 (by decide)
  have f35_S11 := hF8.2.1 35 (by decide)
  have f35a_S11 := Fr_fa hF8 35 (by decide)
  have f36_S11 := hF8.2.1 36 (by decide)
  have f36a_S11 := Fr_fa hF8 36 (by decide)
  have f45_S11 := hF8.2.1 45 (by decide)
  have f45a_S11 := Fr_fa hF8 45 (by decide)
  have f46_S11 := hF8.2.1 46 (by decide)
  have f46a_S11 := Fr_fa hF8 46 (by decide)
  have f48_S11 := hF8.2.1 48 (by decide)
  have f48a_S11 := Fr_fa hF8 48 (by decide)
  have f40_S11 := hF8.2.1 40 (by decide)
  have f40a_S11 := Fr_fa hF8 40 (by decide)
  have f41_S11 := hF8.2.1 41 (by decide)
  have f41a_S11 := Fr_fa hF8 41 (by decide)
  have f42_S11 := hF8.2.1 42 (by decide)
  have f42a_S11 := Fr_fa hF8 42 (by decide)
  have f44_S11 := hF8.2.1 44 (by decide)
  have f44a_S11 := Fr_fa hF8 44 (by decide)
  have f29_S11 := hF8.2.1 29 (by decide)
  have f29a_S11 := Fr_fa hF8 29 (by decide)
  have g3_S11 := hF8.2.2 3 (by decide)
  have g3a_S11 := Fr_ga hF8 3 (by decide)
  have g4_S11 := hF8.2.2 4 (by decide)
  have g4a_S11 := Fr_ga hF8 4 (by decide)
  clear hF8
  refine fm_emit _ _ _ _ _ _ (fun S12 r12 hF9 pS12 => ?_) (sg_emit (nx := nx) _ _ _ (by (try clear hC hA hO hP hk tS0 nS2 oS2 aS2 tS2 oS3 aS3 tS3 cS3 dS4 tS4 mS4 oS4 aS4 cS4 wt4 wd4 tt4 qS5 tS5 dS5 mS5 aS5 dS6 tS6 mS6 oS6 aS6 cS6 qS7 tS7 dS7 nS7 aS7 dS8 tS8 nS8 oS8 aS8 qS9 tS9 dS9 nS9 aS9 dS10 tS10 nS10 oS10 av10 w10 aS10 tS10 pS10_ cS10 oS10_ wt10 qS11 tS11 dS11); (try clear j137); (try clear hr_block); (try clear hf_block); grind -mbtc (splits := 20) (gen := 30) (ematch := 15) [SI, PT, WB_ad2, WB_nw, LA_n, LA_p, OR1, B01, PW_up, ix_int, XI, PI, PJ, BU, LV, LA_i, q_zz, q_za, q_zga, q_fza, q_fx, q_fga, q_gza, q_gfa, q_gx, q_zf1, q_zg1, q_ff, q_fg1, q_gf1, q_gg, ti_link, in1000, in24000]))
  obtain ⟨pS12, qS12⟩ := pS12
  have tS12 : NT S11 S12 := NT_fr hF9 (by decide) (by decide)
  have fS12 : S12.1 4 = 0 → S11.1 4 = 0 := fun q => (hF9.1 4 (by decide)).symm.trans q
  have dS12 : NP S11 S12 := NP_fr hF9 (by decide) (by decide) fS12
  have mS12 : NA S11 S12 := NA_fr hF9 (by decide) (by decide) fS12
  have z3_S12 := hF9.1 3 (by decide)
  have z4_S12 := hF9.1 4 (by decide)
  have z6_S12 := hF9.1 6 (by decide)
  have z8_S12 := hF9.1 8 (by decide)
  have z9_S12 := hF9.1 9 (by decide)
  have z10_S12 := hF9.1 10 (by decide)
  have z11_S12 := hF9.1 11 (by decide)
  have z12_S12 := hF9.1 12 (by decide)
  have z13_S12 := hF9.1 13 (by decide)
  have z15_S12 := hF9.1 15 (by decide)
  have z17_S12 := hF9.1 17 (by decide)
  have z18_S12 := hF9.1 18 (by decide)
  have z19_S12 := hF9.1 19 (by decide)
  have z20_S12 := hF9.1 20 (by decide)
  have z16_S12 := hF9.1 16 (by decide)
  have f1_S12 := hF9.2.1 1 (by decide)
  have f1a_S12 := Fr_fa hF9 1 (by decide)
  have f2_S12 := hF9.2.1 2 (by decide)
  have f2a_S12 := Fr_fa hF9 2 (by decide)
  have f8_S12 := hF9.2.1 8 (by decide)
  have f8a_S12 := Fr_fa hF9 8 (by decide)
  have f10_S12 := hF9.2.1 10 (by decide)
  have f10a_S12 := Fr_fa hF9 10 (by decide)
  have f25_S12 := hF9.2.1 25 (by decide)
  have f25a_S12 := Fr_fa hF9 25 (by decide)
  have f28_S12 := hF9.2.1 28 (by decide)
  have f28a_S12 := Fr_fa hF9 28 (by decide)
  have f35_S12 := hF9.2.1 35 (by decide)
  have f35a_S12 := Fr_fa hF9 35 (by decide)
  have f36_S12 := hF9.2.1 36 (by decide)
  have f36a_S12 := Fr_fa hF9 36 (by decide)
  have f45_S12 := hF9.2.1 45 (by decide)
  have f45a_S12 := Fr_fa hF9 45 (by decide)
  have f46_S12 := hF9.2.1 46 (by decide)
  have f46a_S12 := Fr_fa hF9 46 (by decide)
  have f48_S12 := hF9.2.1 48 (by decide)
  have f48a_S12 := Fr_fa hF9 48 (by decide)
  have f40_S12 := hF9.2.1 40 (by decide)
  have f40a_S12 := Fr_fa hF9 40 (by decide)
  have f41_S12 := hF9.2.1 41 (by decide)
  have f41a_S12 := Fr_fa hF9 41 (by decide)
  have f42_S12 := hF9.2.1 42 (by decide)
  have f42a_S12 := Fr_fa hF9 42 (by decide)
  have f44_S12 := hF9.2.1 44 (by decide)
  have f44a_S12 := Fr_fa hF9 44 (by decide)
  have f29_S12 := hF9.2.1 29 (by decide)
  have f29a_S12 := Fr_fa hF9 29 (by decide)
  have g3_S12 := hF9.2.2 3 (by decide)
  have g3a_S12 := Fr_ga hF9 3 (by decide)
  have g4_S12 := hF9.2.2 4 (by decide)
  have g4a_S12 := Fr_ga hF9 4 (by decide)
  clear hF9
  have cS12 : CS nx ((ix r12, 0, (S10.1 13)) :: (ix (S.1 10), 4, (0 : Int32)) :: kL) (S10.1 9).toInt (S10.1 10).toInt (S10.1 13) S12 := by
        rw [pS12.1]
        exact CS_unless qS12.1 qS11.1
  refine fm_then _ _ _ _ _ (fun S13 r13 hF10 pS13 => ?_) (sgv_then (nx := nx) _ _ (by (try clear hC hA hO hP hk tS0 nS2 oS2 aS2 tS2 oS3 aS3 tS3 cS3 dS4 tS4 mS4 oS4 aS4 cS4 wt4 wd4 tt4 qS5 tS5 dS5 mS5 aS5 dS6 tS6 mS6 oS6 aS6 cS6 qS7 tS7 dS7 nS7 aS7 dS8 tS8 nS8 oS8 aS8 qS9 tS9 dS9 nS9 aS9 dS10 tS10 nS10 oS10 av10 w10 aS10 tS10 pS10_ cS10 oS10_ wt10 qS11 tS11 dS11 qS12 tS12 dS12 mS12 cS12); (try clear j137); (try clear hr_block); (try clear hf_block); grind -mbtc (splits := 20) (gen := 30) (ematch := 15) [SI, PT, WB_ad2, WB_nw, LA_n, LA_p, OR1, B01, PW_up, ix_int, XI, PI, PJ, BU, LV, LA_i, q_zz, q_za, q_zga, q_fza, q_fx, q_fga, q_gza, q_gfa, q_gx, q_zf1, q_zg1, q_ff, q_fg1, q_gf1, q_gg, ti_link, in1000, in24000]))
  obtain ⟨pS13, qS13⟩ := pS13
  have tS13 : NT S12 S13 := NT_fr hF10 (by decide) (by decide)
  have fS13 : S13.1 4 = 0 → S12.1 4 = 0 := fun q => (hF10.1 4 (by decide)).symm.trans q
  have dS13 : NP S12 S13 := NP_fr hF10 (by decide) (by decide) fS13
  have nS13 : NC S12 S13 := NC_fr hF10 (by decide) (by decide) fS13
  have z3_S13 := hF10.1 3 (by decide)
  have z4_S13 := hF10.1 4 (by decide)
  have z6_S13 := hF10.1 6 (by decide)
  have z7_S13 := hF10.1 7 (by decide)
  have z9_S13 := hF10.1 9 (by decide)
  have z10_S13 := hF10.1 10 (by decide)
  have z11_S13 := hF10.1 11 (by decide)
  have z12_S13 := hF10.1 12 (by decide)
  have z13_S13 := hF10.1 13 (by decide)
  have z15_S13 := hF10.1 15 (by decide)
  have z17_S13 := hF10.1 17 (by decide)
  have z18_S13 := hF10.1 18 (by decide)
  have z20_S13 := hF10.1 20 (by decide)
  have z16_S13 := hF10.1 16 (by decide)
  have f1_S13 := hF10.2.1 1 (by decide)
  have f1a_S13 := Fr_fa hF10 1 (by decide)
  have f2_S13 := hF10.2.1 2 (by decide)
  have f2a_S13 := Fr_fa hF10 2 (by decide)
  have f8_S13 := hF10.2.1 8 (by decide)
  have f8a_S13 := Fr_fa hF10 8 (by decide)
  have f10_S13 := hF10.2.1 10 (by decide)
  have f10a_S13 := Fr_fa hF10 10 (by decide)
  have f25_S13 := hF10.2.1 25 (by decide)
  have f25a_S13 := Fr_fa hF10 25 (by decide)
  have f28_S13 := hF10.2.1 28 (by decide)
  have f28a_S13 := Fr_fa hF10 28 (by decide)
  have f35_S13 := hF10.2.1 35 (by decide)
  have f35a_S13 := Fr_fa hF10 35 (by decide)
  have f36_S13 := hF10.2.1 36 (by decide)
  have f36a_S13 := Fr_fa hF10 36 (by decide)
  have f45_S13 := hF10.2.1 45 (by decide)
  have f45a_S13 := Fr_fa hF10 45 (by decide)
  have f46_S13 := hF10.2.1 46 (by decide)
  have f46a_S13 := Fr_fa hF10 46 (by decide)
  have f48_S13 := hF10.2.1 48 (by decide)
  have f48a_S13 := Fr_fa hF10 48 (by decide)
  have f40_S13 := hF10.2.1 40 (by decide)
  have f40a_S13 := Fr_fa hF10 40 (by decide)
  have f41_S13 := hF10.2.1 41 (by decide)
  have f41a_S13 := Fr_fa hF10 41 (by decide)
  have f42_S13 := hF10.2.1 42 (by decide)
  have f42a_S13 := Fr_fa hF10 42 (by decide)
  have f44_S13 := hF10.2.1 44 (by decide)
  have f44a_S13 := Fr_fa hF10 44 (by decide)
  have f29_S13 := hF10.2.1 29 (by decide)
  have f29a_S13 := Fr_fa hF10 29 (by decide)
  have g3_S13 := hF10.2.2 3 (by decide)
  have g3a_S13 := Fr_ga hF10 3 (by decide)
  have g4_S13 := hF10.2.2 4 (by decide)
  have g4a_S13 := Fr_ga hF10 4 (by decide)
  clear hF10
  intro S14 eS14
  have tS14 : NT S13 S14 := NT_z eS14 (by decide)
  have nS14 : NC S13 S14 := NC_z eS14 (by decide)
  have mS14 : NA S13 S14 := NA_z eS14 (by decide)
  have oS14 : NO nx S13 S14 := NO_z eS14
  have pS13_ : PD nx kd S13 := by (try clear j137); (try clear hr_block); (try clear hf_block); grind (ematch := 12) (gen := 12) (splits := 15) [→ CF_nc, → CS_nc, → AF_na, → OH_no, → CS_step, → CS_CF, AF_nf, AQ_o, CS_nf, q_zz, q_za, q_zga, q_fza, q_fx, q_fga, q_gza, q_gfa, q_gx, q_zf1, q_zg1, q_ff, q_fg1, q_gf1, q_gg, AV_i, → CD_nc, CD_nf, ← CD_CS, → PD_np, → TM_nt, → TM_tr, ti_link]
  have pS14_ : PD nx kd S14 := PD_while eS14 (by (try clear hC hA hO hP hk tS0 nS2 oS2 aS2 tS2 oS3 aS3 tS3 cS3 dS4 tS4 mS4 oS4 aS4 cS4 wt4 wd4 tt4 qS5 tS5 dS5 mS5 aS5 dS6 tS6 mS6 oS6 aS6 cS6 qS7 tS7 dS7 nS7 aS7 dS8 tS8 nS8 oS8 aS8 qS9 tS9 dS9 nS9 aS9 dS10 tS10 nS10 oS10 av10 w10 aS10 tS10 pS10_ cS10 oS10_ wt10 qS11 tS11 dS11 qS12 tS12 dS12 mS12 cS12 qS13 tS13 dS13 nS13 tS14 nS14 mS14 oS14 pS13_); (try clear j137); (try clear hr_block); (try clear hf_block); grind -mbtc (splits := 20) (gen := 30) (ematch := 15) [SI, PT, WB_ad2, WB_nw, LA_n, LA_p, OR1, B01, PW_up, ix_int, XI, PI, PJ, BU, LV, LA_i, q_zz, q_za, q_zga, q_fza, q_fx, q_fga, q_gza, q_gfa, q_gx, q_zf1, q_zg1, q_ff, q_fg1, q_gf1, q_gg, ti_link, in1000, in24000]) (by (try clear j137); (try clear hr_block); (try clear hf_block); grind (ematch := 12) (gen := 12) (splits := 15) [→ CF_nc, → CS_nc, → AF_na, → OH_no, → CS_step, → CS_CF, AF_nf, AQ_o, CS_nf, q_zz, q_za, q_zga, q_fza, q_fx, q_fga, q_gza, q_gfa, q_gx, q_zf1, q_zg1, q_ff, q_fg1, q_gf1, q_gg, AV_i, → CD_nc, CD_nf, ← CD_CS, → PD_np, → TM_nt, → TM_tr, ti_link]) pS13_
  intro S15 eS15
  have dS15 : NP S14 S15 := NP_z eS15 (by decide)
  have tS15 : NT S14 S15 := NT_z eS15 (by decide)
  have nS15 : NC S14 S15 := NC_z eS15 (by decide)
  have mS15 : NA S14 S15 := NA_z eS15 (by decide)
  have oS15 : NO nx S14 S15 := NO_z eS15
  have vS15 : AV nx S15 r13 := AV_i (by (try clear hC hA hO hP hk tS0 nS2 oS2 aS2 tS2 oS3 aS3 tS3 cS3 dS4 tS4 mS4 oS4 aS4 cS4 wt4 wd4 tt4 qS5 tS5 dS5 mS5 aS5 dS6 tS6 mS6 oS6 aS6 cS6 qS7 tS7 dS7 nS7 aS7 dS8 tS8 nS8 oS8 aS8 qS9 tS9 dS9 nS9 aS9 dS10 tS10 nS10 oS10 av10 w10 aS10 tS10 pS10_ cS10 oS10_ wt10 qS11 tS11 dS11 qS12 tS12 dS12 mS12 cS12 qS13 tS13 dS13 nS13 tS14 nS14 mS14 oS14 pS13_ pS14_ dS15 tS15 nS15 mS15 oS15); (try clear j137); (try clear hr_block); (try clear hf_block); grind -mbtc (splits := 20) (gen := 30) (ematch := 15) [SI, PT, WB_ad2, WB_nw, LA_n, LA_p, OR1, B01, PW_up, ix_int, XI, PI, PJ, BU, LV, LA_i, q_zz, q_za, q_zga, q_fza, q_fx, q_fga, q_gza, q_gfa, q_gx, q_zf1, q_zg1, q_ff, q_fg1, q_gf1, q_gg, ti_link, in1000, in24000]) (by (try clear hC hA hO hP hk tS0 nS2 oS2 aS2 tS2 oS3 aS3 tS3 cS3 dS4 tS4 mS4 oS4 aS4 cS4 wt4 wd4 tt4 qS5 tS5 dS5 mS5 aS5 dS6 tS6 mS6 oS6 aS6 cS6 qS7 tS7 dS7 nS7 aS7 dS8 tS8 nS8 oS8 aS8 qS9 tS9 dS9 nS9 aS9 dS10 tS10 nS10 oS10 av10 w10 aS10 tS10 pS10_ cS10 oS10_ wt10 qS11 tS11 dS11 qS12 tS12 dS12 mS12 cS12 qS13 tS13 dS13 nS13 tS14 nS14 mS14 oS14 pS13_ pS14_ dS15 tS15 nS15 mS15 oS15); (try clear j137); (try clear hr_block); (try clear hf_block); grind -mbtc (splits := 20) (gen := 30) (ematch := 15) [SI, PT, WB_ad2, WB_nw, LA_n, LA_p, OR1, B01, PW_up, ix_int, XI, PI, PJ, BU, LV, LA_i, q_zz, q_za, q_zga, q_fza, q_fx, q_fga, q_gza, q_gfa, q_gx, q_zf1, q_zg1, q_ff, q_fg1, q_gf1, q_gg, ti_link, in1000, in24000])
  have wt15 : (S15.2.1 40) (ix (S.1 10)) = (S.1 13) := by (try clear j137); (try clear hr_block); (try clear hf_block); grind (ematch := 12) (gen := 12) (splits := 15) [→ CF_nc, → CS_nc, → AF_na, → OH_no, → CS_step, → CS_CF, AF_nf, AQ_o, CS_nf, q_zz, q_za, q_zga, q_fza, q_fx, q_fga, q_gza, q_gfa, q_gx, q_zf1, q_zg1, q_ff, q_fg1, q_gf1, q_gg, AV_i, → CD_nc, CD_nf, ← CD_CS, → PD_np, → TM_nt, → TM_tr, ti_link]
  refine ⟨fun c11 => ?_, fun c11 => ?_⟩
  · unfold wp_loop_136
    exact j137 _ _ _ _ _ _ _ _ (⟨by (try clear hC hA hO hP hk tS0 nS2 oS2 aS2 tS2 oS3 aS3 tS3 cS3 dS4 tS4 mS4 oS4 aS4 cS4 wt4 wd4 tt4 qS5 tS5 dS5 mS5 aS5 dS6 tS6 mS6 oS6 aS6 cS6 qS7 tS7 dS7 nS7 aS7 dS8 tS8 nS8 oS8 aS8 qS9 tS9 dS9 nS9 aS9 dS10 tS10 nS10 oS10 av10 w10 aS10 tS10 pS10_ cS10 oS10_ wt10 qS11 tS11 dS11 qS12 tS12 dS12 mS12 cS12 qS13 tS13 dS13 nS13 tS14 nS14 mS14 oS14 pS13_ pS14_ dS15 tS15 nS15 mS15 oS15 vS15 wt15); (try clear j137); (try clear hr_block); (try clear hf_block); grind -mbtc (splits := 20) (gen := 30) (ematch := 15) [SI, PT, WB_ad2, WB_nw, LA_n, LA_p, OR1, B01, PW_up, ix_int, XI, PI, PJ, BU, LV, LA_i, q_zz, q_za, q_zga, q_fza, q_fx, q_fga, q_gza, q_gfa, q_gx, q_zf1, q_zg1, q_ff, q_fg1, q_gf1, q_gg, ti_link, in1000, in24000], by refine ⟨?_, ?_, ?_, ?_, ?_, ?_, ?_⟩ <;> ((try clear j137); (try clear hr_block); (try clear hf_block); grind (ematch := 12) (gen := 12) (splits := 15) [→ CF_nc, → CS_nc, → AF_na, → OH_no, → CS_step, → CS_CF, AF_nf, AQ_o, CS_nf, q_zz, q_za, q_zga, q_fza, q_fx, q_fga, q_gza, q_gfa, q_gx, q_zf1, q_zg1, q_ff, q_fg1, q_gf1, q_gg, AV_i, → CD_nc, CD_nf, ← CD_CS, → PD_np, → TM_nt, → TM_tr, ti_link])⟩)
  · refine ⟨fun c12 => ?_, fun c12 => ?_⟩
    · unfold wp_loop_136
      exact j137 _ _ _ _ _ _ _ _ (⟨by (try clear hC hA hO hP hk tS0 nS2 oS2 aS2 tS2 oS3 aS3 tS3 cS3 dS4 tS4 mS4 oS4 aS4 cS4 wt4 wd4 tt4 qS5 tS5 dS5 mS5 aS5 dS6 tS6 mS6 oS6 aS6 cS6 qS7 tS7 dS7 nS7 aS7 dS8 tS8 nS8 oS8 aS8 qS9 tS9 dS9 nS9 aS9 dS10 tS10 nS10 oS10 av10 w10 aS10 tS10 pS10_ cS10 oS10_ wt10 qS11 tS11 dS11 qS12 tS12 dS12 mS12 cS12 qS13 tS13 dS13 nS13 tS14 nS14 mS14 oS14 pS13_ pS14_ dS15 tS15 nS15 mS15 oS15 vS15 wt15); (try clear j137); (try clear hr_block); (try clear hf_block); grind -mbtc (splits := 20) (gen := 30) (ematch := 15) [SI, PT, WB_ad2, WB_nw, LA_n, LA_p, OR1, B01, PW_up, ix_int, XI, PI, PJ, BU, LV, LA_i, q_zz, q_za, q_zga, q_fza, q_fx, q_fga, q_gza, q_gfa, q_gx, q_zf1, q_zg1, q_ff, q_fg1, q_gf1, q_gg, ti_link, in1000, in24000], by refine ⟨?_, ?_, ?_, ?_, ?_, ?_, ?_⟩ <;> ((try clear j137); (try clear hr_block); (try clear hf_block); grind (ematch := 12) (gen := 12) (splits := 15) [→ CF_nc, → CS_nc, → AF_na, → OH_no, → CS_step, → CS_CF, AF_nf, AQ_o, CS_nf, q_zz, q_za, q_zga, q_fza, q_fx, q_fga, q_gza, q_gfa, q_gx, q_zf1, q_zg1, q_ff, q_fg1, q_gf1, q_gg, AV_i, → CD_nc, CD_nf, ← CD_CS, → PD_np, → TM_nt, → TM_tr, ti_link])⟩)
    · exact j137 _ _ _ _ _ _ _ _ (⟨by (try clear hC hA hO hP hk tS0 nS2 oS2 aS2 tS2 oS3 aS3 tS3 cS3 dS4 tS4 mS4 oS4 aS4 cS4 wt4 wd4 tt4 qS5 tS5 dS5 mS5 aS5 dS6 tS6 mS6 oS6 aS6 cS6 qS7 tS7 dS7 nS7 aS7 dS8 tS8 nS8 oS8 aS8 qS9 tS9 dS9 nS9 aS9 dS10 tS10 nS10 oS10 av10 w10 aS10 tS10 pS10_ cS10 oS10_ wt10 qS11 tS11 dS11 qS12 tS12 dS12 mS12 cS12 qS13 tS13 dS13 nS13 tS14 nS14 mS14 oS14 pS13_ pS14_ dS15 tS15 nS15 mS15 oS15 vS15 wt15); (try clear j137); (try clear hr_block); (try clear hf_block); grind -mbtc (splits := 20) (gen := 30) (ematch := 15) [SI, PT, WB_ad2, WB_nw, LA_n, LA_p, OR1, B01, PW_up, ix_int, XI, PI, PJ, BU, LV, LA_i, q_zz, q_za, q_zga, q_fza, q_fx, q_fga, q_gza, q_gfa, q_gx, q_zf1, q_zg1, q_ff, q_fg1, q_gf1, q_gg, ti_link, in1000, in24000], by refine ⟨?_, ?_, ?_, ?_, ?_, ?_, ?_⟩ <;> ((try clear j137); (try clear hr_block); (try clear hf_block); grind (ematch := 12) (gen := 12) (splits := 15) [→ CF_nc, → CS_nc, → AF_na, → OH_no, → CS_step, → CS_CF, AF_nf, AQ_o, CS_nf, q_zz, q_za, q_zga, q_fza, q_fx, q_fga, q_gza, q_gfa, q_gx, q_zf1, q_zg1, q_ff, q_fg1, q_gf1, q_gg, AV_i, → CD_nc, CD_nf, ← CD_CS, → PD_np, → TM_nt, → TM_tr, ti_link])⟩)
