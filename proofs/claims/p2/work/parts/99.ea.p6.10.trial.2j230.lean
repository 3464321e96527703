
set_option maxHeartbeats 4000000 in
theorem sj230_trial {nx n : Nat} {so pl : Nat → Int32} {wo ws : Nat → Int64} {S0 : mS} {D d : Nat} {G GA X Y GW GT : Int} {kL : LT3} {kd : Int} {r_block : mS → (mS → Prop) → Prop} (hf_block : FmV [3, 4, 7, 8, 9, 10, 11, 13, 14, 15, 16, 17, 18, 19, 20] [8, 10, 12, 13, 14, 15, 16, 17, 18, 19, 20, 21, 24, 25, 26, 27, 28, 29, 30, 31, 32, 33, 34, 35, 36, 37, 38, 39, 40, 41, 42, 43, 44, 45, 46, 47, 48] [9] (r_block)) (hr_block : ∀ (d : Nat) (G GA X Y GW GT : Int) (kL : LT3) (kd : Int) (S : mS), D ≤ d → LV d G GA X Y → X ≤ 1800 ∧ Y ≤ 900 → GW ≤ (d : Int) - 10 ∧ GT ≤ 6 * (d : Int) + 6 → SI nx n so pl wo ws S0 d G GA X Y GW GT S → (CS nx kL (S.1 9).toInt (S.1 10).toInt (S.1 13) S) → (AF nx ((S.2.1 10) (ix (S.1 12))).toInt S) → (OH nx S0 S) → (PD nx kd S) → (kd ≤ (d : Int)) → r_block S (fun S1 => (SI nx n so pl wo ws S0 d (G - 10) (GA - 4) X Y (GW - 2) (GT - 2) S1 ∧ ((S1.1 4) = 0 → (S.1 4) = 0 ∧ (S.1 3).toInt + 2 ≤ (S1.1 3).toInt) ∧ (S.1 8).toInt ≤ (S1.1 8).toInt ∧ (S.1 9).toInt ≤ (S1.1 9).toInt ∧ (S.1 10).toInt ≤ (S1.1 10).toInt ∧ (S1.1 13) = (S.1 13) ∧ (S1.1 15) = (S.1 15) ∧ (S1.1 16) = (S.1 16)) ∧ (CS nx kL (S1.1 9).toInt (S1.1 10).toInt (S1.1 13) S1 ∧ AF nx ((S1.2.1 10) (ix (S1.1 12))).toInt S1 ∧ OH nx S0 S1 ∧ PD nx kd S1 ∧ TM S S1))) {S : mS} (hL : LV d G GA X Y) (h : SI nx n so pl wo ws S0 d G GA X Y GW GT S) (hX : X ≤ 1700 ∧ Y ≤ 850) (hD : D ≤ d) (hW : GW ≤ (d : Int) - 12 ∧ GT ≤ 6 * (d : Int) - 3) (hf : (S.1 4) = 0) (hG : G + 2 ≤ 100 + 20 * (d : Int) ∧ GA + 2 ≤ 40 + 4 * (d : Int)) (hC : CS nx kL (S.1 9).toInt (S.1 10).toInt (S.1 13) S) (hA : AF nx ((S.2.1 10) (ix (S.1 12))).toInt S) (hO : OH nx S0 S) (hP : PD nx kd S) (hk : kd + 1 ≤ (d : Int)) (hE : CF nx kL (S.1 9).toInt (S.1 10).toInt 0 1 0 0 0 (S.1 13) S) : ∀ (x1 : Int32) (x3 : Int32) (x4 : Int32) (Sx : mS), (SI nx n so pl wo ws S0 d (G - 4) (GA - 2) (X + 8) (Y + 4) GW (GT + 7) Sx ∧ ((Sx.1 4) = 0 → (S.1 4) = 0 ∧ (S.1 3).toInt < (Sx.1 3).toInt) ∧ (S.1 8).toInt ≤ (Sx.1 8).toInt ∧ (S.1 9).toInt ≤ (Sx.1 9).toInt ∧ (S.1 10).toInt ≤ (Sx.1 10).toInt ∧ (Sx.1 13) = (S.1 13) ∧ (Sx.1 15) = (S.1 15) ∧ (Sx.1 16) = (S.1 16) + 1 ∧ x1 = (S.1 9) ∧ (S.1 9).toInt < (Sx.1 9).toInt ∧ (¬ (Sx.2.1 28) (ix x1) = 0 → WB nx pl GW (GT + 3) Sx) ∧ LA nx x3.toInt ∧ x3.toInt < 12000 * nx + 12000 ∧ LA nx x4.toInt ∧ x4.toInt < 12000 * nx + 12000) ∧ (CD nx ((ix x1, 2, (0 : Int32)) :: (ix x1, 3, (0 : Int32)) :: kL) (Sx.1 9).toInt (Sx.1 10).toInt Sx ∧ AF nx ((Sx.2.1 10) (ix (Sx.1 12))).toInt Sx ∧ OH nx S0 Sx ∧ TM S Sx ∧ TF nx S x1 Sx ∧ (Sx.2.1 29) (ix x1) = 0 ∧ (x3.toInt = -1 ∨ AV nx Sx x3) ∧ (x4.toInt = -1 ∨ AV nx Sx x4)) → wp_trial_230 r_block (fun S1 => (SI nx n so pl wo ws S0 d G GA (X + 18) (Y + 8) GW (GT + 3) S1 ∧ ((S1.1 4) = 0 → (S.1 4) = 0 ∧ (S.1 3).toInt < (S1.1 3).toInt) ∧ (S.1 8).toInt ≤ (S1.1 8).toInt ∧ (S.1 9).toInt ≤ (S1.1 9).toInt ∧ (S.1 10).toInt ≤ (S1.1 10).toInt ∧ (S1.1 13) = (S.1 13) ∧ (S1.1 15) = (S.1 15) ∧ (S1.1 16) = (S.1 16)) ∧ (CS nx kL (S1.1 9).toInt (S1.1 10).toInt (S1.1 13) S1 ∧ AF nx ((S1.2.1 10) (ix (S1.1 12))).toInt S1 ∧ OH nx S0 S1 ∧ PD nx kd S1 ∧ TM S S1)) x1 x3 x4 Sx := by
  have tS0 : TM S S := TM_rf
  have hwm : 8 * ((S.1 10).toInt - 500 * nx) ≤ 4000 + GW ∧ 9 * ((S.1 9).toInt - 500 * nx) ≤ 4000 + GT := by
    have q1 := h.2.2.2.1 hf
    have q2 := h.1.1
    have q3 := q2.2.2.2.2.2.2 hf
    have q4 := q2.1.2.2 (ix (S.1 3)) (by unfold ix; omega)
    omega
  have pdb : 0 ≤ (S.1 16).toInt ∧ (S.1 16).toInt ≤ 10 := ⟨(hP hf).1, by
    have q := (hP hf).2.1
    have q2 := hL.1
    omega⟩
  have j425 := @sj425_trial nx n so pl wo ws S0 D d G GA X Y GW GT kL kd r_block hf_block hr_block S hL h hX hD hW hf hG hC hA hO hP hk hE
  have j394 := @sj394_trial nx n so pl wo ws S0 D d G GA X Y GW GT kL kd r_block hf_block hr_block S hL h hX hD hW hf hG hC hA hO hP hk hE
  intro x1 x3 x4 Sx hJ230
  unfold wp_trial_230
  obtain ⟨hJ230, iJ230⟩ := hJ230
  have  e230 : x1 = (S.1 9) ∧ 0 ≤ (S.1 9).toInt := by (try clear hC hA hO hP hk hE tS0 iJ230); (try clear j425); (try clear j394); (try clear j230); (try clear hr_block); (try clear hf_block); grind -mbtc (splits := 20) (gen := 40) (ematch := 20) [SI, PT, WB_ad2, WB_fi, WB_nf, LA_n, LA_p, OR1, B01, XI, PI, PJ, BU, LV, LA_i, q_zz, q_za, q_zga, q_fza, q_fx, q_fga, q_gza, q_gfa, q_gx, q_zf1, q_zg1, q_ff, q_fg1, q_gf1, q_gg, ti_link, in1000]
  have  pt230 : PTc nx (Sx.1 9) ((Sx.2.1 25)) ((Sx.2.1 36)) ((Sx.2.1 35)) := by (try clear hC hA hO hP hk hE tS0 iJ230); (try clear j425); (try clear j394); (try clear j230); (try clear hr_block); (try clear hf_block); grind -mbtc (splits := 20) (gen := 40) (ematch := 20) [SI, PT, WB_ad2, WB_fi, WB_nf, LA_n, LA_p, OR1, B01, XI, PI, PJ, BU, LV, LA_i, q_zz, q_za, q_zga, q_fza, q_fx, q_fga, q_gza, q_gfa, q_gx, q_zf1, q_zg1, q_ff, q_fg1, q_gf1, q_gg, ti_link, in1000]
  refine fm_hasWord _ _ _ _ (fun S33 r33 hF1 pS33 => ?_) (sg_hasWord (nx := nx) (n := n) (so := so) (pl := pl) (wo := wo) (ws := ws) _ (by (try clear hC hA hO hP hk hE tS0 iJ230); (try clear j425); (try clear j394); (try clear j230); (try clear hr_block); (try clear hf_block); grind -mbtc (splits := 20) (gen := 40) (ematch := 20) [SI, PT, WB_ad2, WB_fi, WB_nf, LA_n, LA_p, OR1, B01, XI, PI, PJ, BU, LV, LA_i, q_zz, q_za, q_zga, q_fza, q_fx, q_fga, q_gza, q_gfa, q_gx, q_zf1, q_zg1, q_ff, q_fg1, q_gf1, q_gg, ti_link, in1000]) (by (try clear hC hA hO hP hk hE tS0 iJ230); (try clear j425); (try clear j394); (try clear j230); (try clear hr_block); (try clear hf_block); grind -mbtc (splits := 20) (gen := 40) (ematch := 20) [SI, PT, WB_ad2, WB_fi, WB_nf, LA_n, LA_p, OR1, B01, XI, PI, PJ, BU, LV, LA_i, q_zz, q_za, q_zga, q_fza, q_fx, q_fga, q_gza, q_gfa, q_gx, q_zf1, q_zg1, q_ff, q_fg1, q_gf1, q_gg, ti_link, in1000]))
  have tS33 : NT Sx S33 := NT_fr hF1 (by decide) (by decide)
  have fS33 : S33.1 4 = 0 → Sx.1 4 = 0 := fun q => (hF1.1 4 (by decide)).symm.trans q
  have dS33 : NP Sx S33 := NP_fr hF1 (by decide) (by decide) fS33
  have nS33 : NC Sx S33 := NC_fr hF1 (by decide) (by decide) fS33
  have mS33 : NA Sx S33 := NA_fr hF1 (by decide) (by decide) fS33
  have oS33 : NO nx Sx S33 := NO_fr hF1 (by decide) (by decide)
  have z4_S33 := hF1.1 4 (by decide)
  have z6_S33 := hF1.1 6 (by decide)
  have z7_S33 := hF1.1 7 (by decide)
  have z8_S33 := hF1.1 8 (by decide)
  have z9_S33 := hF1.1 9 (by decide)
  have z10_S33 := hF1.1 10 (by decide)
  have z11_S33 := hF1.1 11 (by decide)
  have z12_S33 := hF1.1 12 (by decide)
  have z13_S33 := hF1.1 13 (by decide)
  have z15_S33 := hF1.1 15 (by decide)
  have z17_S33 := hF1.1 17 (by decide)
  have z18_S33 := hF1.1 18 (by decide)
  have z19_S33 := hF1.1 19 (by decide)
  have z20_S33 := hF1.1 20 (by decide)
  have z16_S33 := hF1.1 16 (by decide)
  have f1_S33 := hF1.2.1 1 (by decide)
  have f1a_S33 := Fr_fa hF1 1 (by decide)
  have f2_S33 := hF1.2.1 2 (by decide)
  have f2a_S33 := Fr_fa hF1 2 (by decide)
  have f8_S33 := hF1.2.1 8 (by decide)
  have f8a_S33 := Fr_fa hF1 8 (by decide)
  have f10_S33 := hF1.2.1 10 (by decide)
  have f10a_S33 := Fr_fa hF1 10 (by decide)
  have f25_S33 := hF1.2.1 25 (by decide)
  have f25a_S33 := Fr_fa hF1 25 (by decide)
  have f28_S33 := hF1.2.1 28 (by decide)
  have f28a_S33 := Fr_fa hF1 28 (by decide)
  have f35_S33 := hF1.2.1 35 (by decide)
  have f35a_S33 := Fr_fa hF1 35 (by decide)
  have f36_S33 := hF1.2.1 36 (by decide)
  have f36a_S33 := Fr_fa hF1 36 (by decide)
  have f45_S33 := hF1.2.1 45 (by decide)
  have f45a_S33 := Fr_fa hF1 45 (by decide)
  have f46_S33 := hF1.2.1 46 (by decide)
  have f46a_S33 := Fr_fa hF1 46 (by decide)
  have f48_S33 := hF1.2.1 48 (by decide)
  have f48a_S33 := Fr_fa hF1 48 (by decide)
  have f40_S33 := hF1.2.1 40 (by decide)
  have f40a_S33 := Fr_fa hF1 40 (by decide)
  have f41_S33 := hF1.2.1 41 (by decide)
  have f41a_S33 := Fr_fa hF1 41 (by decide)
  have f42_S33 := hF1.2.1 42 (by decide)
  have f42a_S33 := Fr_fa hF1 42 (by decide)
  have f44_S33 := hF1.2.1 44 (by decide)
  have f44a_S33 := Fr_fa hF1 44 (by decide)
  have f29_S33 := hF1.2.1 29 (by decide)
  have f29a_S33 := Fr_fa hF1 29 (by decide)
  have f27_S33 := hF1.2.1 27 (by decide)
  have f27a_S33 := Fr_fa hF1 27 (by decide)
  have f37_S33 := hF1.2.1 37 (by decide)
  have f37a_S33 := Fr_fa hF1 37 (by decide)
  have f38_S33 := hF1.2.1 38 (by decide)
  have f38a_S33 := Fr_fa hF1 38 (by decide)
  have g3_S33 := hF1.2.2 3 (by decide)
  have g3a_S33 := Fr_ga hF1 3 (by decide)
  have g4_S33 := hF1.2.2 4 (by decide)
  have g4a_S33 := Fr_ga hF1 4 (by decide)
  clear hF1
  have tf33 : TF nx S x1 S33 := TF_np iJ230.2.2.2.2.1 dS33
  have uS33 : TM S S33 := TM_nt iJ230.2.2.2.1 tS33
  have cS33 : CD nx ((ix x1, 2, (0 : Int32)) :: (ix x1, 3, (0 : Int32)) :: kL) (S33.1 9).toInt (S33.1 10).toInt S33 := by (try clear j425); (try clear j394); (try clear j230); (try clear hr_block); (try clear hf_block); grind (ematch := 30) (gen := 40) (splits := 15) [→ CF_nc, → CS_nc, → AF_na, → OH_no, → CS_step, → CS_CF, AF_nf, AQ_o, CS_nf, q_zz, q_za, q_zga, q_fza, q_fx, q_fga, q_gza, q_gfa, q_gx, q_zf1, q_zg1, q_ff, q_fg1, q_gf1, q_gg, AV_i, → CD_nc, CD_nf, ← CD_CS, → PD_np, → TM_nt, → TM_tr, ti_link]
  have fi33 : (S33.2.1 29) (ix x1) = 0 := by (try clear j425); (try clear j394); (try clear j230); (try clear hr_block); (try clear hf_block); grind (ematch := 30) (gen := 40) (splits := 15) [→ CF_nc, → CS_nc, → AF_na, → OH_no, → CS_step, → CS_CF, AF_nf, AQ_o, CS_nf, q_zz, q_za, q_zga, q_fza, q_fx, q_fga, q_gza, q_gfa, q_gx, q_zf1, q_zg1, q_ff, q_fg1, q_gf1, q_gg, AV_i, → CD_nc, CD_nf, ← CD_CS, → PD_np, → TM_nt, → TM_tr, ti_link]
  have cc33 : CD nx ((ix x1, 3, (0 : Int32)) :: kL) (S33.1 9).toInt (S33.1 10).toInt S33 := CD_fcl (by (try clear hC hA hO hP hk hE tS0 iJ230 tS33 dS33 nS33 mS33 oS33 tf33 uS33 cS33 fi33); (try clear j425); (try clear j394); (try clear j230); (try clear hr_block); (try clear hf_block); grind -mbtc (splits := 20) (gen := 40) (ematch := 20) [SI, PT, WB_ad2, WB_fi, WB_nf, LA_n, LA_p, OR1, B01, XI, PI, PJ, BU, LV, LA_i, q_zz, q_za, q_zga, q_fza, q_fx, q_fga, q_gza, q_gfa, q_gx, q_zf1, q_zg1, q_ff, q_fg1, q_gf1, q_gg, ti_link, in1000]) (fun _ => fi33) cS33
  have aS33 : AF nx ((Sx.2.1 10) (ix (Sx.1 12))).toInt S33 := AF_na mS33 iJ230.2.1
  have vS33 : x3.toInt = -1 ∨ AV nx S33 x3 := iJ230.2.2.2.2.2.2.1.imp id (fun q => AV_m q (by (try clear hC hA hO hP hk hE tS0 iJ230 tS33 dS33 nS33 mS33 oS33 tf33 uS33 cS33 fi33 cc33 aS33); (try clear j425); (try clear j394); (try clear j230); (try clear hr_block); (try clear hf_block); grind -mbtc (splits := 20) (gen := 40) (ematch := 20) [SI, PT, WB_ad2, WB_fi, WB_nf, LA_n, LA_p, OR1, B01, XI, PI, PJ, BU, LV, LA_i, q_zz, q_za, q_zga, q_fza, q_fx, q_fga, q_gza, q_gfa, q_gx, q_zf1, q_zg1, q_ff, q_fg1, q_gf1, q_gg, ti_link, in1000]) (by (try clear hC hA hO hP hk hE tS0 iJ230 tS33 dS33 nS33 mS33 oS33 tf33 uS33 cS33 fi33 cc33 aS33); (try clear j425); (try clear j394); (try clear j230); (try clear hr_block); (try clear hf_block); grind -mbtc (splits := 20) (gen := 40) (ematch := 20) [SI, PT, WB_ad2, WB_fi, WB_nf, LA_n, LA_p, OR1, B01, XI, PI, PJ, BU, LV, LA_i, q_zz, q_za, q_zga, q_fza, q_fx, q_fga, q_gza, q_gfa, q_gx, q_zf1, q_zg1, q_ff, q_fg1, q_gf1, q_gg, ti_link, in1000]))
  have wS33 : x4.toInt = -1 ∨ AV nx S33 x4 := iJ230.2.2.2.2.2.2.2.imp id (fun q => AV_m q (by (try clear hC hA hO hP hk hE tS0 iJ230 tS33 dS33 nS33 mS33 oS33 tf33 uS33 cS33 fi33 cc33 aS33 vS33); (try clear j425); (try clear j394); (try clear j230); (try clear hr_block); (try clear hf_block); grind -mbtc (splits := 20) (gen := 40) (ematch := 20) [SI, PT, WB_ad2, WB_fi, WB_nf, LA_n, LA_p, OR1, B01, XI, PI, PJ, BU, LV, LA_i, q_zz, q_za, q_zga, q_fza, q_fx, q_fga, q_gza, q_gfa, q_gx, q_zf1, q_zg1, q_ff, q_fg1, q_gf1, q_gg, ti_link, in1000]) (by (try clear hC hA hO hP hk hE tS0 iJ230 tS33 dS33 nS33 mS33 oS33 tf33 uS33 cS33 fi33 cc33 aS33 vS33); (try clear j425); (try clear j394); (try clear j230); (try clear hr_block); (try clear hf_block); grind -mbtc (splits := 20) (gen := 40) (ematch := 20) [SI, PT, WB_ad2, WB_fi, WB_nf, LA_n, LA_p, OR1, B01, XI, PI, PJ, BU, LV, LA_i, q_zz, q_za, q_zga, q_fza, q_fx, q_fga, q_gza, q_gfa, q_gx, q_zf1, q_zg1, q_ff, q_fg1, q_gf1, q_gg, ti_link, in1000]))
  have  wb33 : ¬ r33 = 0 → WB nx pl GW (GT + 1) S33 := fun h9 => by
        have p9 := pS33.2.2.resolve_left (fun q => h9 q.1)
        have q9 := WB_fi (S1 := S33) hJ230.1.2.1 hJ230.1.2.2.2.1 p9.2.2.2.2.1 p9.2.2.2.2.2 ⟨(hJ230.1.1.1.2.2.2.2.2.2 p9.2.1).1, p9.2.2.1⟩ p9.2.2.2.1 pS33.2.1 z10_S33 z9_S33
        have e9 : GT + 7 - 6 = GT + 1 := by omega
        rw [e9] at q9
        exact q9
  refine ⟨fun c2 => ?_, fun c2 => ?_⟩
  · refine ⟨by (try clear hC hA hO hP hk hE tS0 iJ230 tS33 dS33 nS33 mS33 oS33 tf33 uS33 cS33 fi33 cc33 aS33 vS33 wS33); (try clear j425); (try clear j394); (try clear j230); (try clear hr_block); (try clear hf_block); grind -mbtc (splits := 20) (gen := 40) (ematch := 20) [SI, PT, WB_ad2, WB_fi, WB_nf, LA_n, LA_p, OR1, B01, XI, PI, PJ, BU, LV, LA_i, q_zz, q_za, q_zga, q_fza, q_fx, q_fga, q_gza, q_gfa, q_gx, q_zf1, q_zg1, q_ff, q_fg1, q_gf1, q_gg, ti_link, in1000], ?_⟩
    intro z35 ez35
    refine ⟨fun c3 => ?_, fun c3 => ?_⟩
    · exact j394 _ _ _ _ (⟨by refine ⟨⟨⟨?_, ?_, ?_, ?_⟩, ?_, ?_, ?_, ?_⟩, ?_, ?_, ?_, ?_, ?_, ?_, ?_, ?_, ?_, ?_, ?_, ?_, ?_, ?_⟩ <;> ((try clear hC hA hO hP hk hE tS0 iJ230 tS33 dS33 nS33 mS33 oS33 tf33 uS33 cS33 fi33 cc33 aS33 vS33 wS33); (try clear j425); (try clear j394); (try clear j230); (try clear hr_block); (try clear hf_block); grind -mbtc (splits := 20) (gen := 40) (ematch := 20) [SI, PT, WB_ad2, WB_fi, WB_nf, LA_n, LA_p, OR1, B01, XI, PI, PJ, BU, LV, LA_i, q_zz, q_za, q_zga, q_fza, q_fx, q_fga, q_gza, q_gfa, q_gx, q_zf1, q_zg1, q_ff, q_fg1, q_gf1, q_gg, ti_link, in1000]), by refine ⟨?_, ?_, ?_, ?_, ?_, ?_, ?_⟩ <;> ((try clear j425); (try clear j394); (try clear j230); (try clear hr_block); (try clear hf_block); grind (ematch := 30) (gen := 40) (splits := 15) [→ CF_nc, → CS_nc, → AF_na, → OH_no, → CS_step, → CS_CF, AF_nf, AQ_o, CS_nf, q_zz, q_za, q_zga, q_fza, q_fx, q_fga, q_gza, q_gfa, q_gx, q_zf1, q_zg1, q_ff, q_fg1, q_gf1, q_gg, AV_i, → CD_nc, CD_nf, ← CD_CS, → PD_np, → TM_nt, → TM_tr, ti_link])⟩)
    · refine fm_wrong _ _ _ _ (fun S37 hF4 pS37 => ?_) (sg_wrong (nx := nx) (n := n) (so := so) (pl := pl) (wo := wo) (ws := ws) _ (by (try clear hC hA hO hP hk hE tS0 iJ230 tS33 dS33 nS33 mS33 oS33 tf33 uS33 cS33 fi33 cc33 aS33 vS33 wS33); (try clear j425); (try clear j394); (try clear j230); (try clear hr_block); (try clear hf_block); grind -mbtc (splits := 20) (gen := 40) (ematch := 20) [SI, PT, WB_ad2, WB_fi, WB_nf, LA_n, LA_p, OR1, B01, XI, PI, PJ, BU, LV, LA_i, q_zz, q_za, q_zga, q_fza, q_fx, q_fga, q_gza, q_gfa, q_gx, q_zf1, q_zg1, q_ff, q_fg1, q_gf1, q_gg, ti_link, in1000]) (by (try clear hC hA hO hP hk hE tS0 iJ230 tS33 dS33 nS33 mS33 oS33 tf33 uS33 cS33 fi33 cc33 aS33 vS33 wS33); (try clear j425); (try clear j394); (try clear j230); (try clear hr_block); (try clear hf_block); grind -mbtc (splits := 20) (gen := 40) (ematch := 20) [SI, PT, WB_ad2, WB_fi, WB_nf, LA_n, LA_p, OR1, B01, XI, PI, PJ, BU, LV, LA_i, q_zz, q_za, q_zga, q_fza, q_fx, q_fga, q_gza, q_gfa, q_gx, q_zf1, q_zg1, q_ff, q_fg1, q_gf1, q_gg, ti_link, in1000]))
      have tS37 : NT S33 S37 := NT_fr hF4 (by decide) (by decide)
      have fS37 : S37.1 4 = 0 → S33.1 4 = 0 := by (try clear hC hA hO hP hk hE tS0 iJ230 tS33 dS33 nS33 mS33 oS33 tf33 uS33 cS33 fi33 cc33 aS33 vS33 wS33 tS37); (try clear j425); (try clear j394); (try clear j230); (try clear hr_block); (try clear hf_block); grind [ti_link]
      have dS37 : NP S33 S37 := NP_fr hF4 (by decide) (by decide) fS37
      have nS37 : NC S33 S37 := NC_fr hF4 (by decide) (by decide) fS37
      have mS37 : NA S33 S37 := NA_fr hF4 (by decide) (by decide) fS37
      have oS37 : NO nx S33 S37 := NO_fr hF4 (by decide) (by decide)
      have z3_S37 := hF4.1 3 (by decide)
      have z6_S37 := hF4.1 6 (by decide)
      have z7_S37 := hF4.1 7 (by decide)
      have z8_S37 := hF4.1 8 (by decide)
      have z9_S37 := hF4.1 9 (by decide)
      have z10_S37 := hF4.1 10 (by decide)
      have z11_S37 := hF4.1 11 (by decide)
      have z12_S37 := hF4.1 12 (by decide)
      have z13_S37 := hF4.1 13 (by decide)
      have z15_S37 := hF4.1 15 (by decide)
      have z17_S37 := hF4.1 17 (by decide)
      have z18_S37 := hF4.1 18 (by decide)
      have z19_S37 := hF4.1 19 (by decide)
      have z20_S37 := hF4.1 20 (by decide)
      have z16_S37 := hF4.1 16 (by decide)
      have f1_S37 := hF4.2.1 1 (by decide)
      have f1a_S37 := Fr_fa hF4 1 (by decide)
      have f2_S37 := hF4.2.1 2 (by decide)
      have f2a_S37 := Fr_fa hF4 2 (by decide)
      have f8_S37 := hF4.2.1 8 (by decide)
      have f8a_S37 := Fr_fa hF4 8 (by decide)
      have f10_S37 := hF4.2.1 10 (by decide)
      have f10a_S37 := Fr_fa hF4 10 (by decide)
      have f25_S37 := hF4.2.1 25 (by decide)
      have f25a_S37 := Fr_fa hF4 25 (by decide)
      have f28_S37 := hF4.2.1 28 (by decide)
      have f28a_S37 := Fr_fa hF4 28 (by decide)
      have f35_S37 := hF4.2.1 35 (by decide)
      have f35a_S37 := Fr_fa hF4 35 (by decide)
      have f36_S37 := hF4.2.1 36 (by decide)
      have f36a_S37 := Fr_fa hF4 36 (by decide)
      have f45_S37 := hF4.2.1 45 (by decide)
      have f45a_S37 := Fr_fa hF4 45 (by decide)
      have f46_S37 := hF4.2.1 46 (by decide)
      have f46a_S37 := Fr_fa hF4 46 (by decide)
      have f48_S37 := hF4.2.1 48 (by decide)
      have f48a_S37 := Fr_fa hF4 48 (by decide)
      have f40_S37 := hF4.2.1 40 (by decide)
      have f40a_S37 := Fr_fa hF4 40 (by decide)
      have f41_S37 := hF4.2.1 41 (by decide)
      have f41a_S37 := Fr_fa hF4 41 (by decide)
      have f42_S37 := hF4.2.1 42 (by decide)
      have f42a_S37 := Fr_fa hF4 42 (by decide)
      have f44_S37 := hF4.2.1 44 (by decide)
      have f44a_S37 := Fr_fa hF4 44 (by decide)
      have f29_S37 := hF4.2.1 29 (by decide)
      have f29a_S37 := Fr_fa hF4 29 (by decide)
      have f27_S37 := hF4.2.1 27 (by decide)
      have f27a_S37 := Fr_fa hF4 27 (by decide)
      have f37_S37 := hF4.2.1 37 (by decide)
      have f37a_S37 := Fr_fa hF4 37 (by decide)
      have f38_S37 := hF4.2.1 38 (by decide)
      have f38a_S37 := Fr_fa hF4 38 (by decide)
      have g3_S37 := hF4.2.2 3 (by decide)
      have g3a_S37 := Fr_ga hF4 3 (by decide)
      have g4_S37 := hF4.2.2 4 (by decide)
      have g4a_S37 := Fr_ga hF4 4 (by decide)
      clear hF4
      have vS37 : x3.toInt = -1 ∨ AV nx S37 x3 := vS33.imp id (fun q => AV_m q (by (try clear hC hA hO hP hk hE tS0 iJ230 tS33 dS33 nS33 mS33 oS33 tf33 uS33 cS33 fi33 cc33 aS33 vS33 wS33 tS37 dS37 nS37 mS37 oS37); (try clear j425); (try clear j394); (try clear j230); (try clear hr_block); (try clear hf_block); grind -mbtc (splits := 20) (gen := 40) (ematch := 20) [SI, PT, WB_ad2, WB_fi, WB_nf, LA_n, LA_p, OR1, B01, XI, PI, PJ, BU, LV, LA_i, q_zz, q_za, q_zga, q_fza, q_fx, q_fga, q_gza, q_gfa, q_gx, q_zf1, q_zg1, q_ff, q_fg1, q_gf1, q_gg, ti_link, in1000]) (by (try clear hC hA hO hP hk hE tS0 iJ230 tS33 dS33 nS33 mS33 oS33 tf33 uS33 cS33 fi33 cc33 aS33 vS33 wS33 tS37 dS37 nS37 mS37 oS37); (try clear j425); (try clear j394); (try clear j230); (try clear hr_block); (try clear hf_block); grind -mbtc (splits := 20) (gen := 40) (ematch := 20) [SI, PT, WB_ad2, WB_fi, WB_nf, LA_n, LA_p, OR1, B01, XI, PI, PJ, BU, LV, LA_i, q_zz, q_za, q_zga, q_fza, q_fx, q_fga, q_gza, q_gfa, q_gx, q_zf1, q_zg1, q_ff, q_fg1, q_gf1, q_gg, ti_link, in1000]))
      have wS37 : x4.toInt = -1 ∨ AV nx S37 x4 := wS33.imp id (fun q => AV_m q (by (try clear hC hA hO hP hk hE tS0 iJ230 tS33 dS33 nS33 mS33 oS33 tf33 uS33 cS33 fi33 cc33 aS33 vS33 wS33 tS37 dS37 nS37 mS37 oS37 vS37); (try clear j425); (try clear j394); (try clear j230); (try clear hr_block); (try clear hf_block); grind -mbtc (splits := 20) (gen := 40) (ematch := 20) [SI, PT, WB_ad2, WB_fi, WB_nf, LA_n, LA_p, OR1, B01, XI, PI, PJ, BU, LV, LA_i, q_zz, q_za, q_zga, q_fza, q_fx, q_fga, q_gza, q_gfa, q_gx, q_zf1, q_zg1, q_ff, q_fg1, q_gf1, q_gg, ti_link, in1000]) (by (try clear hC hA hO hP hk hE tS0 iJ230 tS33 dS33 nS33 mS33 oS33 tf33 uS33 cS33 fi33 cc33 aS33 vS33 wS33 tS37 dS37 nS37 mS37 oS37 vS37); (try clear j425); (try clear j394); (try clear j230); (try clear hr_block); (try clear hf_block); grind -mbtc (splits := 20) (gen := 40) (ematch := 20) [SI, PT, WB_ad2, WB_fi, WB_nf, LA_n, LA_p, OR1, B01, XI, PI, PJ, BU, LV, LA_i, q_zz, q_za, q_zga, q_fza, q_fx, q_fga, q_gza, q_gfa, q_gx, q_zf1, q_zg1, q_ff, q_fg1, q_gf1, q_gg, ti_link, in1000]))
      have tf37 : TF nx S x1 S37 := TF_np tf33 dS37
      exact j394 _ _ _ _ (⟨by refine ⟨⟨⟨?_, ?_, ?_, ?_⟩, ?_, ?_, ?_, ?_⟩, ?_, ?_, ?_, ?_, ?_, ?_, ?_, ?_, ?_, ?_, ?_, ?_, ?_, ?_⟩ <;> ((try clear hC hA hO hP hk hE tS0 iJ230 tS33 dS33 nS33 mS33 oS33 tf33 uS33 cS33 fi33 cc33 aS33 vS33 wS33 tS37 dS37 nS37 mS37 oS37 vS37 wS37 tf37); (try clear j425); (try clear j394); (try clear j230); (try clear hr_block); (try clear hf_block); grind -mbtc (splits := 20) (gen := 40) (ematch := 20) [SI, PT, WB_ad2, WB_fi, WB_nf, LA_n, LA_p, OR1, B01, XI, PI, PJ, BU, LV, LA_i, q_zz, q_za, q_zga, q_fza, q_fx, q_fga, q_gza, q_gfa, q_gx, q_zf1, q_zg1, q_ff, q_fg1, q_gf1, q_gg, ti_link, in1000]), by refine ⟨?_, ?_, ?_, ?_, ?_, ?_, ?_⟩ <;> ((try clear j425); (try clear j394); (try clear j230); (try clear hr_block); (try clear hf_block); grind (ematch := 30) (gen := 40) (splits := 15) [→ CF_nc, → CS_nc, → AF_na, → OH_no, → CS_step, → CS_CF, AF_nf, AQ_o, CS_nf, q_zz, q_za, q_zga, q_fza, q_fx, q_fga, q_gza, q_gfa, q_gx, q_zf1, q_zg1, q_ff, q_fg1, q_gf1, q_gg, AV_i, → CD_nc, CD_nf, ← CD_CS, → PD_np, → TM_nt, → TM_tr, ti_link])⟩)
  · refine ⟨by (try clear hC hA hO hP hk hE tS0 iJ230 tS33 dS33 nS33 mS33 oS33 tf33 uS33 cS33 fi33 cc33 aS33 vS33 wS33); (try clear j425); (try clear j394); (try clear j230); (try clear hr_block); (try clear hf_block); grind -mbtc (splits := 20) (gen := 40) (ematch := 20) [SI, PT, WB_ad2, WB_fi, WB_nf, LA_n, LA_p, OR1, B01, XI, PI, PJ, BU, LV, LA_i, q_zz, q_za, q_zga, q_fza, q_fx, q_fga, q_gza, q_gfa, q_gx, q_zf1, q_zg1, q_ff, q_fg1, q_gf1, q_gg, ti_link, in1000], ?_⟩
    intro S38 eS38
    have dS38 : NP S33 S38 := NP_f eS38 (by decide)
    have mS38 : NA S33 S38 := NA_f eS38 (by decide)
    have oS38 : NO nx S33 S38 := NO_f eS38 (nH_t (by decide) (by (try clear hC hA hO hP hk hE tS0 iJ230 tS33 dS33 nS33 mS33 oS33 tf33 uS33 cS33 fi33 cc33 aS33 vS33 wS33 dS38 mS38); (try clear j425); (try clear j394); (try clear j230); (try clear hr_block); (try clear hf_block); grind -mbtc (splits := 20) (gen := 40) (ematch := 20) [SI, PT, WB_ad2, WB_fi, WB_nf, LA_n, LA_p, OR1, B01, XI, PI, PJ, BU, LV, LA_i, q_zz, q_za, q_zga, q_fza, q_fx, q_fga, q_gza, q_gfa, q_gx, q_zf1, q_zg1, q_ff, q_fg1, q_gf1, q_gg, ti_link, in1000]))
    have aS38 : AF nx ((Sx.2.1 10) (ix (Sx.1 12))).toInt S38 := AF_na mS38 aS33
    have cS38 : CS nx ((ix x1, 2, (0 : Int32)) :: (ix x1, 3, (0 : Int32)) :: kL) (S33.1 9).toInt (S33.1 10).toInt x1 S38 := CS_lift (by rw [eS38]; rfl) (fun _ _ _ q => CW_w29 eS38 (Or.inl (List.mem_cons_self ..)) q) (CD_CS _ cS33)
    have uS38 : TM S S38 := TM_fi eS38 (Or.inr ⟨by decide, by rw [e230.1]; have q9 := e230.2; unfold ix; omega⟩) uS33
    have tf38 : TF nx S x1 S38 := TF_np tf33 dS38
    have vS38 : x3.toInt = -1 ∨ AV nx S38 x3 := vS33.imp id (fun q => AV_m q (by (try clear hC hA hO hP hk hE tS0 iJ230 tS33 dS33 nS33 mS33 oS33 tf33 uS33 cS33 fi33 cc33 aS33 vS33 wS33 dS38 mS38 oS38 aS38 cS38 uS38 tf38); (try clear j425); (try clear j394); (try clear j230); (try clear hr_block); (try clear hf_block); grind -mbtc (splits := 20) (gen := 40) (ematch := 20) [SI, PT, WB_ad2, WB_fi, WB_nf, LA_n, LA_p, OR1, B01, XI, PI, PJ, BU, LV, LA_i, q_zz, q_za, q_zga, q_fza, q_fx, q_fga, q_gza, q_gfa, q_gx, q_zf1, q_zg1, q_ff, q_fg1, q_gf1, q_gg, ti_link, in1000]) (by (try clear hC hA hO hP hk hE tS0 iJ230 tS33 dS33 nS33 mS33 oS33 tf33 uS33 cS33 fi33 cc33 aS33 vS33 wS33 dS38 mS38 oS38 aS38 cS38 uS38 tf38); (try clear j425); (try clear j394); (try clear j230); (try clear hr_block); (try clear hf_block); grind -mbtc (splits := 20) (gen := 40) (ematch := 20) [SI, PT, WB_ad2, WB_fi, WB_nf, LA_n, LA_p, OR1, B01, XI, PI, PJ, BU, LV, LA_i, q_zz, q_za, q_zga, q_fza, q_fx, q_fga, q_gza, q_gfa, q_gx, q_zf1, q_zg1, q_ff, q_fg1, q_gf1, q_gg, ti_link, in1000]))
    intro S39 eS39
    have lS39 : ∀ m : Int, AV nx S38 x3 → AF nx m S38 → AF nx m S39 := fun m h8 h9 => AF_lv eS39 h8 h9
    have dS39 : NP S38 S39 := NP_z eS39 (by decide)
    have tS39 : NT S38 S39 := NT_z eS39 (by decide)
    have nS39 : NC S38 S39 := NC_z eS39 (by decide)
    have oS39 : NO nx S38 S39 := NO_z eS39
    have aS39 : AF nx ((Sx.2.1 10) (ix (Sx.1 12))).toInt S39 := AF_lx eS39 vS38 aS38
    refine ⟨by (try clear hC hA hO hP hk hE tS0 iJ230 tS33 dS33 nS33 mS33 oS33 tf33 uS33 cS33 fi33 cc33 aS33 vS33 wS33 dS38 mS38 oS38 aS38 cS38 uS38 tf38 vS38 lS39 dS39 tS39 nS39 oS39 aS39); (try clear j425); (try clear j394); (try clear j230); (try clear hr_block); (try clear hf_block); grind -mbtc (splits := 20) (gen := 40) (ematch := 20) [SI, PT, WB_ad2, WB_fi, WB_nf, LA_n, LA_p, OR1, B01, XI, PI, PJ, BU, LV, LA_i, q_zz, q_za, q_zga, q_fza, q_fx, q_fga, q_gza, q_gfa, q_gx, q_zf1, q_zg1, q_ff, q_fg1, q_gf1, q_gg, ti_link, in1000], ?_⟩
    intro z40 ez40
    have vz40 : AV nx S39 z40 := by
          rw [ez40]
          exact AV_tf (w := x1) aS39 (by (try clear hC hA hO hP hk hE tS0 iJ230 tS33 dS33 nS33 mS33 oS33 tf33 uS33 cS33 fi33 cc33 aS33 vS33 wS33 dS38 mS38 oS38 aS38 cS38 uS38 tf38 vS38 lS39 dS39 tS39 nS39 oS39 aS39); (try clear j425); (try clear j394); (try clear j230); (try clear hr_block); (try clear hf_block); grind -mbtc (splits := 20) (gen := 40) (ematch := 20) [SI, PT, WB_ad2, WB_fi, WB_nf, LA_n, LA_p, OR1, B01, XI, PI, PJ, BU, LV, LA_i, q_zz, q_za, q_zga, q_fza, q_fx, q_fga, q_gza, q_gfa, q_gx, q_zf1, q_zg1, q_ff, q_fg1, q_gf1, q_gg, ti_link, in1000]) (by (try clear hC hA hO hP hk hE tS0 iJ230 tS33 dS33 nS33 mS33 oS33 tf33 uS33 cS33 fi33 cc33 aS33 vS33 wS33 dS38 mS38 oS38 aS38 cS38 uS38 tf38 vS38 lS39 dS39 tS39 nS39 oS39 aS39); (try clear j425); (try clear j394); (try clear j230); (try clear hr_block); (try clear hf_block); grind -mbtc (splits := 20) (gen := 40) (ematch := 20) [SI, PT, WB_ad2, WB_fi, WB_nf, LA_n, LA_p, OR1, B01, XI, PI, PJ, BU, LV, LA_i, q_zz, q_za, q_zga, q_fza, q_fx, q_fga, q_gza, q_gfa, q_gx, q_zf1, q_zg1, q_ff, q_fg1, q_gf1, q_gg, ti_link, in1000])
    refine fm_lead _ _ _ _ (fun S41 hF5 pS41 => ?_) (sgv_lead (nx := nx) _ (by (try clear hC hA hO hP hk hE tS0 iJ230 tS33 dS33 nS33 mS33 oS33 tf33 uS33 cS33 fi33 cc33 aS33 vS33 wS33 dS38 mS38 oS38 aS38 cS38 uS38 tf38 vS38 lS39 dS39 tS39 nS39 oS39 aS39 vz40); (try clear j425); (try clear j394); (try clear j230); (try clear hr_block); (try clear hf_block); grind -mbtc (splits := 20) (gen := 40) (ematch := 20) [SI, PT, WB_ad2, WB_fi, WB_nf, LA_n, LA_p, OR1, B01, XI, PI, PJ, BU, LV, LA_i, q_zz, q_za, q_zga, q_fza, q_fx, q_fga, q_gza, q_gfa, q_gx, q_zf1, q_zg1, q_ff, q_fg1, q_gf1, q_gg, ti_link, in1000]))
    obtain ⟨pS41, qS41⟩ := pS41
    have tS41 : NT S39 S41 := NT_fr hF5 (by decide) (by decide)
    have fS41 : S41.1 4 = 0 → S39.1 4 = 0 := fun q => (hF5.1 4 (by decide)).symm.trans q
    have dS41 : NP S39 S41 := NP_fr hF5 (by decide) (by decide) fS41
    have nS41 : NC S39 S41 := NC_fr hF5 (by decide) (by decide) fS41
    have z3_S41 := hF5.1 3 (by decide)
    have z4_S41 := hF5.1 4 (by decide)
    have z6_S41 := hF5.1 6 (by decide)
    have z7_S41 := hF5.1 7 (by decide)
    have z8_S41 := hF5.1 8 (by decide)
    have z9_S41 := hF5.1 9 (by decide)
    have z10_S41 := hF5.1 10 (by decide)
    have z11_S41 := hF5.1 11 (by decide)
    have z12_S41 := hF5.1 12 (by decide)
    have z13_S41 := hF5.1 13 (by decide)
    have z15_S41 := hF5.1 15 (by decide)
    have z17_S41 := hF5.1 17 (by decide)
    have z18_S41 := hF5.1 18 (by decide)
    have z19_S41 := hF5.1 19 (by decide)
    have z20_S41 := hF5.1 20 (by decide)
    have z16_S41 := hF5.1 16 (by decide)
    have f1_S41 := hF5.2.1 1 (by decide)
    have f1a_S41 := Fr_fa hF5 1 (by decide)
    have f2_S41 := hF5.2.1 2 (by decide)
    have f2a_S41 := Fr_fa hF5 2 (by decide)
    have f8_S41 := hF5.2.1 8 (by decide)
    have f8a_S41 := Fr_fa hF5 8 (by decide)
    have f10_S41 := hF5.2.1 10 (by decide)
    have f10a_S41 := Fr_fa hF5 10 (by decide)
    have f25_S41 := hF5.2.1 25 (by decide)
    have f25a_S41 := Fr_fa hF5 25 (by decide)
    have f28_S41 := hF5.2.1 28 (by decide)
    have f28a_S41 := Fr_fa hF5 28 (by decide)
    have f35_S41 := hF5.2.1 35 (by decide)
    have f35a_S41 := Fr_fa hF5 35 (by decide)
    have f36_S41 := hF5.2.1 36 (by decide)
    have f36a_S41 := Fr_fa hF5 36 (by decide)
    have f45_S41 := hF5.2.1 45 (by decide)
    have f45a_S41 := Fr_fa hF5 45 (by decide)
    have f46_S41 := hF5.2.1 46 (by decide)
    have f46a_S41 := Fr_fa hF5 46 (by decide)
    have f48_S41 := hF5.2.1 48 (by decide)
    have f48a_S41 := Fr_fa hF5 48 (by decide)
    have f40_S41 := hF5.2.1 40 (by decide)
    have f40a_S41 := Fr_fa hF5 40 (by decide)
    have f41_S41 := hF5.2.1 41 (by decide)
    have f41a_S41 := Fr_fa hF5 41 (by decide)
    have f42_S41 := hF5.2.1 42 (by decide)
    have f42a_S41 := Fr_fa hF5 42 (by decide)
    have f44_S41 := hF5.2.1 44 (by decide)
    have f44a_S41 := Fr_fa hF5 44 (by decide)
    have f29_S41 := hF5.2.1 29 (by decide)
    have f29a_S41 := Fr_fa hF5 29 (by decide)
    have f27_S41 := hF5.2.1 27 (by decide)
    have f27a_S41 := Fr_fa hF5 27 (by decide)
    have f37_S41 := hF5.2.1 37 (by decide)
    have f37a_S41 := Fr_fa hF5 37 (by decide)
    have f38_S41 := hF5.2.1 38 (by decide)
    have f38a_S41 := Fr_fa hF5 38 (by decide)
    have g3_S41 := hF5.2.2 3 (by decide)
    have g3a_S41 := Fr_ga hF5 3 (by decide)
    have g4_S41 := hF5.2.2 4 (by decide)
    have g4a_S41 := Fr_ga hF5 4 (by decide)
    clear hF5
    have aS41 : AF nx ((Sx.2.1 10) (ix (Sx.1 12))).toInt S41 := qS41.2.1 _ aS39 vz40
    have wS41 : x4.toInt = -1 ∨ AV nx S41 x4 := wS33.imp id (fun q => AV_m q (by (try clear hC hA hO hP hk hE tS0 iJ230 tS33 dS33 nS33 mS33 oS33 tf33 uS33 cS33 fi33 cc33 aS33 vS33 wS33 dS38 mS38 oS38 aS38 cS38 uS38 tf38 vS38 lS39 dS39 tS39 nS39 oS39 aS39 vz40 qS41 tS41 dS41 nS41 aS41); (try clear j425); (try clear j394); (try clear j230); (try clear hr_block); (try clear hf_block); grind -mbtc (splits := 20) (gen := 40) (ematch := 20) [SI, PT, WB_ad2, WB_fi, WB_nf, LA_n, LA_p, OR1, B01, XI, PI, PJ, BU, LV, LA_i, q_zz, q_za, q_zga, q_fza, q_fx, q_fga, q_gza, q_gfa, q_gx, q_zf1, q_zg1, q_ff, q_fg1, q_gf1, q_gg, ti_link, in1000]) (by (try clear hC hA hO hP hk hE tS0 iJ230 tS33 dS33 nS33 mS33 oS33 tf33 uS33 cS33 fi33 cc33 aS33 vS33 wS33 dS38 mS38 oS38 aS38 cS38 uS38 tf38 vS38 lS39 dS39 tS39 nS39 oS39 aS39 vz40 qS41 tS41 dS41 nS41 aS41); (try clear j425); (try clear j394); (try clear j230); (try clear hr_block); (try clear hf_block); grind -mbtc (splits := 20) (gen := 40) (ematch := 20) [SI, PT, WB_ad2, WB_fi, WB_nf, LA_n, LA_p, OR1, B01, XI, PI, PJ, BU, LV, LA_i, q_zz, q_za, q_zga, q_fza, q_fx, q_fga, q_gza, q_gfa, q_gx, q_zf1, q_zg1, q_ff, q_fg1, q_gf1, q_gg, ti_link, in1000]))
    intro S42 eS42
    have lS42 : ∀ m : Int, AV nx S41 x4 → AF nx m S41 → AF nx m S42 := fun m h8 h9 => AF_lv eS42 h8 h9
    have dS42 : NP S41 S42 := NP_z eS42 (by decide)
    have tS42 : NT S41 S42 := NT_z eS42 (by decide)
    have nS42 : NC S41 S42 := NC_z eS42 (by decide)
    have oS42 : NO nx S41 S42 := NO_z eS42
    have aS42 : AF nx ((Sx.2.1 10) (ix (Sx.1 12))).toInt S42 := AF_lx eS42 wS41 aS41
    refine ⟨by (try clear hC hA hO hP hk hE tS0 iJ230 tS33 dS33 nS33 mS33 oS33 tf33 uS33 cS33 fi33 cc33 aS33 vS33 wS33 dS38 mS38 oS38 aS38 cS38 uS38 tf38 vS38 lS39 dS39 tS39 nS39 oS39 aS39 vz40 qS41 tS41 dS41 nS41 aS41 wS41 lS42 dS42 tS42 nS42 oS42 aS42); (try clear j425); (try clear j394); (try clear j230); (try clear hr_block); (try clear hf_block); grind -mbtc (splits := 20) (gen := 40) (ematch := 20) [SI, PT, WB_ad2, WB_fi, WB_nf, LA_n, LA_p, OR1, B01, XI, PI, PJ, BU, LV, LA_i, q_zz, q_za, q_zga, q_fza, q_fx, q_fga, q_gza, q_gfa, q_gx, q_zf1, q_zg1, q_ff, q_fg1, q_gf1, q_gg, ti_link, in1000], ?_⟩
    intro z43 ez43
    have vz43 : AV nx S42 z43 := by
          rw [ez43]
          exact AV_tf (w := x1) aS42 (by (try clear hC hA hO hP hk hE tS0 iJ230 tS33 dS33 nS33 mS33 oS33 tf33 uS33 cS33 fi33 cc33 aS33 vS33 wS33 dS38 mS38 oS38 aS38 cS38 uS38 tf38 vS38 lS39 dS39 tS39 nS39 oS39 aS39 vz40 qS41 tS41 dS41 nS41 aS41 wS41 lS42 dS42 tS42 nS42 oS42 aS42); (try clear j425); (try clear j394); (try clear j230); (try clear hr_block); (try clear hf_block); grind -mbtc (splits := 20) (gen := 40) (ematch := 20) [SI, PT, WB_ad2, WB_fi, WB_nf, LA_n, LA_p, OR1, B01, XI, PI, PJ, BU, LV, LA_i, q_zz, q_za, q_zga, q_fza, q_fx, q_fga, q_gza, q_gfa, q_gx, q_zf1, q_zg1, q_ff, q_fg1, q_gf1, q_gg, ti_link, in1000]) (by (try clear hC hA hO hP hk hE tS0 iJ230 tS33 dS33 nS33 mS33 oS33 tf33 uS33 cS33 fi33 cc33 aS33 vS33 wS33 dS38 mS38 oS38 aS38 cS38 uS38 tf38 vS38 lS39 dS39 tS39 nS39 oS39 aS39 vz40 qS41 tS41 dS41 nS41 aS41 wS41 lS42 dS42 tS42 nS42 oS42 aS42); (try clear j425); (try clear j394); (try clear j230); (try clear hr_block); (try clear hf_block); grind -mbtc (splits := 20) (gen := 40) (ematch := 20) [SI, PT, WB_ad2, WB_fi, WB_nf, LA_n, LA_p, OR1, B01, XI, PI, PJ, BU, LV, LA_i, q_zz, q_za, q_zga, q_fza, q_fx, q_fga, q_gza, q_gfa, q_gx, q_zf1, q_zg1, q_ff, q_fg1, q_gf1, q_gg, ti_link, in1000])
    refine fm_lead _ _ _ _ (fun S44 hF6 pS44 => ?_) (sgv_lead (nx := nx) _ (by (try clear hC hA hO hP hk hE tS0 iJ230 tS33 dS33 nS33 mS33 oS33 tf33 uS33 cS33 fi33 cc33 aS33 vS33 wS33 dS38 mS38 oS38 aS38 cS38 uS38 tf38 vS38 lS39 dS39 tS39 nS39 oS39 aS39 vz40 qS41 tS41 dS41 nS41 aS41 wS41 lS42 dS42 tS42 nS42 oS42 aS42 vz43); (try clear j425); (try clear j394); (try clear j230); (try clear hr_block); (try clear hf_block); grind -mbtc (splits := 20) (gen := 40) (ematch := 20) [SI, PT, WB_ad2, WB_fi, WB_nf, LA_n, LA_p, OR1, B01, XI, PI, PJ, BU, LV, LA_i, q_zz, q_za, q_zga, q_fza, q_fx, q_fga, q_gza, q_gfa, q_gx, q_zf1, q_zg1, q_ff, q_fg1, q_gf1, q_gg, ti_link, in1000]))
    obtain ⟨pS44, qS44⟩ := pS44
    have tS44 : NT S42 S44 := NT_fr hF6 (by decide) (by decide)
    have fS44 : S44.1 4 = 0 → S42.1 4 = 0 := fun q => (hF6.1 4 (by decide)).symm.trans q
    have dS44 : NP S42 S44 := NP_fr hF6 (by decide) (by decide) fS44
    have nS44 : NC S42 S44 := NC_fr hF6 (by decide) (by decide) fS44
    have z3_S44 := hF6.1 3 (by decide)
    have z4_S44 := hF6.1 4 (by decide)
    have z6_S44 := hF6.1 6 (by decide)
    have z7_S44 := hF6.1 7 (by decide)
    have z8_S44 := hF6.1 8 (by decide)
    have z9_S44 := hF6.1 9 (by decide)
    have z10_S44 := hF6.1 10 (by decide)
    have z11_S44 := hF6.1 11 (by decide)
    have z12_S44 := hF6.1 12 (by decide)
    have z13_S44 := hF6.1 13 (by decide)
    have z15_S44 := hF6.1 15 (by decide)
    have z17_S44 := hF6.1 17 (by decide)
    have z18_S44 := hF6.1 18 (by decide)
    have z19_S44 := hF6.1 19 (by decide)
    have z20_S44 := hF6.1 20 (by decide)
    have z16_S44 := hF6.1 16 (by decide)
    have f1_S44 := hF6.2.1 1 (by decide)
    have f1a_S44 := Fr_fa hF6 1 (by decide)
    have f2_S44 := hF6.2.1 2 (by decide)
    have f2a_S44 := Fr_fa hF6 2 (by decide)
    have f8_S44 := hF6.2.1 8 (by decide)
    have f8a_S44 := Fr_fa hF6 8 (by decide)
    have f10_S44 := hF6.2.1 10 (by decide)
    have f10a_S44 := Fr_fa hF6 10 (by decide)
    have f25_S44 := hF6.2.1 25 (by decide)
    have f25a_S44 := Fr_fa hF6 25 (by decide)
    have f28_S44 := hF6.2.1 28 (by decide)
    have f28a_S44 := Fr_fa hF6 28 (by decide)
    have f35_S44 := hF6.2.1 35 (by decide)
    have f35a_S44 := Fr_fa hF6 35 (by decide)
    have f36_S44 := hF6.2.1 36 (by decide)
    have f36a_S44 := Fr_fa hF6 36 (by decide)
    have f45_S44 := hF6.2.1 45 (by decide)
    have f45a_S44 := Fr_fa hF6 45 (by decide)
    have f46_S44 := hF6.2.1 46 (by decide)
    have f46a_S44 := Fr_fa hF6 46 (by decide)
    have f48_S44 := hF6.2.1 48 (by decide)
    have f48a_S44 := Fr_fa hF6 48 (by decide)
    have f40_S44 := hF6.2.1 40 (by decide)
    have f40a_S44 := Fr_fa hF6 40 (by decide)
    have f41_S44 := hF6.2.1 41 (by decide)
    have f41a_S44 := Fr_fa hF6 41 (by decide)
    have f42_S44 := hF6.2.1 42 (by decide)
    have f42a_S44 := Fr_fa hF6 42 (by decide)
    have f44_S44 := hF6.2.1 44 (by decide)
    have f44a_S44 := Fr_fa hF6 44 (by decide)
    have f29_S44 := hF6.2.1 29 (by decide)
    have f29a_S44 := Fr_fa hF6 29 (by decide)
    have f27_S44 := hF6.2.1 27 (by decide)
    have f27a_S44 := Fr_fa hF6 27 (by decide)
    have f37_S44 := hF6.2.1 37 (by decide)
    have f37a_S44 := Fr_fa hF6 37 (by decide)
    have f38_S44 := hF6.2.1 38 (by decide)
    have f38a_S44 := Fr_fa hF6 38 (by decide)
    have g3_S44 := hF6.2.2 3 (by decide)
    have g3a_S44 := Fr_ga hF6 3 (by decide)
    have g4_S44 := hF6.2.2 4 (by decide)
    have g4a_S44 := Fr_ga hF6 4 (by decide)
    clear hF6
    have aS44 : AF nx ((Sx.2.1 10) (ix (Sx.1 12))).toInt S44 := qS44.2.1 _ aS42 vz43
    refine ⟨by (try clear hC hA hO hP hk hE tS0 iJ230 tS33 dS33 nS33 mS33 oS33 tf33 uS33 cS33 fi33 cc33 aS33 vS33 wS33 dS38 mS38 oS38 aS38 cS38 uS38 tf38 vS38 lS39 dS39 tS39 nS39 oS39 aS39 vz40 qS41 tS41 dS41 nS41 aS41 wS41 lS42 dS42 tS42 nS42 oS42 aS42 vz43 qS44 tS44 dS44 nS44 aS44); (try clear j425); (try clear j394); (try clear j230); (try clear hr_block); (try clear hf_block); grind -mbtc (splits := 20) (gen := 40) (ematch := 20) [SI, PT, WB_ad2, WB_fi, WB_nf, LA_n, LA_p, OR1, B01, XI, PI, PJ, BU, LV, LA_i, q_zz, q_za, q_zga, q_fza, q_fx, q_fga, q_gza, q_gfa, q_gx, q_zf1, q_zg1, q_ff, q_fg1, q_gf1, q_gg, ti_link, in1000], ?_⟩
    intro z45 ez45
    have  rz45 : 12000 * nx ≤ z45.toInt ∧ z45.toInt < 12000 * nx + 12000 := by
          rw [ez45]
          have q9 := PTc_in (x := x1) (w := (S44.1 9)) (tt := (S44.2.1 25)) (ba := (S44.2.1 36)) (fa := (S44.2.1 35)) (by rw [z9_S44, f25_S44, f36_S44, f35_S44, eS42]; show PTc nx (S41.1 9) (S41.2.1 25) (S41.2.1 36) (S41.2.1 35); rw [z9_S41, f25_S41, f36_S41, f35_S41, eS39, eS38]; show PTc nx (S33.1 9) (S33.2.1 25) (S33.2.1 36) (S33.2.1 35); rw [z9_S33, f25_S33, f36_S33, f35_S33]; exact pt230) (by (try clear hC hA hO hP hk hE tS0 iJ230 tS33 dS33 nS33 mS33 oS33 tf33 uS33 cS33 fi33 cc33 aS33 vS33 wS33 dS38 mS38 oS38 aS38 cS38 uS38 tf38 vS38 lS39 dS39 tS39 nS39 oS39 aS39 vz40 qS41 tS41 dS41 nS41 aS41 wS41 lS42 dS42 tS42 nS42 oS42 aS42 vz43 qS44 tS44 dS44 nS44 aS44); (try clear j425); (try clear j394); (try clear j230); (try clear hr_block); (try clear hf_block); grind -mbtc (splits := 20) (gen := 40) (ematch := 20) [SI, PT, WB_ad2, WB_fi, WB_nf, LA_n, LA_p, OR1, B01, XI, PI, PJ, BU, LV, LA_i, q_zz, q_za, q_zga, q_fza, q_fx, q_fga, q_gza, q_gfa, q_gx, q_zf1, q_zg1, q_ff, q_fg1, q_gf1, q_gg, ti_link, in1000]) (by (try clear hC hA hO hP hk hE tS0 iJ230 tS33 dS33 nS33 mS33 oS33 tf33 uS33 cS33 fi33 cc33 aS33 vS33 wS33 dS38 mS38 oS38 aS38 cS38 uS38 tf38 vS38 lS39 dS39 tS39 nS39 oS39 aS39 vz40 qS41 tS41 dS41 nS41 aS41 wS41 lS42 dS42 tS42 nS42 oS42 aS42 vz43 qS44 tS44 dS44 nS44 aS44); (try clear j425); (try clear j394); (try clear j230); (try clear hr_block); (try clear hf_block); grind -mbtc (splits := 20) (gen := 40) (ematch := 20) [SI, PT, WB_ad2, WB_fi, WB_nf, LA_n, LA_p, OR1, B01, XI, PI, PJ, BU, LV, LA_i, q_zz, q_za, q_zga, q_fza, q_fx, q_fga, q_gza, q_gfa, q_gx, q_zf1, q_zg1, q_ff, q_fg1, q_gf1, q_gg, ti_link, in1000])
          exact ⟨q9.2.2.1, q9.2.2.2⟩
    have vz45 : AV nx S44 z45 := by
          rw [ez45]
          exact AV_tf (w := x1) aS44 (by (try clear hC hA hO hP hk hE tS0 iJ230 tS33 dS33 nS33 mS33 oS33 tf33 uS33 cS33 fi33 cc33 aS33 vS33 wS33 dS38 mS38 oS38 aS38 cS38 uS38 tf38 vS38 lS39 dS39 tS39 nS39 oS39 aS39 vz40 qS41 tS41 dS41 nS41 aS41 wS41 lS42 dS42 tS42 nS42 oS42 aS42 vz43 qS44 tS44 dS44 nS44 aS44); (try clear j425); (try clear j394); (try clear j230); (try clear hr_block); (try clear hf_block); grind -mbtc (splits := 20) (gen := 40) (ematch := 20) [SI, PT, WB_ad2, WB_fi, WB_nf, LA_n, LA_p, OR1, B01, XI, PI, PJ, BU, LV, LA_i, q_zz, q_za, q_zga, q_fza, q_fx, q_fga, q_gza, q_gfa, q_gx, q_zf1, q_zg1, q_ff, q_fg1, q_gf1, q_gg, ti_link, in1000]) (by (try clear hC hA hO hP hk hE tS0 iJ230 tS33 dS33 nS33 mS33 oS33 tf33 uS33 cS33 fi33 cc33 aS33 vS33 wS33 dS38 mS38 oS38 aS38 cS38 uS38 tf38 vS38 lS39 dS39 tS39 nS39 oS39 aS39 vz40 qS41 tS41 dS41 nS41 aS41 wS41 lS42 dS42 tS42 nS42 oS42 aS42 vz43 qS44 tS44 dS44 nS44 aS44); (try clear j425); (try clear j394); (try clear j230); (try clear hr_block); (try clear hf_block); grind -mbtc (splits := 20) (gen := 40) (ematch := 20) [SI, PT, WB_ad2, WB_fi, WB_nf, LA_n, LA_p, OR1, B01, XI, PI, PJ, BU, LV, LA_i, q_zz, q_za, q_zga, q_fza, q_fx, q_fga, q_gza, q_gfa, q_gx, q_zf1, q_zg1, q_ff, q_fg1, q_gf1, q_gg, ti_link, in1000])
    intro S46 eS46
    have lS46 : ∀ m : Int, AV nx S44 z45 → AF nx m S44 → AF nx m S46 := fun m h8 h9 => AF_lv eS46 h8 h9
    have dS46 : NP S44 S46 := NP_z eS46 (by decide)
    have tS46 : NT S44 S46 := NT_z eS46 (by decide)
    have nS46 : NC S44 S46 := NC_z eS46 (by decide)
    have oS46 : NO nx S44 S46 := NO_z eS46
    have aS46 : AF nx ((Sx.2.1 10) (ix (Sx.1 12))).toInt S46 := AF_lv eS46 vz45 aS44
    have cS46 : CS nx ((ix x1, 2, (0 : Int32)) :: (ix x1, 3, (0 : Int32)) :: kL) (S33.1 9).toInt (S33.1 10).toInt x1 S46 := by (try clear j425); (try clear j394); (try clear j230); (try clear hr_block); (try clear hf_block); grind (ematch := 30) (gen := 40) (splits := 15) [→ CF_nc, → CS_nc, → AF_na, → OH_no, → CS_step, → CS_CF, AF_nf, AQ_o, CS_nf, q_zz, q_za, q_zga, q_fza, q_fx, q_fga, q_gza, q_gfa, q_gx, q_zf1, q_zg1, q_ff, q_fg1, q_gf1, q_gg, AV_i, → CD_nc, CD_nf, ← CD_CS, → PD_np, → TM_nt, → TM_tr, ti_link]
    refine ⟨by (try clear hC hA hO hP hk hE tS0 iJ230 tS33 dS33 nS33 mS33 oS33 tf33 uS33 cS33 fi33 cc33 aS33 vS33 wS33 dS38 mS38 oS38 aS38 cS38 uS38 tf38 vS38 lS39 dS39 tS39 nS39 oS39 aS39 vz40 qS41 tS41 dS41 nS41 aS41 wS41 lS42 dS42 tS42 nS42 oS42 aS42 vz43 qS44 tS44 dS44 nS44 aS44 vz45 lS46 dS46 tS46 nS46 oS46 aS46 cS46); (try clear j425); (try clear j394); (try clear j230); (try clear hr_block); (try clear hf_block); grind -mbtc (splits := 20) (gen := 40) (ematch := 20) [SI, PT, WB_ad2, WB_fi, WB_nf, LA_n, LA_p, OR1, B01, XI, PI, PJ, BU, LV, LA_i, q_zz, q_za, q_zga, q_fza, q_fx, q_fga, q_gza, q_gfa, q_gx, q_zf1, q_zg1, q_ff, q_fg1, q_gf1, q_gg, ti_link, in1000], ?_⟩
    intro S47 eS47
    have dS47 : NP S46 S47 := NP_f eS47 (by decide)
    have tS47 : NT S46 S47 := NT_f eS47 (by decide)
    have mS47 : NA S46 S47 := NA_f eS47 (by decide)
    have oS47 : NO nx S46 S47 := NO_f eS47 (nH_t (by decide) (by (try clear hC hA hO hP hk hE tS0 iJ230 tS33 dS33 nS33 mS33 oS33 tf33 uS33 cS33 fi33 cc33 aS33 vS33 wS33 dS38 mS38 oS38 aS38 cS38 uS38 tf38 vS38 lS39 dS39 tS39 nS39 oS39 aS39 vz40 qS41 tS41 dS41 nS41 aS41 wS41 lS42 dS42 tS42 nS42 oS42 aS42 vz43 qS44 tS44 dS44 nS44 aS44 vz45 lS46 dS46 tS46 nS46 oS46 aS46 cS46 dS47 tS47 mS47); (try clear j425); (try clear j394); (try clear j230); (try clear hr_block); (try clear hf_block); grind -mbtc (splits := 20) (gen := 40) (ematch := 20) [SI, PT, WB_ad2, WB_fi, WB_nf, LA_n, LA_p, OR1, B01, XI, PI, PJ, BU, LV, LA_i, q_zz, q_za, q_zga, q_fza, q_fx, q_fga, q_gza, q_gfa, q_gx, q_zf1, q_zg1, q_ff, q_fg1, q_gf1, q_gg, ti_link, in1000]))
    have cs47 : CS nx ((ix x1, 2, (0 : Int32)) :: (ix x1, 3, (0 : Int32)) :: kL) (S33.1 9).toInt (S33.1 10).toInt x1 S47 := CS_lift (by rw [eS47]; rfl) (fun _ _ _ q => CW_w32 eS47 (Or.inl (List.mem_cons_self ..)) q) cS46
    have cS47 : CS nx ((ix x1, 3, (0 : Int32)) :: kL) (S33.1 9).toInt (S33.1 10).toInt x1 S47 := CS_fcl (by (try clear hC hA hO hP hk hE tS0 iJ230 tS33 dS33 nS33 mS33 oS33 tf33 uS33 cS33 fi33 cc33 aS33 vS33 wS33 dS38 mS38 oS38 aS38 cS38 uS38 tf38 vS38 lS39 dS39 tS39 nS39 oS39 aS39 vz40 qS41 tS41 dS41 nS41 aS41 wS41 lS42 dS42 tS42 nS42 oS42 aS42 vz43 qS44 tS44 dS44 nS44 aS44 vz45 lS46 dS46 tS46 nS46 oS46 aS46 cS46 dS47 tS47 mS47 oS47 cs47); (try clear j425); (try clear j394); (try clear j230); (try clear hr_block); (try clear hf_block); grind -mbtc (splits := 20) (gen := 40) (ematch := 20) [SI, PT, WB_ad2, WB_fi, WB_nf, LA_n, LA_p, OR1, B01, XI, PI, PJ, BU, LV, LA_i, q_zz, q_za, q_zga, q_fza, q_fx, q_fga, q_gza, q_gfa, q_gx, q_zf1, q_zg1, q_ff, q_fg1, q_gf1, q_gg, ti_link, in1000]) (by (try clear hC hA hO hP hk hE tS0 iJ230 tS33 dS33 nS33 mS33 oS33 tf33 uS33 cS33 fi33 cc33 aS33 vS33 wS33 dS38 mS38 oS38 aS38 cS38 uS38 tf38 vS38 lS39 dS39 tS39 nS39 oS39 aS39 vz40 qS41 tS41 dS41 nS41 aS41 wS41 lS42 dS42 tS42 nS42 oS42 aS42 vz43 qS44 tS44 dS44 nS44 aS44 vz45 lS46 dS46 tS46 nS46 oS46 aS46 cS46 dS47 tS47 mS47 oS47 cs47); (try clear j425); (try clear j394); (try clear j230); (try clear hr_block); (try clear hf_block); grind -mbtc (splits := 20) (gen := 40) (ematch := 20) [SI, PT, WB_ad2, WB_fi, WB_nf, LA_n, LA_p, OR1, B01, XI, PI, PJ, BU, LV, LA_i, q_zz, q_za, q_zga, q_fza, q_fx, q_fga, q_gza, q_gfa, q_gx, q_zf1, q_zg1, q_ff, q_fg1, q_gf1, q_gg, ti_link, in1000]) (by
          rw [eS47]
          show upd _ _ _ _ = _
          unfold upd
          rw [if_pos rfl]
          rfl) cs47
    intro S48 eS48
    have dS48 : NP S47 S48 := NP_z eS48 (by decide)
    have tS48 : NT S47 S48 := NT_z eS48 (by decide)
    have nS48 : NC S47 S48 := NC_z eS48 (by decide)
    have mS48 : NA S47 S48 := NA_z eS48 (by decide)
    have oS48 : NO nx S47 S48 := NO_z eS48
    intro S49 eS49
    have dS49 : NP S48 S49 := NP_z eS49 (by decide)
    have tS49 : NT S48 S49 := NT_z eS49 (by decide)
    have nS49 : NC S48 S49 := NC_z eS49 (by decide)
    have mS49 : NA S48 S49 := NA_z eS49 (by decide)
    have oS49 : NO nx S48 S49 := NO_z eS49
    have aS49 : AF nx ((Sx.2.1 10) (ix (Sx.1 12))).toInt S49 := by (try clear j425); (try clear j394); (try clear j230); (try clear hr_block); (try clear hf_block); grind (ematch := 30) (gen := 40) (splits := 15) [→ CF_nc, → CS_nc, → AF_na, → OH_no, → CS_step, → CS_CF, AF_nf, AQ_o, CS_nf, q_zz, q_za, q_zga, q_fza, q_fx, q_fga, q_gza, q_gfa, q_gx, q_zf1, q_zg1, q_ff, q_fg1, q_gf1, q_gg, AV_i, → CD_nc, CD_nf, ← CD_CS, → PD_np, → TM_nt, → TM_tr, ti_link]
    have uS49 : TM S S49 := by (try clear j425); (try clear j394); (try clear j230); (try clear hr_block); (try clear hf_block); grind (ematch := 30) (gen := 40) (splits := 15) [→ CF_nc, → CS_nc, → AF_na, → OH_no, → CS_step, → CS_CF, AF_nf, AQ_o, CS_nf, q_zz, q_za, q_zga, q_fza, q_fx, q_fga, q_gza, q_gfa, q_gx, q_zf1, q_zg1, q_ff, q_fg1, q_gf1, q_gg, AV_i, → CD_nc, CD_nf, ← CD_CS, → PD_np, → TM_nt, → TM_tr, ti_link]
    have tf49 : TF nx S x1 S49 := TF_np (TF_np (TF_np (TF_np (TF_np (TF_np (TF_np (TF_np tf38 dS39) dS41) dS42) dS44) dS46) dS47) dS48) dS49
    have cS49 : CS nx ((ix x1, 3, (0 : Int32)) :: kL) (S49.1 9).toInt (S49.1 10).toInt x1 S49 := by (try clear j425); (try clear j394); (try clear j230); (try clear hr_block); (try clear hf_block); grind (ematch := 30) (gen := 40) (splits := 15) [→ CF_nc, → CS_nc, → AF_na, → OH_no, → CS_step, → CS_CF, AF_nf, AQ_o, CS_nf, q_zz, q_za, q_zga, q_fza, q_fx, q_fga, q_gza, q_gfa, q_gx, q_zf1, q_zg1, q_ff, q_fg1, q_gf1, q_gg, AV_i, → CD_nc, CD_nf, ← CD_CS, → PD_np, → TM_nt, → TM_tr, ti_link]
    have pin49 : PD nx (kd + 1) (sZ (sZ S49 13 x1) 14 2) := PD_in hA hf hP tf49 (by (try clear hC hA hO hP hk hE tS0 iJ230 tS33 dS33 nS33 mS33 oS33 tf33 uS33 cS33 fi33 cc33 aS33 vS33 wS33 dS38 mS38 oS38 aS38 cS38 uS38 tf38 vS38 lS39 dS39 tS39 nS39 oS39 aS39 vz40 qS41 tS41 dS41 nS41 aS41 wS41 lS42 dS42 tS42 nS42 oS42 aS42 vz43 qS44 tS44 dS44 nS44 aS44 vz45 lS46 dS46 tS46 nS46 oS46 aS46 cS46 dS47 tS47 mS47 oS47 cs47 cS47 dS48 tS48 nS48 mS48 oS48 dS49 tS49 nS49 mS49 oS49 aS49 uS49 tf49 cS49); (try clear j425); (try clear j394); (try clear j230); (try clear hr_block); (try clear hf_block); grind -mbtc (splits := 20) (gen := 40) (ematch := 20) [SI, PT, WB_ad2, WB_fi, WB_nf, LA_n, LA_p, OR1, B01, XI, PI, PJ, BU, LV, LA_i, q_zz, q_za, q_zga, q_fza, q_fx, q_fga, q_gza, q_gfa, q_gx, q_zf1, q_zg1, q_ff, q_fg1, q_gf1, q_gg, ti_link, in1000]) (by (try clear hC hA hO hP hk hE tS0 iJ230 tS33 dS33 nS33 mS33 oS33 tf33 uS33 cS33 fi33 cc33 aS33 vS33 wS33 dS38 mS38 oS38 aS38 cS38 uS38 tf38 vS38 lS39 dS39 tS39 nS39 oS39 aS39 vz40 qS41 tS41 dS41 nS41 aS41 wS41 lS42 dS42 tS42 nS42 oS42 aS42 vz43 qS44 tS44 dS44 nS44 aS44 vz45 lS46 dS46 tS46 nS46 oS46 aS46 cS46 dS47 tS47 mS47 oS47 cs47 cS47 dS48 tS48 nS48 mS48 oS48 dS49 tS49 nS49 mS49 oS49 aS49 uS49 tf49 cS49); (try clear j425); (try clear j394); (try clear j230); (try clear hr_block); (try clear hf_block); grind -mbtc (splits := 20) (gen := 40) (ematch := 20) [SI, PT, WB_ad2, WB_fi, WB_nf, LA_n, LA_p, OR1, B01, XI, PI, PJ, BU, LV, LA_i, q_zz, q_za, q_zga, q_fza, q_fx, q_fga, q_gza, q_gfa, q_gx, q_zf1, q_zg1, q_ff, q_fg1, q_gf1, q_gg, ti_link, in1000])
    have oS49_ : OH nx S0 S49 := by (try clear j425); (try clear j394); (try clear j230); (try clear hr_block); (try clear hf_block); grind (ematch := 30) (gen := 40) (splits := 15) [→ CF_nc, → CS_nc, → AF_na, → OH_no, → CS_step, → CS_CF, AF_nf, AQ_o, CS_nf, q_zz, q_za, q_zga, q_fza, q_fx, q_fga, q_gza, q_gfa, q_gx, q_zf1, q_zg1, q_ff, q_fg1, q_gf1, q_gg, AV_i, → CD_nc, CD_nf, ← CD_CS, → PD_np, → TM_nt, → TM_tr, ti_link]
    have hs49 : SI nx n so pl wo ws S0 d (G - 6) (GA - 2) (X + 6) (Y + 4) GW (GT + 1) S49 ∧ ((S49.1 4) = 0 → (S.1 3).toInt < (S49.1 3).toInt) ∧ (S.1 8).toInt ≤ (S49.1 8).toInt ∧ (S.1 10).toInt ≤ (S49.1 10).toInt ∧ x1.toInt < (S49.1 9).toInt ∧ 500 * nx ≤ x1.toInt ∧ (S49.1 13) = (S.1 13) ∧ (S49.1 15) = (S.1 15) ∧ (S49.1 16) = (S.1 16) + 1 ∧ (S49.2.1 10) (ix (S49.1 12)) = (Sx.2.1 10) (ix (Sx.1 12)) ∧ x1 = (S.1 9) ∧ B01 (S47.1 17) ∧ B01 (S47.1 20) := by refine ⟨⟨⟨?_, ?_, ?_, ?_⟩, ?_, ?_, ?_, ?_⟩, ?_, ?_, ?_, ?_, ?_, ?_, ?_, ?_, ?_, ?_, ?_, ?_⟩ <;> ((try clear hC hA hO hP hk hE tS0 iJ230 tS33 dS33 nS33 mS33 oS33 tf33 uS33 cS33 fi33 cc33 aS33 vS33 wS33 dS38 mS38 oS38 aS38 cS38 uS38 tf38 vS38 lS39 dS39 tS39 nS39 oS39 aS39 vz40 qS41 tS41 dS41 nS41 aS41 wS41 lS42 dS42 tS42 nS42 oS42 aS42 vz43 qS44 tS44 dS44 nS44 aS44 vz45 lS46 dS46 tS46 nS46 oS46 aS46 cS46 dS47 tS47 mS47 oS47 cs47 cS47 dS48 tS48 nS48 mS48 oS48 dS49 tS49 nS49 mS49 oS49 aS49 uS49 tf49 cS49 pin49 oS49_); (try clear j425); (try clear j394); (try clear j230); (try clear hr_block); (try clear hf_block); grind -mbtc (splits := 20) (gen := 40) (ematch := 20) [SI, PT, WB_ad2, WB_fi, WB_nf, LA_n, LA_p, OR1, B01, XI, PI, PJ, BU, LV, LA_i, q_zz, q_za, q_zga, q_fza, q_fx, q_fga, q_gza, q_gfa, q_gx, q_zf1, q_zg1, q_ff, q_fg1, q_gf1, q_gg, ti_link, in1000])
    (try clear eS49); (try clear eS48); (try clear eS47); (try clear eS46); (try clear ez45); (try clear fS44); (try clear ez43); (try clear eS42); (try clear fS41); (try clear ez40); (try clear eS39); (try clear eS38); (try clear fS33); (try clear oS49); (try clear mS49); (try clear nS49); (try clear tS49); (try clear dS49); (try clear oS48); (try clear mS48); (try clear nS48); (try clear tS48); (try clear dS48); (try clear cS47); (try clear cs47); (try clear oS47); (try clear mS47); (try clear tS47); (try clear dS47); (try clear cS46); (try clear aS46); (try clear oS46); (try clear nS46); (try clear tS46); (try clear dS46); (try clear lS46); (try clear vz45); (try clear aS44); (try clear nS44); (try clear dS44); (try clear tS44); (try clear qS44); (try clear vz43); (try clear aS42); (try clear oS42); (try clear nS42); (try clear tS42); (try clear dS42); (try clear lS42); (try clear wS41); (try clear aS41); (try clear nS41); (try clear dS41); (try clear tS41); (try clear qS41); (try clear vz40); (try clear aS39); (try clear oS39); (try clear nS39); (try clear tS39); (try clear dS39); (try clear lS39); (try clear vS38); (try clear tf38); (try clear uS38); (try clear cS38); (try clear aS38); (try clear oS38); (try clear mS38); (try clear dS38); (try clear wS33); (try clear vS33); (try clear aS33); (try clear cc33); (try clear fi33); (try clear cS33); (try clear uS33); (try clear tf33); (try clear oS33); (try clear mS33); (try clear nS33); (try clear dS33); (try clear tS33); (try clear iJ230); (try clear g4a_S44); (try clear g4_S44); (try clear g3a_S44); (try clear g3_S44); (try clear f38a_S44); (try clear f38_S44); (try clear f37a_S44); (try clear f37_S44); (try clear f27a_S44); (try clear f27_S44); (try clear f29a_S44); (try clear f29_S44); (try clear f44a_S44); (try clear f44_S44); (try clear f42a_S44); (try clear f42_S44); (try clear f41a_S44); (try clear f41_S44); (try clear f40a_S44); (try clear f40_S44); (try clear f48a_S44); (try clear f48_S44); (try clear f46a_S44); (try clear f46_S44); (try clear f45a_S44); (try clear f45_S44); (try clear f36a_S44); (try clear f36_S44); (try clear f35a_S44); (try clear f35_S44); (try clear f28a_S44); (try clear f28_S44); (try clear f25a_S44); (try clear f25_S44); (try clear f10a_S44); (try clear f10_S44); (try clear f8a_S44); (try clear f8_S44); (try clear f2a_S44); (try clear f2_S44); (try clear f1a_S44); (try clear f1_S44); (try clear z16_S44); (try clear z20_S44); (try clear z19_S44); (try clear z18_S44); (try clear z17_S44); (try clear z15_S44); (try clear z13_S44); (try clear z12_S44); (try clear z11_S44); (try clear z10_S44); (try clear z9_S44); (try clear z8_S44); (try clear z7_S44); (try clear z6_S44); (try clear z4_S44); (try clear z3_S44); (try clear pS44); (try clear g4a_S41); (try clear g4_S41); (try clear g3a_S41); (try clear g3_S41); (try clear f38a_S41); (try clear f38_S41); (try clear f37a_S41); (try clear f37_S41); (try clear f27a_S41); (try clear f27_S41); (try clear f29a_S41); (try clear f29_S41); (try clear f44a_S41); (try clear f44_S41); (try clear f42a_S41); (try clear f42_S41); (try clear f41a_S41); (try clear f41_S41); (try clear f40a_S41); (try clear f40_S41); (try clear f48a_S41); (try clear f48_S41); (try clear f46a_S41); (try clear f46_S41); (try clear f45a_S41); (try clear f45_S41); (try clear f36a_S41); (try clear f36_S41); (try clear f35a_S41); (try clear f35_S41); (try clear f28a_S41); (try clear f28_S41); (try clear f25a_S41); (try clear f25_S41); (try clear f10a_S41); (try clear f10_S41); (try clear f8a_S41); (try clear f8_S41); (try clear f2a_S41); (try clear f2_S41); (try clear f1a_S41); (try clear f1_S41); (try clear z16_S41); (try clear z20_S41); (try clear z19_S41); (try clear z18_S41); (try clear z17_S41); (try clear z15_S41); (try clear z13_S41); (try clear z12_S41); (try clear z11_S41); (try clear z10_S41); (try clear z9_S41); (try clear z8_S41); (try clear z7_S41); (try clear z6_S41); (try clear z4_S41); (try clear z3_S41); (try clear pS41); (try clear g4a_S33); (try clear g4_S33); (try clear g3a_S33); (try clear g3_S33); (try clear f38a_S33); (try clear f38_S33); (try clear f37a_S33); (try clear f37_S33); (try clear f27a_S33); (try clear f27_S33); (try clear f29a_S33); (try clear f29_S33); (try clear f44a_S33); (try clear f44_S33); (try clear f42a_S33); (try clear f42_S33); (try clear f41a_S33); (try clear f41_S33); (try clear f40a_S33); (try clear f40_S33); (try clear f48a_S33); (try clear f48_S33); (try clear f46a_S33); (try clear f46_S33); (try clear f45a_S33); (try clear f45_S33); (try clear f36a_S33); (try clear f36_S33); (try clear f35a_S33); (try clear f35_S33); (try clear f28a_S33); (try clear f28_S33); (try clear f25a_S33); (try clear f25_S33); (try clear f10a_S33); (try clear f10_S33); (try clear f8a_S33); (try clear f8_S33); (try clear f2a_S33); (try clear f2_S33); (try clear f1a_S33); (try clear f1_S33); (try clear z16_S33); (try clear z20_S33); (try clear z19_S33); (try clear z18_S33); (try clear z17_S33); (try clear z15_S33); (try clear z13_S33); (try clear z12_S33); (try clear z11_S33); (try clear z10_S33); (try clear z9_S33); (try clear z8_S33); (try clear z7_S33); (try clear z6_S33); (try clear z4_S33); (try clear pS33); (try clear hJ230)
    refine fm_inBlock hf_block _ _ _ _ _ (fun S50 hF7 pS50 => ?_) (sg_inBlock hf_block hr_block (nx := nx) (n := n) (so := so) (pl := pl) (wo := wo) (ws := ws) (S0 := S0) (d := d) (G := (G - 6)) (GA := (GA - 2)) (X := (X + 6)) (Y := (Y + 4)) (GW := GW) (GT := (GT + 1)) (D := D) (kL := ((ix x1, 3, (0 : Int32)) :: kL)) (kd := (kd + 1)) _ _ (by (try clear hC hA hO hP hk hE tS0 aS49 uS49 tf49 cS49 pin49 oS49_ h); (try clear j425); (try clear j394); (try clear j230); (try clear hr_block); (try clear hf_block); grind -mbtc (splits := 20) (gen := 40) (ematch := 20) [SI, PT, WB_ad2, WB_fi, WB_nf, LA_n, LA_p, OR1, B01, XI, PI, PJ, BU, LV, LA_i, q_zz, q_za, q_zga, q_fza, q_fx, q_fga, q_gza, q_gfa, q_gx, q_zf1, q_zg1, q_ff, q_fg1, q_gf1, q_gg, ti_link, in1000]) (by (try clear hC hA hO hP hk hE tS0 aS49 uS49 tf49 cS49 pin49 oS49_ h); (try clear j425); (try clear j394); (try clear j230); (try clear hr_block); (try clear hf_block); grind -mbtc (splits := 20) (gen := 40) (ematch := 20) [SI, PT, WB_ad2, WB_fi, WB_nf, LA_n, LA_p, OR1, B01, XI, PI, PJ, BU, LV, LA_i, q_zz, q_za, q_zga, q_fza, q_fx, q_fga, q_gza, q_gfa, q_gx, q_zf1, q_zg1, q_ff, q_fg1, q_gf1, q_gg, ti_link, in1000]) (by (try clear hC hA hO hP hk hE tS0 aS49 uS49 tf49 cS49 pin49 oS49_ h); (try clear j425); (try clear j394); (try clear j230); (try clear hr_block); (try clear hf_block); grind -mbtc (splits := 20) (gen := 40) (ematch := 20) [SI, PT, WB_ad2, WB_fi, WB_nf, LA_n, LA_p, OR1, B01, XI, PI, PJ, BU, LV, LA_i, q_zz, q_za, q_zga, q_fza, q_fx, q_fga, q_gza, q_gfa, q_gx, q_zf1, q_zg1, q_ff, q_fg1, q_gf1, q_gg, ti_link, in1000]) (by (try clear hC hA hO hP hk hE tS0 aS49 uS49 tf49 cS49 pin49 oS49_ h); (try clear j425); (try clear j394); (try clear j230); (try clear hr_block); (try clear hf_block); grind -mbtc (splits := 20) (gen := 40) (ematch := 20) [SI, PT, WB_ad2, WB_fi, WB_nf, LA_n, LA_p, OR1, B01, XI, PI, PJ, BU, LV, LA_i, q_zz, q_za, q_zga, q_fza, q_fx, q_fga, q_gza, q_gfa, q_gx, q_zf1, q_zg1, q_ff, q_fg1, q_gf1, q_gg, ti_link, in1000]) (by (try clear hC hA hO hP hk hE tS0 aS49 uS49 tf49 cS49 pin49 oS49_ h); (try clear j425); (try clear j394); (try clear j230); (try clear hr_block); (try clear hf_block); grind -mbtc (splits := 20) (gen := 40) (ematch := 20) [SI, PT, WB_ad2, WB_fi, WB_nf, LA_n, LA_p, OR1, B01, XI, PI, PJ, BU, LV, LA_i, q_zz, q_za, q_zga, q_fza, q_fx, q_fga, q_gza, q_gfa, q_gx, q_zf1, q_zg1, q_ff, q_fg1, q_gf1, q_gg, ti_link, in1000]) (by (try clear hC hA hO hP hk hE tS0 aS49 uS49 tf49 cS49 pin49 oS49_ h); (try clear j425); (try clear j394); (try clear j230); (try clear hr_block); (try clear hf_block); grind -mbtc (splits := 20) (gen := 40) (ematch := 20) [SI, PT, WB_ad2, WB_fi, WB_nf, LA_n, LA_p, OR1, B01, XI, PI, PJ, BU, LV, LA_i, q_zz, q_za, q_zga, q_fza, q_fx, q_fga, q_gza, q_gfa, q_gx, q_zf1, q_zg1, q_ff, q_fg1, q_gf1, q_gg, ti_link, in1000]) (by (try clear j425); (try clear j394); (try clear j230); (try clear hr_block); (try clear hf_block); grind (ematch := 30) (gen := 40) (splits := 15) [→ CF_nc, → CS_nc, → AF_na, → OH_no, → CS_step, → CS_CF, AF_nf, AQ_o, CS_nf, q_zz, q_za, q_zga, q_fza, q_fx, q_fga, q_gza, q_gfa, q_gx, q_zf1, q_zg1, q_ff, q_fg1, q_gf1, q_gg, AV_i, → CD_nc, CD_nf, ← CD_CS, → PD_np, → TM_nt, → TM_tr, ti_link]) (by (try clear j425); (try clear j394); (try clear j230); (try clear hr_block); (try clear hf_block); grind (ematch := 30) (gen := 40) (splits := 15) [→ CF_nc, → CS_nc, → AF_na, → OH_no, → CS_step, → CS_CF, AF_nf, AQ_o, CS_nf, q_zz, q_za, q_zga, q_fza, q_fx, q_fga, q_gza, q_gfa, q_gx, q_zf1, q_zg1, q_ff, q_fg1, q_gf1, q_gg, AV_i, → CD_nc, CD_nf, ← CD_CS, → PD_np, → TM_nt, → TM_tr, ti_link]) (by (try clear j425); (try clear j394); (try clear j230); (try clear hr_block); (try clear hf_block); grind (ematch := 30) (gen := 40) (splits := 15) [→ CF_nc, → CS_nc, → AF_na, → OH_no, → CS_step, → CS_CF, AF_nf, AQ_o, CS_nf, q_zz, q_za, q_zga, q_fza, q_fx, q_fga, q_gza, q_gfa, q_gx, q_zf1, q_zg1, q_ff, q_fg1, q_gf1, q_gg, AV_i, → CD_nc, CD_nf, ← CD_CS, → PD_np, → TM_nt, → TM_tr, ti_link]) (by (try clear j425); (try clear j394); (try clear j230); (try clear hr_block); (try clear hf_block); grind (ematch := 30) (gen := 40) (splits := 15) [→ CF_nc, → CS_nc, → AF_na, → OH_no, → CS_step, → CS_CF, AF_nf, AQ_o, CS_nf, q_zz, q_za, q_zga, q_fza, q_fx, q_fga, q_gza, q_gfa, q_gx, q_zf1, q_zg1, q_ff, q_fg1, q_gf1, q_gg, AV_i, → CD_nc, CD_nf, ← CD_CS, → PD_np, → TM_nt, → TM_tr, ti_link]) (by (try clear j425); (try clear j394); (try clear j230); (try clear hr_block); (try clear hf_block); grind (ematch := 30) (gen := 40) (splits := 15) [→ CF_nc, → CS_nc, → AF_na, → OH_no, → CS_step, → CS_CF, AF_nf, AQ_o, CS_nf, q_zz, q_za, q_zga, q_fza, q_fx, q_fga, q_gza, q_gfa, q_gx, q_zf1, q_zg1, q_ff, q_fg1, q_gf1, q_gg, AV_i, → CD_nc, CD_nf, ← CD_CS, → PD_np, → TM_nt, → TM_tr, ti_link]))
    obtain ⟨pS50, qS50⟩ := pS50
    have z6_S50 := hF7.1 6 (by decide)
    have z12_S50 := hF7.1 12 (by decide)
    have f1_S50 := hF7.2.1 1 (by decide)
    have f1a_S50 := Fr_fa hF7 1 (by decide)
    have f2_S50 := hF7.2.1 2 (by decide)
    have f2a_S50 := Fr_fa hF7 2 (by decide)
    have g3_S50 := hF7.2.2 3 (by decide)
    have g3a_S50 := Fr_ga hF7 3 (by decide)
    have g4_S50 := hF7.2.2 4 (by decide)
    have g4a_S50 := Fr_ga hF7 4 (by decide)
    clear hF7
    have tf50 : TF nx S x1 S50 := TF_tm tf49 qS50.2.2.2
    have uS50 : TM S S50 := TM_tr uS49 qS50.2.2.2
    refine ⟨by (try clear hC hA hO hP hk hE tS0 aS49 uS49 tf49 cS49 pin49 oS49_ h qS50 tf50 uS50); (try clear j425); (try clear j394); (try clear j230); (try clear hr_block); (try clear hf_block); grind -mbtc (splits := 20) (gen := 40) (ematch := 20) [SI, PT, WB_ad2, WB_fi, WB_nf, LA_n, LA_p, OR1, B01, XI, PI, PJ, BU, LV, LA_i, q_zz, q_za, q_zga, q_fza, q_fx, q_fga, q_gza, q_gfa, q_gx, q_zf1, q_zg1, q_ff, q_fg1, q_gf1, q_gg, ti_link, in1000], ?_⟩
    intro S51 eS51
    have dS51 : NP S50 S51 := NP_z eS51 (by decide)
    have tS51 : NT S50 S51 := NT_z eS51 (by decide)
    have nS51 : NC S50 S51 := NC_z eS51 (by decide)
    have mS51 : NA S50 S51 := NA_z eS51 (by decide)
    have oS51 : NO nx S50 S51 := NO_z eS51
    refine ⟨by (try clear hC hA hO hP hk hE tS0 aS49 uS49 tf49 cS49 pin49 oS49_ h qS50 tf50 uS50 dS51 tS51 nS51 mS51 oS51); (try clear j425); (try clear j394); (try clear j230); (try clear hr_block); (try clear hf_block); grind -mbtc (splits := 20) (gen := 40) (ematch := 20) [SI, PT, WB_ad2, WB_fi, WB_nf, LA_n, LA_p, OR1, B01, XI, PI, PJ, BU, LV, LA_i, q_zz, q_za, q_zga, q_fza, q_fx, q_fga, q_gza, q_gfa, q_gx, q_zf1, q_zg1, q_ff, q_fg1, q_gf1, q_gg, ti_link, in1000], ?_⟩
    intro S52 eS52
    have dS52 : NP S51 S52 := NP_z eS52 (by decide)
    have tS52 : NT S51 S52 := NT_z eS52 (by decide)
    have nS52 : NC S51 S52 := NC_z eS52 (by decide)
    have mS52 : NA S51 S52 := NA_z eS52 (by decide)
    have oS52 : NO nx S51 S52 := NO_z eS52
    have tf52 : TF nx S x1 S52 := TF_np (TF_np tf50 dS51) dS52
    have cS52 : CS nx ((ix x1, 3, (0 : Int32)) :: kL) (S52.1 9).toInt (S52.1 10).toInt x1 S52 := by (try clear j425); (try clear j394); (try clear j230); (try clear hr_block); (try clear hf_block); grind (ematch := 30) (gen := 40) (splits := 15) [→ CF_nc, → CS_nc, → AF_na, → OH_no, → CS_step, → CS_CF, AF_nf, AQ_o, CS_nf, q_zz, q_za, q_zga, q_fza, q_fx, q_fga, q_gza, q_gfa, q_gx, q_zf1, q_zg1, q_ff, q_fg1, q_gf1, q_gg, AV_i, → CD_nc, CD_nf, ← CD_CS, → PD_np, → TM_nt, → TM_tr, ti_link]
    have aS52 : AF nx ((S50.2.1 10) (ix (S50.1 12))).toInt S52 := by (try clear j425); (try clear j394); (try clear j230); (try clear hr_block); (try clear hf_block); grind (ematch := 30) (gen := 40) (splits := 15) [→ CF_nc, → CS_nc, → AF_na, → OH_no, → CS_step, → CS_CF, AF_nf, AQ_o, CS_nf, q_zz, q_za, q_zga, q_fza, q_fx, q_fga, q_gza, q_gfa, q_gx, q_zf1, q_zg1, q_ff, q_fg1, q_gf1, q_gg, AV_i, → CD_nc, CD_nf, ← CD_CS, → PD_np, → TM_nt, → TM_tr, ti_link]
    refine fm_emit _ _ _ _ _ _ (fun S53 r53 hF8 pS53 => ?_) (sg_emit (nx := nx) _ _ _ (by (try clear hC hA hO hP hk hE tS0 aS49 uS49 tf49 cS49 pin49 oS49_ h qS50 tf50 uS50 dS51 tS51 nS51 mS51 oS51 dS52 tS52 nS52 mS52 oS52 tf52 cS52 aS52); (try clear j425); (try clear j394); (try clear j230); (try clear hr_block); (try clear hf_block); grind -mbtc (splits := 20) (gen := 40) (ematch := 20) [SI, PT, WB_ad2, WB_fi, WB_nf, LA_n, LA_p, OR1, B01, XI, PI, PJ, BU, LV, LA_i, q_zz, q_za, q_zga, q_fza, q_fx, q_fga, q_gza, q_gfa, q_gx, q_zf1, q_zg1, q_ff, q_fg1, q_gf1, q_gg, ti_link, in1000]))
    obtain ⟨pS53, qS53⟩ := pS53
    have tS53 : NT S52 S53 := NT_fr hF8 (by decide) (by decide)
    have fS53 : S53.1 4 = 0 → S52.1 4 = 0 := fun q => (hF8.1 4 (by decide)).symm.trans q
    have dS53 : NP S52 S53 := NP_fr hF8 (by decide) (by decide) fS53
    have mS53 : NA S52 S53 := NA_fr hF8 (by decide) (by decide) fS53
    have z3_S53 := hF8.1 3 (by decide)
    have z4_S53 := hF8.1 4 (by decide)
    have z6_S53 := hF8.1 6 (by decide)
    have z8_S53 := hF8.1 8 (by decide)
    have z9_S53 := hF8.1 9 (by decide)
    have z10_S53 := hF8.1 10 (by decide)
    have z11_S53 := hF8.1 11 (by decide)
    have z12_S53 := hF8.1 12 (by decide)
    have z13_S53 := hF8.1 13 (by decide)
    have z15_S53 := hF8.1 15 (by decide)
    have z17_S53 := hF8.1 17 (by decide)
    have z18_S53 := hF8.1 18 (by decide)
    have z19_S53 := hF8.1 19 (by decide)
    have z20_S53 := hF8.1 20 (by decide)
    have z16_S53 := hF8.1 16 (by decide)
    have f1_S53 := hF8.2.1 1 (by decide)
    have f1a_S53 := Fr_fa hF8 1 (by decide)
    have f2_S53 := hF8.2.1 2 (by decide)
    have f2a_S53 := Fr_fa hF8 2 (by decide)
    have f8_S53 := hF8.2.1 8 (by decide)
    have f8a_S53 := Fr_fa hF8 8 (by decide)
    have f10_S53 := hF8.2.1 10 (by decide)
    have f10a_S53 := Fr_fa hF8 10 (by decide)
    have f25_S53 := hF8.2.1 25 (by decide)
    have f25a_S53 := Fr_fa hF8 25 (by decide)
    have f28_S53 := hF8.2.1 28 (by decide)
    have f28a_S53 := Fr_fa hF8 28 (by decide)
    have f35_S53 := hF8.2.1 35 (by decide)
    have f35a_S53 := Fr_fa hF8 35 (by decide)
    have f36_S53 := hF8.2.1 36 (by decide)
    have f36a_S53 := Fr_fa hF8 36 (by decide)
    have f45_S53 := hF8.2.1 45 (by decide)
    have f45a_S53 := Fr_fa hF8 45 (by decide)
    have f46_S53 := hF8.2.1 46 (by decide)
    have f46a_S53 := Fr_fa hF8 46 (by decide)
    have f48_S53 := hF8.2.1 48 (by decide)
    have f48a_S53 := Fr_fa hF8 48 (by decide)
    have f40_S53 := hF8.2.1 40 (by decide)
    have f40a_S53 := Fr_fa hF8 40 (by decide)
    have f41_S53 := hF8.2.1 41 (by decide)
    have f41a_S53 := Fr_fa hF8 41 (by decide)
    have f42_S53 := hF8.2.1 42 (by decide)
    have f42a_S53 := Fr_fa hF8 42 (by decide)
    have f44_S53 := hF8.2.1 44 (by decide)
    have f44a_S53 := Fr_fa hF8 44 (by decide)
    have f29_S53 := hF8.2.1 29 (by decide)
    have f29a_S53 := Fr_fa hF8 29 (by decide)
    have f27_S53 := hF8.2.1 27 (by decide)
    have f27a_S53 := Fr_fa hF8 27 (by decide)
    have f37_S53 := hF8.2.1 37 (by decide)
    have f37a_S53 := Fr_fa hF8 37 (by decide)
    have f38_S53 := hF8.2.1 38 (by decide)
    have f38a_S53 := Fr_fa hF8 38 (by decide)
    have g3_S53 := hF8.2.2 3 (by decide)
    have g3a_S53 := Fr_ga hF8 3 (by decide)
    have g4_S53 := hF8.2.2 4 (by decide)
    have g4a_S53 := Fr_ga hF8 4 (by decide)
    clear hF8
    have cS53 : CD nx ((ix x1, 3, (0 : Int32)) :: kL) (S52.1 9).toInt (S52.1 10).toInt S53 := CD_fin qS53.1 cS52 ⟨by (try clear hC hA hO hP hk hE tS0 aS49 uS49 tf49 cS49 pin49 oS49_ h qS50 tf50 uS50 dS51 tS51 nS51 mS51 oS51 dS52 tS52 nS52 mS52 oS52 tf52 cS52 aS52 qS53 tS53 dS53 mS53); (try clear j425); (try clear j394); (try clear j230); (try clear hr_block); (try clear hf_block); grind -mbtc (splits := 20) (gen := 40) (ematch := 20) [SI, PT, WB_ad2, WB_fi, WB_nf, LA_n, LA_p, OR1, B01, XI, PI, PJ, BU, LV, LA_i, q_zz, q_za, q_zga, q_fza, q_fx, q_fga, q_gza, q_gfa, q_gx, q_zf1, q_zg1, q_ff, q_fg1, q_gf1, q_gg, ti_link, in1000], tf52.2.2.2.2.2.2.1⟩
    have aS53 : AF nx ((S50.2.1 10) (ix (S50.1 12))).toInt S53 := AF_na mS53 aS52
    have tf53 : TF nx S x1 S53 := TF_np tf52 dS53
    refine fm_act _ _ _ _ _ (fun S54 r54 hF9 pS54 => ?_) (sgv_act (nx := nx) _ _ (by (try clear hC hA hO hP hk hE tS0 aS49 uS49 tf49 cS49 pin49 oS49_ h qS50 tf50 uS50 dS51 tS51 nS51 mS51 oS51 dS52 tS52 nS52 mS52 oS52 tf52 cS52 aS52 qS53 tS53 dS53 mS53 cS53 aS53 tf53); (try clear j425); (try clear j394); (try clear j230); (try clear hr_block); (try clear hf_block); grind -mbtc (splits := 20) (gen := 40) (ematch := 20) [SI, PT, WB_ad2, WB_fi, WB_nf, LA_n, LA_p, OR1, B01, XI, PI, PJ, BU, LV, LA_i, q_zz, q_za, q_zga, q_fza, q_fx, q_fga, q_gza, q_gfa, q_gx, q_zf1, q_zg1, q_ff, q_fg1, q_gf1, q_gg, ti_link, in1000]))
    obtain ⟨pS54, qS54⟩ := pS54
    have tS54 : NT S53 S54 := NT_fr hF9 (by decide) (by decide)
    have fS54 : S54.1 4 = 0 → S53.1 4 = 0 := fun q => (hF9.1 4 (by decide)).symm.trans q
    have dS54 : NP S53 S54 := NP_fr hF9 (by decide) (by decide) fS54
    have nS54 : NC S53 S54 := NC_fr hF9 (by decide) (by decide) fS54
    have z3_S54 := hF9.1 3 (by decide)
    have z4_S54 := hF9.1 4 (by decide)
    have z6_S54 := hF9.1 6 (by decide)
    have z7_S54 := hF9.1 7 (by decide)
    have z9_S54 := hF9.1 9 (by decide)
    have z10_S54 := hF9.1 10 (by decide)
    have z11_S54 := hF9.1 11 (by decide)
    have z12_S54 := hF9.1 12 (by decide)
    have z13_S54 := hF9.1 13 (by decide)
    have z15_S54 := hF9.1 15 (by decide)
    have z17_S54 := hF9.1 17 (by decide)
    have z18_S54 := hF9.1 18 (by decide)
    have z19_S54 := hF9.1 19 (by decide)
    have z20_S54 := hF9.1 20 (by decide)
    have z16_S54 := hF9.1 16 (by decide)
    have f1_S54 := hF9.2.1 1 (by decide)
    have f1a_S54 := Fr_fa hF9 1 (by decide)
    have f2_S54 := hF9.2.1 2 (by decide)
    have f2a_S54 := Fr_fa hF9 2 (by decide)
    have f8_S54 := hF9.2.1 8 (by decide)
    have f8a_S54 := Fr_fa hF9 8 (by decide)
    have f10_S54 := hF9.2.1 10 (by decide)
    have f10a_S54 := Fr_fa hF9 10 (by decide)
    have f25_S54 := hF9.2.1 25 (by decide)
    have f25a_S54 := Fr_fa hF9 25 (by decide)
    have f28_S54 := hF9.2.1 28 (by decide)
    have f28a_S54 := Fr_fa hF9 28 (by decide)
    have f35_S54 := hF9.2.1 35 (by decide)
    have f35a_S54 := Fr_fa hF9 35 (by decide)
    have f36_S54 := hF9.2.1 36 (by decide)
    have f36a_S54 := Fr_fa hF9 36 (by decide)
    have f45_S54 := hF9.2.1 45 (by decide)
    have f45a_S54 := Fr_fa hF9 45 (by decide)
    have f46_S54 := hF9.2.1 46 (by decide)
    have f46a_S54 := Fr_fa hF9 46 (by decide)
    have f48_S54 := hF9.2.1 48 (by decide)
    have f48a_S54 := Fr_fa hF9 48 (by decide)
    have f40_S54 := hF9.2.1 40 (by decide)
    have f40a_S54 := Fr_fa hF9 40 (by decide)
    have f41_S54 := hF9.2.1 41 (by decide)
    have f41a_S54 := Fr_fa hF9 41 (by decide)
    have f42_S54 := hF9.2.1 42 (by decide)
    have f42a_S54 := Fr_fa hF9 42 (by decide)
    have f44_S54 := hF9.2.1 44 (by decide)
    have f44a_S54 := Fr_fa hF9 44 (by decide)
    have f29_S54 := hF9.2.1 29 (by decide)
    have f29a_S54 := Fr_fa hF9 29 (by decide)
    have f27_S54 := hF9.2.1 27 (by decide)
    have f27a_S54 := Fr_fa hF9 27 (by decide)
    have f37_S54 := hF9.2.1 37 (by decide)
    have f37a_S54 := Fr_fa hF9 37 (by decide)
    have f38_S54 := hF9.2.1 38 (by decide)
    have f38a_S54 := Fr_fa hF9 38 (by decide)
    have g3_S54 := hF9.2.2 3 (by decide)
    have g3a_S54 := Fr_ga hF9 3 (by decide)
    have g4_S54 := hF9.2.2 4 (by decide)
    have g4a_S54 := Fr_ga hF9 4 (by decide)
    clear hF9
    have aS54 : AF nx ((S50.2.1 10) (ix (S50.1 12))).toInt S54 := qS54.2.1 _ aS53 (AQ_t ⟨by (try clear hC hA hO hP hk hE tS0 aS49 uS49 tf49 cS49 pin49 oS49_ h qS50 tf50 uS50 dS51 tS51 nS51 mS51 oS51 dS52 tS52 nS52 mS52 oS52 tf52 cS52 aS52 qS53 tS53 dS53 mS53 cS53 aS53 tf53 qS54 tS54 dS54 nS54); (try clear j425); (try clear j394); (try clear j230); (try clear hr_block); (try clear hf_block); grind -mbtc (splits := 20) (gen := 40) (ematch := 20) [SI, PT, WB_ad2, WB_fi, WB_nf, LA_n, LA_p, OR1, B01, XI, PI, PJ, BU, LV, LA_i, q_zz, q_za, q_zga, q_fza, q_fx, q_fga, q_gza, q_gfa, q_gx, q_zf1, q_zg1, q_ff, q_fg1, q_gf1, q_gg, ti_link, in1000], tf53.2.2.2.2.2.2.1⟩)
    have vS54 : AV nx S54 r54 := AV_i (by (try clear hC hA hO hP hk hE tS0 aS49 uS49 tf49 cS49 pin49 oS49_ h qS50 tf50 uS50 dS51 tS51 nS51 mS51 oS51 dS52 tS52 nS52 mS52 oS52 tf52 cS52 aS52 qS53 tS53 dS53 mS53 cS53 aS53 tf53 qS54 tS54 dS54 nS54 aS54); (try clear j425); (try clear j394); (try clear j230); (try clear hr_block); (try clear hf_block); grind -mbtc (splits := 20) (gen := 40) (ematch := 20) [SI, PT, WB_ad2, WB_fi, WB_nf, LA_n, LA_p, OR1, B01, XI, PI, PJ, BU, LV, LA_i, q_zz, q_za, q_zga, q_fza, q_fx, q_fga, q_gza, q_gfa, q_gx, q_zf1, q_zg1, q_ff, q_fg1, q_gf1, q_gg, ti_link, in1000]) (by (try clear hC hA hO hP hk hE tS0 aS49 uS49 tf49 cS49 pin49 oS49_ h qS50 tf50 uS50 dS51 tS51 nS51 mS51 oS51 dS52 tS52 nS52 mS52 oS52 tf52 cS52 aS52 qS53 tS53 dS53 mS53 cS53 aS53 tf53 qS54 tS54 dS54 nS54 aS54); (try clear j425); (try clear j394); (try clear j230); (try clear hr_block); (try clear hf_block); grind -mbtc (splits := 20) (gen := 40) (ematch := 20) [SI, PT, WB_ad2, WB_fi, WB_nf, LA_n, LA_p, OR1, B01, XI, PI, PJ, BU, LV, LA_i, q_zz, q_za, q_zga, q_fza, q_fx, q_fga, q_gza, q_gfa, q_gx, q_zf1, q_zg1, q_ff, q_fg1, q_gf1, q_gg, ti_link, in1000])
    have tf54 : TF nx S x1 S54 := TF_np tf53 dS54
    have uS54 : TM S S54 := by (try clear j425); (try clear j394); (try clear j230); (try clear hr_block); (try clear hf_block); grind (ematch := 30) (gen := 40) (splits := 15) [→ CF_nc, → CS_nc, → AF_na, → OH_no, → CS_step, → CS_CF, AF_nf, AQ_o, CS_nf, q_zz, q_za, q_zga, q_fza, q_fx, q_fga, q_gza, q_gfa, q_gx, q_zf1, q_zg1, q_ff, q_fg1, q_gf1, q_gg, AV_i, → CD_nc, CD_nf, ← CD_CS, → PD_np, → TM_nt, → TM_tr, ti_link]
    have cS54 : CD nx ((ix x1, 3, (0 : Int32)) :: kL) (S54.1 9).toInt (S54.1 10).toInt S54 := by (try clear j425); (try clear j394); (try clear j230); (try clear hr_block); (try clear hf_block); grind (ematch := 30) (gen := 40) (splits := 15) [→ CF_nc, → CS_nc, → AF_na, → OH_no, → CS_step, → CS_CF, AF_nf, AQ_o, CS_nf, q_zz, q_za, q_zga, q_fza, q_fx, q_fga, q_gza, q_gfa, q_gx, q_zf1, q_zg1, q_ff, q_fg1, q_gf1, q_gg, AV_i, → CD_nc, CD_nf, ← CD_CS, → PD_np, → TM_nt, → TM_tr, ti_link]
    have oS54_ : OH nx S0 S54 := by (try clear j425); (try clear j394); (try clear j230); (try clear hr_block); (try clear hf_block); grind (ematch := 30) (gen := 40) (splits := 15) [→ CF_nc, → CS_nc, → AF_na, → OH_no, → CS_step, → CS_CF, AF_nf, AQ_o, CS_nf, q_zz, q_za, q_zga, q_fza, q_fx, q_fga, q_gza, q_gfa, q_gx, q_zf1, q_zg1, q_ff, q_fg1, q_gf1, q_gg, AV_i, → CD_nc, CD_nf, ← CD_CS, → PD_np, → TM_nt, → TM_tr, ti_link]
    have hs54 : SI nx n so pl wo ws S0 d (G - 10) (GA - 4) (X + 10) (Y + 6) GW GT S54 ∧ ((S54.1 4) = 0 → (S.1 3).toInt < (S54.1 3).toInt) ∧ (S.1 8).toInt ≤ (S54.1 8).toInt ∧ (S.1 10).toInt ≤ (S54.1 10).toInt ∧ x1.toInt < (S54.1 9).toInt ∧ 500 * nx ≤ x1.toInt ∧ (S54.1 13) = (S.1 13) ∧ (S54.1 15) = (S.1 15) ∧ (S54.1 16) = (S.1 16) + 1 ∧ (S54.2.1 10) (ix (S54.1 12)) = (S50.2.1 10) (ix (S50.1 12)) ∧ x1 = (S.1 9) ∧ 12000 * nx ≤ r54.toInt ∧ r54.toInt < 12000 * nx + 12000 := by refine ⟨⟨⟨?_, ?_, ?_, ?_⟩, ?_, ?_, ?_, ?_⟩, ?_, ?_, ?_, ?_, ?_, ?_, ?_, ?_, ?_, ?_, ?_, ?_⟩ <;> ((try clear hC hA hO hP hk hE tS0 aS49 uS49 tf49 cS49 pin49 oS49_ h qS50 tf50 uS50 dS51 tS51 nS51 mS51 oS51 dS52 tS52 nS52 mS52 oS52 tf52 cS52 aS52 qS53 tS53 dS53 mS53 cS53 aS53 tf53 qS54 tS54 dS54 nS54 aS54 vS54 tf54 uS54 cS54 oS54_); (try clear j425); (try clear j394); (try clear j230); (try clear hr_block); (try clear hf_block); grind -mbtc (splits := 20) (gen := 40) (ematch := 20) [SI, PT, WB_ad2, WB_fi, WB_nf, LA_n, LA_p, OR1, B01, XI, PI, PJ, BU, LV, LA_i, q_zz, q_za, q_zga, q_fza, q_fx, q_fga, q_gza, q_gfa, q_gx, q_zf1, q_zg1, q_ff, q_fg1, q_gf1, q_gg, ti_link, in1000])
    (try clear fS54); (try clear fS53); (try clear eS52); (try clear eS51); (try clear nS54); (try clear dS54); (try clear tS54); (try clear qS54); (try clear tf53); (try clear aS53); (try clear cS53); (try clear mS53); (try clear dS53); (try clear tS53); (try clear qS53); (try clear aS52); (try clear cS52); (try clear tf52); (try clear oS52); (try clear mS52); (try clear nS52); (try clear tS52); (try clear dS52); (try clear oS51); (try clear mS51); (try clear nS51); (try clear tS51); (try clear dS51); (try clear uS50); (try clear tf50); (try clear qS50); (try clear oS49_); (try clear pin49); (try clear cS49); (try clear tf49); (try clear uS49); (try clear aS49); (try clear g4a_S54); (try clear g4_S54); (try clear g3a_S54); (try clear g3_S54); (try clear f38a_S54); (try clear f38_S54); (try clear f37a_S54); (try clear f37_S54); (try clear f27a_S54); (try clear f27_S54); (try clear f29a_S54); (try clear f29_S54); (try clear f44a_S54); (try clear f44_S54); (try clear f42a_S54); (try clear f42_S54); (try clear f41a_S54); (try clear f41_S54); (try clear f40a_S54); (try clear f40_S54); (try clear f48a_S54); (try clear f48_S54); (try clear f46a_S54); (try clear f46_S54); (try clear f45a_S54); (try clear f45_S54); (try clear f36a_S54); (try clear f36_S54); (try clear f35a_S54); (try clear f35_S54); (try clear f28a_S54); (try clear f28_S54); (try clear f25a_S54); (try clear f25_S54); (try clear f10a_S54); (try clear f10_S54); (try clear f8a_S54); (try clear f8_S54); (try clear f2a_S54); (try clear f2_S54); (try clear f1a_S54); (try clear f1_S54); (try clear z16_S54); (try clear z20_S54); (try clear z19_S54); (try clear z18_S54); (try clear z17_S54); (try clear z15_S54); (try clear z13_S54); (try clear z12_S54); (try clear z11_S54); (try clear z10_S54); (try clear z9_S54); (try clear z7_S54); (try clear z6_S54); (try clear z4_S54); (try clear z3_S54); (try clear pS54); (try clear g4a_S53); (try clear g4_S53); (try clear g3a_S53); (try clear g3_S53); (try clear f38a_S53); (try clear f38_S53); (try clear f37a_S53); (try clear f37_S53); (try clear f27a_S53); (try clear f27_S53); (try clear f29a_S53); (try clear f29_S53); (try clear f44a_S53); (try clear f44_S53); (try clear f42a_S53); (try clear f42_S53); (try clear f41a_S53); (try clear f41_S53); (try clear f40a_S53); (try clear f40_S53); (try clear f48a_S53); (try clear f48_S53); (try clear f46a_S53); (try clear f46_S53); (try clear f45a_S53); (try clear f45_S53); (try clear f36a_S53); (try clear f36_S53); (try clear f35a_S53); (try clear f35_S53); (try clear f28a_S53); (try clear f28_S53); (try clear f25a_S53); (try clear f25_S53); (try clear f10a_S53); (try clear f10_S53); (try clear f8a_S53); (try clear f8_S53); (try clear f2a_S53); (try clear f2_S53); (try clear f1a_S53); (try clear f1_S53); (try clear z16_S53); (try clear z20_S53); (try clear z19_S53); (try clear z18_S53); (try clear z17_S53); (try clear z15_S53); (try clear z13_S53); (try clear z12_S53); (try clear z11_S53); (try clear z10_S53); (try clear z9_S53); (try clear z8_S53); (try clear z6_S53); (try clear z4_S53); (try clear z3_S53); (try clear pS53); (try clear g4a_S50); (try clear g4_S50); (try clear g3a_S50); (try clear g3_S50); (try clear f2a_S50); (try clear f2_S50); (try clear f1a_S50); (try clear f1_S50); (try clear z12_S50); (try clear z6_S50); (try clear pS50); (try clear hs49)
    refine fm_lead _ _ _ _ (fun S55 hF10 pS55 => ?_) (sgv_lead (nx := nx) _ (by (try clear hC hA hO hP hk hE tS0 aS54 vS54 tf54 uS54 cS54 oS54_); (try clear j425); (try clear j394); (try clear j230); (try clear hr_block); (try clear hf_block); grind -mbtc (splits := 20) (gen := 40) (ematch := 20) [SI, PT, WB_ad2, WB_fi, WB_nf, LA_n, LA_p, OR1, B01, XI, PI, PJ, BU, LV, LA_i, q_zz, q_za, q_zga, q_fza, q_fx, q_fga, q_gza, q_gfa, q_gx, q_zf1, q_zg1, q_ff, q_fg1, q_gf1, q_gg, ti_link, in1000]))
    obtain ⟨pS55, qS55⟩ := pS55
    have tS55 : NT S54 S55 := NT_fr hF10 (by decide) (by decide)
    have fS55 : S55.1 4 = 0 → S54.1 4 = 0 := fun q => (hF10.1 4 (by decide)).symm.trans q
    have dS55 : NP S54 S55 := NP_fr hF10 (by decide) (by decide) fS55
    have nS55 : NC S54 S55 := NC_fr hF10 (by decide) (by decide) fS55
    have z3_S55 := hF10.1 3 (by decide)
    have z4_S55 := hF10.1 4 (by decide)
    have z6_S55 := hF10.1 6 (by decide)
    have z7_S55 := hF10.1 7 (by decide)
    have z8_S55 := hF10.1 8 (by decide)
    have z9_S55 := hF10.1 9 (by decide)
    have z10_S55 := hF10.1 10 (by decide)
    have z11_S55 := hF10.1 11 (by decide)
    have z12_S55 := hF10.1 12 (by decide)
    have z13_S55 := hF10.1 13 (by decide)
    have z15_S55 := hF10.1 15 (by decide)
    have z17_S55 := hF10.1 17 (by decide)
    have z18_S55 := hF10.1 18 (by decide)
    have z19_S55 := hF10.1 19 (by decide)
    have z20_S55 := hF10.1 20 (by decide)
    have z16_S55 := hF10.1 16 (by decide)
    have f1_S55 := hF10.2.1 1 (by decide)
    have f1a_S55 := Fr_fa hF10 1 (by decide)
    have f2_S55 := hF10.2.1 2 (by decide)
    have f2a_S55 := Fr_fa hF10 2 (by decide)
    have f8_S55 := hF10.2.1 8 (by decide)
    have f8a_S55 := Fr_fa hF10 8 (by decide)
    have f10_S55 := hF10.2.1 10 (by decide)
    have f10a_S55 := Fr_fa hF10 10 (by decide)
    have f25_S55 := hF10.2.1 25 (by decide)
    have f25a_S55 := Fr_fa hF10 25 (by decide)
    have f28_S55 := hF10.2.1 28 (by decide)
    have f28a_S55 := Fr_fa hF10 28 (by decide)
    have f35_S55 := hF10.2.1 35 (by decide)
    have f35a_S55 := Fr_fa hF10 35 (by decide)
    have f36_S55 := hF10.2.1 36 (by decide)
    have f36a_S55 := Fr_fa hF10 36 (by decide)
    have f45_S55 := hF10.2.1 45 (by decide)
    have f45a_S55 := Fr_fa hF10 45 (by decide)
    have f46_S55 := hF10.2.1 46 (by decide)
    have f46a_S55 := Fr_fa hF10 46 (by decide)
    have f48_S55 := hF10.2.1 48 (by decide)
    have f48a_S55 := Fr_fa hF10 48 (by decide)
    have f40_S55 := hF10.2.1 40 (by decide)
    have f40a_S55 := Fr_fa hF10 40 (by decide)
    have f41_S55 := hF10.2.1 41 (by decide)
    have f41a_S55 := Fr_fa hF10 41 (by decide)
    have f42_S55 := hF10.2.1 42 (by decide)
    have f42a_S55 := Fr_fa hF10 42 (by decide)
    have f44_S55 := hF10.2.1 44 (by decide)
    have f44a_S55 := Fr_fa hF10 44 (by decide)
    have f29_S55 := hF10.2.1 29 (by decide)
    have f29a_S55 := Fr_fa hF10 29 (by decide)
    have f27_S55 := hF10.2.1 27 (by decide)
    have f27a_S55 := Fr_fa hF10 27 (by decide)
    have f37_S55 := hF10.2.1 37 (by decide)
    have f37a_S55 := Fr_fa hF10 37 (by decide)
    have f38_S55 := hF10.2.1 38 (by decide)
    have f38a_S55 := Fr_fa hF10 38 (by decide)
    have g3_S55 := hF10.2.2 3 (by decide)
    have g3a_S55 := Fr_ga hF10 3 (by decide)
    have g4_S55 := hF10.2.2 4 (by decide)
    have g4a_S55 := Fr_ga hF10 4 (by decide)
    clear hF10
    have aS55 : AF nx ((S50.2.1 10) (ix (S50.1 12))).toInt S55 := qS55.2.1 _ aS54 vS54
    have vS55 : AV nx S55 r54 := AV_m vS54 (by (try clear hC hA hO hP hk hE tS0 aS54 vS54 tf54 uS54 cS54 oS54_ qS55 tS55 dS55 nS55 aS55); (try clear j425); (try clear j394); (try clear j230); (try clear hr_block); (try clear hf_block); grind -mbtc (splits := 20) (gen := 40) (ematch := 20) [SI, PT, WB_ad2, WB_fi, WB_nf, LA_n, LA_p, OR1, B01, XI, PI, PJ, BU, LV, LA_i, q_zz, q_za, q_zga, q_fza, q_fx, q_fga, q_gza, q_gfa, q_gx, q_zf1, q_zg1, q_ff, q_fg1, q_gf1, q_gg, ti_link, in1000]) (by (try clear hC hA hO hP hk hE tS0 aS54 vS54 tf54 uS54 cS54 oS54_ qS55 tS55 dS55 nS55 aS55); (try clear j425); (try clear j394); (try clear j230); (try clear hr_block); (try clear hf_block); grind -mbtc (splits := 20) (gen := 40) (ematch := 20) [SI, PT, WB_ad2, WB_fi, WB_nf, LA_n, LA_p, OR1, B01, XI, PI, PJ, BU, LV, LA_i, q_zz, q_za, q_zga, q_fza, q_fx, q_fga, q_gza, q_gfa, q_gx, q_zf1, q_zg1, q_ff, q_fg1, q_gf1, q_gg, ti_link, in1000])
    intro S56 eS56
    have lS56 : ∀ m : Int, AV nx S55 r54 → AF nx m S55 → AF nx m S56 := fun m h8 h9 => AF_lv eS56 h8 h9
    have dS56 : NP S55 S56 := NP_z eS56 (by decide)
    have tS56 : NT S55 S56 := NT_z eS56 (by decide)
    have nS56 : NC S55 S56 := NC_z eS56 (by decide)
    have oS56 : NO nx S55 S56 := NO_z eS56
    have aS56 : AF nx ((S50.2.1 10) (ix (S50.1 12))).toInt S56 := AF_lv eS56 vS55 aS55
    have tf56 : TF nx S x1 S56 := TF_np (TF_np tf54 dS55) dS56
    refine ⟨by (try clear hC hA hO hP hk hE tS0 aS54 vS54 tf54 uS54 cS54 oS54_ qS55 tS55 dS55 nS55 aS55 vS55 lS56 dS56 tS56 nS56 oS56 aS56 tf56); (try clear j425); (try clear j394); (try clear j230); (try clear hr_block); (try clear hf_block); grind -mbtc (splits := 20) (gen := 40) (ematch := 20) [SI, PT, WB_ad2, WB_fi, WB_nf, LA_n, LA_p, OR1, B01, XI, PI, PJ, BU, LV, LA_i, q_zz, q_za, q_zga, q_fza, q_fx, q_fga, q_gza, q_gfa, q_gx, q_zf1, q_zg1, q_ff, q_fg1, q_gf1, q_gg, ti_link, in1000], ?_⟩
    intro z57 ez57
    have vz57 : AV nx S56 z57 := by
          rw [ez57]
          exact AV_tb (w := x1) aS56 (by (try clear hC hA hO hP hk hE tS0 aS54 vS54 tf54 uS54 cS54 oS54_ qS55 tS55 dS55 nS55 aS55 vS55 lS56 dS56 tS56 nS56 oS56 aS56 tf56); (try clear j425); (try clear j394); (try clear j230); (try clear hr_block); (try clear hf_block); grind -mbtc (splits := 20) (gen := 40) (ematch := 20) [SI, PT, WB_ad2, WB_fi, WB_nf, LA_n, LA_p, OR1, B01, XI, PI, PJ, BU, LV, LA_i, q_zz, q_za, q_zga, q_fza, q_fx, q_fga, q_gza, q_gfa, q_gx, q_zf1, q_zg1, q_ff, q_fg1, q_gf1, q_gg, ti_link, in1000]) tf56.2.2.2.2.2.2.1
    refine fm_lead _ _ _ _ (fun S58 hF11 pS58 => ?_) (sgv_lead (nx := nx) _ (by (try clear hC hA hO hP hk hE tS0 aS54 vS54 tf54 uS54 cS54 oS54_ qS55 tS55 dS55 nS55 aS55 vS55 lS56 dS56 tS56 nS56 oS56 aS56 tf56 vz57); (try clear j425); (try clear j394); (try clear j230); (try clear hr_block); (try clear hf_block); grind -mbtc (splits := 20) (gen := 40) (ematch := 20) [SI, PT, WB_ad2, WB_fi, WB_nf, LA_n, LA_p, OR1, B01, XI, PI, PJ, BU, LV, LA_i, q_zz, q_za, q_zga, q_fza, q_fx, q_fga, q_gza, q_gfa, q_gx, q_zf1, q_zg1, q_ff, q_fg1, q_gf1, q_gg, ti_link, in1000]))
    obtain ⟨pS58, qS58⟩ := pS58
    have tS58 : NT S56 S58 := NT_fr hF11 (by decide) (by decide)
    have fS58 : S58.1 4 = 0 → S56.1 4 = 0 := fun q => (hF11.1 4 (by decide)).symm.trans q
    have dS58 : NP S56 S58 := NP_fr hF11 (by decide) (by decide) fS58
    have nS58 : NC S56 S58 := NC_fr hF11 (by decide) (by decide) fS58
    have z3_S58 := hF11.1 3 (by decide)
    have z4_S58 := hF11.1 4 (by decide)
    have z6_S58 := hF11.1 6 (by decide)
    have z7_S58 := hF11.1 7 (by decide)
    have z8_S58 := hF11.1 8 (by decide)
    have z9_S58 := hF11.1 9 (by decide)
    have z10_S58 := hF11.1 10 (by decide)
    have z11_S58 := hF11.1 11 (by decide)
    have z12_S58 := hF11.1 12 (by decide)
    have z13_S58 := hF11.1 13 (by decide)
    have z15_S58 := hF11.1 15 (by decide)
    have z17_S58 := hF11.1 17 (by decide)
    have z18_S58 := hF11.1 18 (by decide)
    have z19_S58 := hF11.1 19 (by decide)
    have z20_S58 := hF11.1 20 (by decide)
    have z16_S58 := hF11.1 16 (by decide)
    have f1_S58 := hF11.2.1 1 (by decide)
    have f1a_S58 := Fr_fa hF11 1 (by decide)
    have f2_S58 := hF11.2.1 2 (by decide)
    have f2a_S58 := Fr_fa hF11 2 (by decide)
    have f8_S58 := hF11.2.1 8 (by decide)
    have f8a_S58 := Fr_fa hF11 8 (by decide)
    have f10_S58 := hF11.2.1 10 (by decide)
    have f10a_S58 := Fr_fa hF11 10 (by decide)
    have f25_S58 := hF11.2.1 25 (by decide)
    have f25a_S58 := Fr_fa hF11 25 (by decide)
    have f28_S58 := hF11.2.1 28 (by decide)
    have f28a_S58 := Fr_fa hF11 28 (by decide)
    have f35_S58 := hF11.2.1 35 (by decide)
    have f35a_S58 := Fr_fa hF11 35 (by decide)
    have f36_S58 := hF11.2.1 36 (by decide)
    have f36a_S58 := Fr_fa hF11 36 (by decide)
    have f45_S58 := hF11.2.1 45 (by decide)
    have f45a_S58 := Fr_fa hF11 45 (by decide)
    have f46_S58 := hF11.2.1 46 (by decide)
    have f46a_S58 := Fr_fa hF11 46 (by decide)
    have f48_S58 := hF11.2.1 48 (by decide)
    have f48a_S58 := Fr_fa hF11 48 (by decide)
    have f40_S58 := hF11.2.1 40 (by decide)
    have f40a_S58 := Fr_fa hF11 40 (by decide)
    have f41_S58 := hF11.2.1 41 (by decide)
    have f41a_S58 := Fr_fa hF11 41 (by decide)
    have f42_S58 := hF11.2.1 42 (by decide)
    have f42a_S58 := Fr_fa hF11 42 (by decide)
    have f44_S58 := hF11.2.1 44 (by decide)
    have f44a_S58 := Fr_fa hF11 44 (by decide)
    have f29_S58 := hF11.2.1 29 (by decide)
    have f29a_S58 := Fr_fa hF11 29 (by decide)
    have f27_S58 := hF11.2.1 27 (by decide)
    have f27a_S58 := Fr_fa hF11 27 (by decide)
    have f37_S58 := hF11.2.1 37 (by decide)
    have f37a_S58 := Fr_fa hF11 37 (by decide)
    have f38_S58 := hF11.2.1 38 (by decide)
    have f38a_S58 := Fr_fa hF11 38 (by decide)
    have g3_S58 := hF11.2.2 3 (by decide)
    have g3a_S58 := Fr_ga hF11 3 (by decide)
    have g4_S58 := hF11.2.2 4 (by decide)
    have g4a_S58 := Fr_ga hF11 4 (by decide)
    clear hF11
    have aS58 : AF nx ((S50.2.1 10) (ix (S50.1 12))).toInt S58 := qS58.2.1 _ aS56 vz57
    have tf58 : TF nx S x1 S58 := TF_np tf56 dS58
    have uS58 : TM S S58 := by (try clear j425); (try clear j394); (try clear j230); (try clear hr_block); (try clear hf_block); grind (ematch := 30) (gen := 40) (splits := 15) [→ CF_nc, → CS_nc, → AF_na, → OH_no, → CS_step, → CS_CF, AF_nf, AQ_o, CS_nf, q_zz, q_za, q_zga, q_fza, q_fx, q_fga, q_gza, q_gfa, q_gx, q_zf1, q_zg1, q_ff, q_fg1, q_gf1, q_gg, AV_i, → CD_nc, CD_nf, ← CD_CS, → PD_np, → TM_nt, → TM_tr, ti_link]
    have cS58 : CD nx ((ix x1, 3, (0 : Int32)) :: kL) (S58.1 9).toInt (S58.1 10).toInt S58 := by (try clear j425); (try clear j394); (try clear j230); (try clear hr_block); (try clear hf_block); grind (ematch := 30) (gen := 40) (splits := 15) [→ CF_nc, → CS_nc, → AF_na, → OH_no, → CS_step, → CS_CF, AF_nf, AQ_o, CS_nf, q_zz, q_za, q_zga, q_fza, q_fx, q_fga, q_gza, q_gfa, q_gx, q_zf1, q_zg1, q_ff, q_fg1, q_gf1, q_gg, AV_i, → CD_nc, CD_nf, ← CD_CS, → PD_np, → TM_nt, → TM_tr, ti_link]
    exact j425 _ _ (⟨by refine ⟨⟨⟨?_, ?_, ?_, ?_⟩, ?_, ?_, ?_, ?_⟩, ?_, ?_, ?_, ?_, ?_, ?_, ?_, ?_, ?_⟩ <;> ((try clear hC hA hO hP hk hE tS0 aS54 vS54 tf54 uS54 cS54 oS54_ qS55 tS55 dS55 nS55 aS55 vS55 lS56 dS56 tS56 nS56 oS56 aS56 tf56 vz57 qS58 tS58 dS58 nS58 aS58 tf58 uS58 cS58); (try clear j425); (try clear j394); (try clear j230); (try clear hr_block); (try clear hf_block); grind -mbtc (splits := 20) (gen := 40) (ematch := 20) [SI, PT, WB_ad2, WB_fi, WB_nf, LA_n, LA_p, OR1, B01, XI, PI, PJ, BU, LV, LA_i, q_zz, q_za, q_zga, q_fza, q_fx, q_fga, q_gza, q_gfa, q_gx, q_zf1, q_zg1, q_ff, q_fg1, q_gf1, q_gg, ti_link, in1000]), by refine ⟨?_, ?_, ?_, ?_, ?_⟩ <;> ((try clear j425); (try clear j394); (try clear j230); (try clear hr_block); (try clear hf_block); grind (ematch := 30) (gen := 40) (splits := 15) [→ CF_nc, → CS_nc, → AF_na, → OH_no, → CS_step, → CS_CF, AF_nf, AQ_o, CS_nf, q_zz, q_za, q_zga, q_fza, q_fx, q_fga, q_gza, q_gfa, q_gx, q_zf1, q_zg1, q_ff, q_fg1, q_gf1, q_gg, AV_i, → CD_nc, CD_nf, ← CD_CS, → PD_np, → TM_nt, → TM_tr, ti_link])⟩)
