
set_option maxHeartbeats 4000000 in
theorem sg_inBlock {nx n : Nat} {so pl : Nat → Int32} {wo ws : Nat → Int64} {S0 : mS} {D d : Nat} {G GA X Y GW GT : Int} {kL : LT3} {kd : Int} {r_block : mS → (mS → Prop) → Prop} (hf_block : FmV [3, 4, 7, 8, 9, 10, 11, 13, 14, 15, 16, 17, 18, 19, 20] [8, 10, 12, 13, 14, 15, 16, 17, 18, 19, 20, 21, 24, 25, 26, 27, 28, 29, 30, 31, 32, 33, 34, 35, 36, 37, 38, 39, 40, 41, 42, 43, 44, 45, 46, 47, 48] [9] (r_block)) (hr_block : ∀ (d : Nat) (G GA X Y GW GT : Int) (kL : LT3) (kd : Int) (S : mS), D ≤ d → LV d G GA X Y → X ≤ 1800 ∧ Y ≤ 900 → GW ≤ (d : Int) - 10 ∧ GT ≤ 6 * (d : Int) + 6 → SI nx n so pl wo ws S0 d G GA X Y GW GT S → (CS nx kL (S.1 9).toInt (S.1 10).toInt (S.1 13) S) → (AF nx ((S.2.1 10) (ix (S.1 12))).toInt S) → (OH nx S0 S) → (PD nx kd S) → (kd ≤ (d : Int)) → r_block S (fun S1 => (SI nx n so pl wo ws S0 d (G - 10) (GA - 4) X Y (GW - 2) (GT - 2) S1 ∧ ((S1.1 4) = 0 → (S.1 4) = 0 ∧ (S.1 3).toInt + 2 ≤ (S1.1 3).toInt) ∧ (S.1 8).toInt ≤ (S1.1 8).toInt ∧ (S.1 9).toInt ≤ (S1.1 9).toInt ∧ (S.1 10).toInt ≤ (S1.1 10).toInt ∧ (S1.1 13) = (S.1 13) ∧ (S1.1 15) = (S.1 15) ∧ (S1.1 16) = (S.1 16)) ∧ (CS nx kL (S1.1 9).toInt (S1.1 10).toInt (S1.1 13) S1 ∧ AF nx ((S1.2.1 10) (ix (S1.1 12))).toInt S1 ∧ OH nx S0 S1 ∧ PD nx kd S1 ∧ TM S S1))) (a0 : Int32) (a1 : Int32) {S : mS} (hL : LV d G GA X Y) (h : SI nx n so pl wo ws S0 d G GA X Y GW GT S) (hX : X ≤ 1800 ∧ Y ≤ 900) (hW : GW ≤ (d : Int) - 10 ∧ GT ≤ 6 * (d : Int) + 6) (hD : D ≤ d) (ha : 500 * nx ≤ a0.toInt ∧ a0.toInt < (S.1 9).toInt) (hC : CS nx kL (S.1 9).toInt (S.1 10).toInt a0 S) (hA : AF nx ((S.2.1 10) (ix (S.1 12))).toInt S) (hO : OH nx S0 S) (hP : PD nx kd (sZ (sZ S 13 a0) 14 a1)) (hk : kd ≤ (d : Int)) : wp_inBlock r_block a0 a1 S (fun S1 => (SI nx n so pl wo ws S0 d (G - 10) (GA - 4) X Y (GW - 2) (GT - 2) S1 ∧ ((S1.1 4) = 0 → (S.1 4) = 0 ∧ (S.1 3).toInt + 2 ≤ (S1.1 3).toInt) ∧ (S.1 8).toInt ≤ (S1.1 8).toInt ∧ (S.1 9).toInt ≤ (S1.1 9).toInt ∧ (S.1 10).toInt ≤ (S1.1 10).toInt ∧ (S1.1 13) = (S.1 13) ∧ (S1.1 15) = (S.1 15) ∧ (S1.1 16) = (S.1 16)) ∧ (CS nx kL (S1.1 9).toInt (S1.1 10).toInt a0 S1 ∧ AF nx ((S1.2.1 10) (ix (S1.1 12))).toInt S1 ∧ OH nx S0 S1 ∧ TM S S1)) := by
  have tS0 : TM S S := TM_rf
  unfold wp_inBlock
  intro S1 eS1
  have tS1 : NT S S1 := NT_z eS1 (by decide)
  have nS1 : NC S S1 := NC_z eS1 (by decide)
  have oS1 : NO nx S S1 := NO_z eS1
  have aS1 : AF nx ((S.2.1 10) (ix (S.1 12))).toInt S1 := AF_pt eS1 (by (try clear hC hA hO hP hk tS0 tS1 nS1 oS1); (try clear hr_block); (try clear hf_block); grind (splits := 20) [SI, PT, WB, PLM, XI, PI, PJ, BU, LV, LA_i, OR1, B01, LA_n, ix_int, q_zz, q_za, q_zga, q_fza, q_fx, q_fga, q_gza, q_gfa, q_gx, q_zf1, q_zg1, q_ff, q_fg1, q_gf1, q_gg, ti_link]) hA
  intro S2 eS2
  have dS2 : NP S1 S2 := NP_z eS2 (by decide)
  have tS2 : NT S1 S2 := NT_z eS2 (by decide)
  have nS2 : NC S1 S2 := NC_z eS2 (by decide)
  have mS2 : NA S1 S2 := NA_z eS2 (by decide)
  have oS2 : NO nx S1 S2 := NO_z eS2
  have pS2_ : PD nx kd S2 := by
        rw [eS2, eS1]
        exact hP
  refine hf_block _ _ _ (fun S3 hF1 pS3 => ?_) (hr_block d G GA X Y GW GT kL kd _ (by (try clear hC hA hO hP hk tS0 tS1 nS1 oS1 aS1 dS2 tS2 nS2 mS2 oS2 pS2_); (try clear hr_block); (try clear hf_block); grind (splits := 20) [SI, PT, WB, PLM, XI, PI, PJ, BU, LV, LA_i, OR1, B01, LA_n, ix_int, q_zz, q_za, q_zga, q_fza, q_fx, q_fga, q_gza, q_gfa, q_gx, q_zf1, q_zg1, q_ff, q_fg1, q_gf1, q_gg, ti_link]) (by (try clear hC hA hO hP hk tS0 tS1 nS1 oS1 aS1 dS2 tS2 nS2 mS2 oS2 pS2_); (try clear hr_block); (try clear hf_block); grind (splits := 20) [SI, PT, WB, PLM, XI, PI, PJ, BU, LV, LA_i, OR1, B01, LA_n, ix_int, q_zz, q_za, q_zga, q_fza, q_fx, q_fga, q_gza, q_gfa, q_gx, q_zf1, q_zg1, q_ff, q_fg1, q_gf1, q_gg, ti_link]) (by (try clear hC hA hO hP hk tS0 tS1 nS1 oS1 aS1 dS2 tS2 nS2 mS2 oS2 pS2_); (try clear hr_block); (try clear hf_block); grind (splits := 20) [SI, PT, WB, PLM, XI, PI, PJ, BU, LV, LA_i, OR1, B01, LA_n, ix_int, q_zz, q_za, q_zga, q_fza, q_fx, q_fga, q_gza, q_gfa, q_gx, q_zf1, q_zg1, q_ff, q_fg1, q_gf1, q_gg, ti_link]) (by (try clear hC hA hO hP hk tS0 tS1 nS1 oS1 aS1 dS2 tS2 nS2 mS2 oS2 pS2_); (try clear hr_block); (try clear hf_block); grind (splits := 20) [SI, PT, WB, PLM, XI, PI, PJ, BU, LV, LA_i, OR1, B01, LA_n, ix_int, q_zz, q_za, q_zga, q_fza, q_fx, q_fga, q_gza, q_gfa, q_gx, q_zf1, q_zg1, q_ff, q_fg1, q_gf1, q_gg, ti_link]) (by (try clear hC hA hO hP hk tS0 tS1 nS1 oS1 aS1 dS2 tS2 nS2 mS2 oS2 pS2_); (try clear hr_block); (try clear hf_block); grind (splits := 20) [SI, PT, WB, PLM, XI, PI, PJ, BU, LV, LA_i, OR1, B01, LA_n, ix_int, q_zz, q_za, q_zga, q_fza, q_fx, q_fga, q_gza, q_gfa, q_gx, q_zf1, q_zg1, q_ff, q_fg1, q_gf1, q_gg, ti_link]) (by (try clear hr_block); (try clear hf_block); grind (ematch := 12) (gen := 12) (splits := 15) [→ CF_nc, → CS_nc, → AF_na, → OH_no, → CS_step, → CS_CF, AF_nf, AQ_o, CS_nf, q_zz, q_za, q_zga, q_fza, q_fx, q_fga, q_gza, q_gfa, q_gx, q_zf1, q_zg1, q_ff, q_fg1, q_gf1, q_gg, AV_i, → CD_nc, CD_nf, ← CD_CS, → PD_np, → TM_nt, → TM_tr, ti_link]) (by (try clear hr_block); (try clear hf_block); grind (ematch := 12) (gen := 12) (splits := 15) [→ CF_nc, → CS_nc, → AF_na, → OH_no, → CS_step, → CS_CF, AF_nf, AQ_o, CS_nf, q_zz, q_za, q_zga, q_fza, q_fx, q_fga, q_gza, q_gfa, q_gx, q_zf1, q_zg1, q_ff, q_fg1, q_gf1, q_gg, AV_i, → CD_nc, CD_nf, ← CD_CS, → PD_np, → TM_nt, → TM_tr, ti_link]) (by (try clear hr_block); (try clear hf_block); grind (ematch := 12) (gen := 12) (splits := 15) [→ CF_nc, → CS_nc, → AF_na, → OH_no, → CS_step, → CS_CF, AF_nf, AQ_o, CS_nf, q_zz, q_za, q_zga, q_fza, q_fx, q_fga, q_gza, q_gfa, q_gx, q_zf1, q_zg1, q_ff, q_fg1, q_gf1, q_gg, AV_i, → CD_nc, CD_nf, ← CD_CS, → PD_np, → TM_nt, → TM_tr, ti_link]) (by (try clear hr_block); (try clear hf_block); grind (ematch := 12) (gen := 12) (splits := 15) [→ CF_nc, → CS_nc, → AF_na, → OH_no, → CS_step, → CS_CF, AF_nf, AQ_o, CS_nf, q_zz, q_za, q_zga, q_fza, q_fx, q_fga, q_gza, q_gfa, q_gx, q_zf1, q_zg1, q_ff, q_fg1, q_gf1, q_gg, AV_i, → CD_nc, CD_nf, ← CD_CS, → PD_np, → TM_nt, → TM_tr, ti_link]) (by (try clear hr_block); (try clear hf_block); grind (ematch := 12) (gen := 12) (splits := 15) [→ CF_nc, → CS_nc, → AF_na, → OH_no, → CS_step, → CS_CF, AF_nf, AQ_o, CS_nf, q_zz, q_za, q_zga, q_fza, q_fx, q_fga, q_gza, q_gfa, q_gx, q_zf1, q_zg1, q_ff, q_fg1, q_gf1, q_gg, AV_i, → CD_nc, CD_nf, ← CD_CS, → PD_np, → TM_nt, → TM_tr, ti_link]))
  obtain ⟨pS3, qS3⟩ := pS3
  have z6_S3 := hF1.1 6 (by decide)
  have z12_S3 := hF1.1 12 (by decide)
  have f1_S3 := hF1.2.1 1 (by decide)
  have f1a_S3 := Fr_fa hF1 1 (by decide)
  have f2_S3 := hF1.2.1 2 (by decide)
  have f2a_S3 := Fr_fa hF1 2 (by decide)
  have g3_S3 := hF1.2.2 3 (by decide)
  have g3a_S3 := Fr_ga hF1 3 (by decide)
  have g4_S3 := hF1.2.2 4 (by decide)
  have g4a_S3 := Fr_ga hF1 4 (by decide)
  clear hF1
  intro S4 eS4
  have tS4 : NT S3 S4 := NT_z eS4 (by decide)
  have nS4 : NC S3 S4 := NC_z eS4 (by decide)
  have oS4 : NO nx S3 S4 := NO_z eS4
  have aS4 : AF nx ((S3.2.1 10) (ix (S3.1 12))).toInt S4 := AF_pt eS4 (by (try clear hC hA hO hP hk tS0 tS1 nS1 oS1 aS1 dS2 tS2 nS2 mS2 oS2 pS2_ qS3 tS4 nS4 oS4); (try clear hr_block); (try clear hf_block); grind (splits := 20) [SI, PT, WB, PLM, XI, PI, PJ, BU, LV, LA_i, OR1, B01, LA_n, ix_int, q_zz, q_za, q_zga, q_fza, q_fx, q_fga, q_gza, q_gfa, q_gx, q_zf1, q_zg1, q_ff, q_fg1, q_gf1, q_gg, ti_link]) qS3.2.1
  intro S5 eS5
  have dS5 : NP S4 S5 := NP_z eS5 (by decide)
  have tS5 : NT S4 S5 := NT_z eS5 (by decide)
  have nS5 : NC S4 S5 := NC_z eS5 (by decide)
  have mS5 : NA S4 S5 := NA_z eS5 (by decide)
  have oS5 : NO nx S4 S5 := NO_z eS5
  exact ⟨by (try clear hC hA hO hP hk tS0 tS1 nS1 oS1 aS1 dS2 tS2 nS2 mS2 oS2 pS2_ qS3 tS4 nS4 oS4 aS4 dS5 tS5 nS5 mS5 oS5); (try clear hr_block); (try clear hf_block); grind (splits := 20) [SI, PT, WB, PLM, XI, PI, PJ, BU, LV, LA_i, OR1, B01, LA_n, ix_int, q_zz, q_za, q_zga, q_fza, q_fx, q_fga, q_gza, q_gfa, q_gx, q_zf1, q_zg1, q_ff, q_fg1, q_gf1, q_gg, ti_link], by refine ⟨?_, ?_, ?_, ?_⟩ <;> ((try clear hr_block); (try clear hf_block); grind (ematch := 12) (gen := 12) (splits := 15) [→ CF_nc, → CS_nc, → AF_na, → OH_no, → CS_step, → CS_CF, AF_nf, AQ_o, CS_nf, q_zz, q_za, q_zga, q_fza, q_fx, q_fga, q_gza, q_gfa, q_gx, q_zf1, q_zg1, q_ff, q_fg1, q_gf1, q_gg, AV_i, → CD_nc, CD_nf, ← CD_CS, → PD_np, → TM_nt, → TM_tr, ti_link])⟩
