
set_option maxHeartbeats 4000000 in
theorem sg_trial {nx n : Nat} {so pl : Nat → Int32} {wo ws : Nat → Int64} {S0 : mS} {D d : Nat} {G GA X Y GW GT : Int} {kL : LT3} {kd : Int} {r_block : mS → (mS → Prop) → Prop} (hf_block : FmV [3, 4, 7, 8, 9, 10, 11, 13, 14, 15, 16, 17, 18, 19, 20] [8, 10, 12, 13, 14, 15, 16, 17, 18, 19, 20, 21, 24, 25, 26, 27, 28, 29, 30, 31, 32, 33, 34, 35, 36, 37, 38, 39, 40, 41, 42, 43, 44, 45, 46, 47, 48] [9] (r_block)) (hr_block : ∀ (d : Nat) (G GA X Y GW GT : Int) (kL : LT3) (kd : Int) (S : mS), D ≤ d → LV d G GA X Y → X ≤ 1800 ∧ Y ≤ 900 → GW ≤ (d : Int) - 10 ∧ GT ≤ 6 * (d : Int) + 6 → SI nx n so pl wo ws S0 d G GA X Y GW GT S → (CS nx kL (S.1 9).toInt (S.1 10).toInt (S.1 13) S) → (AF nx ((S.2.1 10) (ix (S.1 12))).toInt S) → (OH nx S0 S) → (PD nx kd S) → (kd ≤ (d : Int)) → r_block S (fun S1 => (SI nx n so pl wo ws S0 d (G - 10) (GA - 4) X Y (GW - 2) (GT - 2) S1 ∧ ((S1.1 4) = 0 → (S.1 4) = 0 ∧ (S.1 3).toInt + 2 ≤ (S1.1 3).toInt) ∧ (S.1 8).toInt ≤ (S1.1 8).toInt ∧ (S.1 9).toInt ≤ (S1.1 9).toInt ∧ (S.1 10).toInt ≤ (S1.1 10).toInt ∧ (S1.1 13) = (S.1 13) ∧ (S1.1 15) = (S.1 15) ∧ (S1.1 16) = (S.1 16)) ∧ (CS nx kL (S1.1 9).toInt (S1.1 10).toInt (S1.1 13) S1 ∧ AF nx ((S1.2.1 10) (ix (S1.1 12))).toInt S1 ∧ OH nx S0 S1 ∧ PD nx kd S1 ∧ TM S S1))) {S : mS} (hL : LV d G GA X Y) (h : SI nx n so pl wo ws S0 d G GA X Y GW GT S) (hX : X ≤ 1700 ∧ Y ≤ 850) (hD : D ≤ d) (hW : GW ≤ (d : Int) - 12 ∧ GT ≤ 6 * (d : Int) - 3) (hf : (S.1 4) = 0) (hG : G + 2 ≤ 100 + 20 * (d : Int) ∧ GA + 2 ≤ 40 + 4 * (d : Int)) (hC : CS nx kL (S.1 9).toInt (S.1 10).toInt (S.1 13) S) (hA : AF nx ((S.2.1 10) (ix (S.1 12))).toInt S) (hO : OH nx S0 S) (hP : PD nx kd S) (hk : kd + 1 ≤ (d : Int)) (hE : CF nx kL (S.1 9).toInt (S.1 10).toInt 0 1 0 0 0 (S.1 13) S) : wp_trial r_block S (fun S1 => (SI nx n so pl wo ws S0 d G GA (X + 18) (Y + 8) GW (GT + 3) S1 ∧ ((S1.1 4) = 0 → (S.1 4) = 0 ∧ (S.1 3).toInt < (S1.1 3).toInt) ∧ (S.1 8).toInt ≤ (S1.1 8).toInt ∧ (S.1 9).toInt ≤ (S1.1 9).toInt ∧ (S.1 10).toInt ≤ (S1.1 10).toInt ∧ (S1.1 13) = (S.1 13) ∧ (S1.1 15) = (S.1 15) ∧ (S1.1 16) = (S.1 16)) ∧ (CS nx kL (S1.1 9).toInt (S1.1 10).toInt (S1.1 13) S1 ∧ AF nx ((S1.2.1 10) (ix (S1.1 12))).toInt S1 ∧ OH nx S0 S1 ∧ PD nx kd S1 ∧ TM S S1)) := by
  have tS0 : TM S S := TM_rf
  have hwm : 8 * ((S.1 10).toInt - 500 * nx) ≤ 4000 + GW ∧ 9 * ((S.1 9).toInt - 500 * nx) ≤ 4000 + GT := by
    have q1 := h.2.2.2.1 hf
    have q2 := h.1.1
    have q3 := q2.2.2.2.2.2.2 hf
    have q4 := q2.1.2.2 (ix (S.1 3)) (by unfold ix; omega)
    omega
  have pdb : 0 ≤ (S.1 16).toInt ∧ (S.1 16).toInt ≤ 10 := ⟨(hP hf).1, by
    have q := (hP hf).2.1
    have q2 := hL.1
    omega⟩
  have j425 := @sj425_trial nx n so pl wo ws S0 D d G GA X Y GW GT kL kd r_block hf_block hr_block S hL h hX hD hW hf hG hC hA hO hP hk hE
  have j394 := @sj394_trial nx n so pl wo ws S0 D d G GA X Y GW GT kL kd r_block hf_block hr_block S hL h hX hD hW hf hG hC hA hO hP hk hE
  have j230 := @sj230_trial nx n so pl wo ws S0 D d G GA X Y GW GT kL kd r_block hf_block hr_block S hL h hX hD hW hf hG hC hA hO hP hk hE
  unfold wp_trial
  intro z1 ez1
  intro S2 eS2
  have nS2 : NC S S2 := NC_z eS2 (by decide)
  have oS2 : NO nx S S2 := NO_z eS2
  have aS2 : AFv nx ((S.2.1 10) (ix (S.1 12))).toInt (S.1 9).toInt (S.1 10).toInt (-1) S2 := AFv_z eS2 (Or.inl rfl) (AFv_o (-1) hA)
  have uS2 : TM S S2 := TM_t9 eS2 (by (try clear hC hA hO hP hk hE tS0 nS2 oS2 aS2); (try clear j425); (try clear j394); (try clear j230); (try clear hr_block); (try clear hf_block); grind -mbtc (splits := 20) (gen := 40) (ematch := 20) [SI, PT, WB_ad2, WB_nt, WB_on, WB_fi, WB_nf, LA_n, LA_p, OR1, B01, PTc_up, ix_int, ix_1, XI, PI, PJ, BU, LV, LA_i, q_zz, q_za, q_zga, q_fza, q_fx, q_fga, q_gza, q_gfa, q_gx, q_zf1, q_zg1, q_ff, q_fg1, q_gf1, q_gg, ti_link, in1000]) tS0
  have  hm2 : 500 * nx ≤ (S.1 9).toInt ∧ (S.1 9).toInt < 500 * nx + 500 ∧ nx ≤ 1 ∧ 12000 * nx ≤ (S.1 8).toInt ∧ (S.1 8).toInt + 10 < 12000 * nx + 12000 ∧ 12000 * nx ≤ (S.1 7).toInt ∧ (S.1 7).toInt + 10 < 12000 * nx + 12000 ∧ OR1 (500 * nx) (S.1 9).toInt (S.1 13).toInt := by (try clear hC hA hO hP hk hE tS0 nS2 oS2 aS2 uS2); (try clear j425); (try clear j394); (try clear j230); (try clear hr_block); (try clear hf_block); grind -mbtc (splits := 20) (gen := 40) (ematch := 20) [SI, PT, WB_ad2, WB_nt, WB_on, WB_fi, WB_nf, LA_n, LA_p, OR1, B01, PTc_up, ix_int, ix_1, XI, PI, PJ, BU, LV, LA_i, q_zz, q_za, q_zga, q_fza, q_fx, q_fga, q_gza, q_gfa, q_gx, q_zf1, q_zg1, q_ff, q_fg1, q_gf1, q_gg, ti_link, in1000]
  refine ⟨by (try clear hC hA hO hP hk hE tS0 nS2 oS2 aS2 uS2); (try clear j425); (try clear j394); (try clear j230); (try clear hr_block); (try clear hf_block); (try clear h); grind -mbtc (gen := 40) (ematch := 20) [OR1, q_zz, q_za, q_zga, q_fza, q_fx, q_fga, q_gza, q_gfa, q_gx, q_zf1, q_zg1, q_ff, q_fg1, q_gf1, q_gg, ti_link, in1000], ?_⟩
  intro S3 eS3
  have oS3 : NO nx S2 S3 := NO_f eS3 (nH_t (by decide) (by (try clear hC hA hO hP hk hE tS0 nS2 oS2 aS2 uS2); (try clear j425); (try clear j394); (try clear j230); (try clear hr_block); (try clear hf_block); (try clear h); grind -mbtc (gen := 40) (ematch := 20) [OR1, q_zz, q_za, q_zga, q_fza, q_fx, q_fga, q_gza, q_gfa, q_gx, q_zf1, q_zg1, q_ff, q_fg1, q_gf1, q_gg, ti_link, in1000]))
  have aS3 : AFv nx ((S.2.1 10) (ix (S.1 12))).toInt (S.1 9).toInt (S.1 10).toInt (-1) S3 := AFv_f eS3 (Or.inl ⟨by unfold ix; omega, by decide⟩) aS2
  have uS3 : TM S S3 := TM_fi eS3 (Or.inr ⟨by decide, by unfold ix; omega⟩) uS2
  have cS3 : CF nx kL (S.1 9).toInt (S.1 10).toInt 0 1 0 0 0 (S.1 13) S3 := CF_lift (by rw [eS3]; rfl) (fun _ _ _ q => CW_w25 eS3 (by unfold ix; omega) (by rw [eS2]; exact AF_ch hA hf) q) (CF_nc nS2 hE)
  refine ⟨by (try clear hC hA hO hP hk hE tS0 nS2 oS2 aS2 uS2 oS3 aS3 uS3 cS3); (try clear j425); (try clear j394); (try clear j230); (try clear hr_block); (try clear hf_block); (try clear h); grind -mbtc (gen := 40) (ematch := 20) [OR1, q_zz, q_za, q_zga, q_fza, q_fx, q_fga, q_gza, q_gfa, q_gx, q_zf1, q_zg1, q_ff, q_fg1, q_gf1, q_gg, ti_link, in1000], ?_⟩
  intro S4 eS4
  have dS4 : NP S3 S4 := NP_f eS4 (by decide)
  have tS4 : NT S3 S4 := NT_f eS4 (by decide)
  have nS4 : NC S3 S4 := NC_f eS4 (by decide)
  have mS4 : NA S3 S4 := NA_f eS4 (by decide)
  have oS4 : NO nx S3 S4 := NO_f eS4 (nH_t (by decide) (by (try clear hC hA hO hP hk hE tS0 nS2 oS2 aS2 uS2 oS3 aS3 uS3 cS3 dS4 tS4 nS4 mS4); (try clear j425); (try clear j394); (try clear j230); (try clear hr_block); (try clear hf_block); (try clear h); grind -mbtc (gen := 40) (ematch := 20) [OR1, q_zz, q_za, q_zga, q_fza, q_fx, q_fga, q_gza, q_gfa, q_gx, q_zf1, q_zg1, q_ff, q_fg1, q_gf1, q_gg, ti_link, in1000]))
  have aS4 : AFv nx ((S.2.1 10) (ix (S.1 12))).toInt (S.1 9).toInt (S.1 10).toInt (-1) S4 := AFv_na mS4 aS3
  have uS4 : TM S S4 := TM_nt uS3 tS4
  have cS4 : CF nx kL (S.1 9).toInt (S.1 10).toInt 0 1 0 0 0 (S.1 13) S4 := CF_nc nS4 cS3
  refine ⟨by (try clear hC hA hO hP hk hE tS0 nS2 oS2 aS2 uS2 oS3 aS3 uS3 cS3 dS4 tS4 nS4 mS4 oS4 aS4 uS4 cS4); (try clear j425); (try clear j394); (try clear j230); (try clear hr_block); (try clear hf_block); (try clear h); grind -mbtc (gen := 40) (ematch := 20) [OR1, q_zz, q_za, q_zga, q_fza, q_fx, q_fga, q_gza, q_gfa, q_gx, q_zf1, q_zg1, q_ff, q_fg1, q_gf1, q_gg, ti_link, in1000], ?_⟩
  intro S5 eS5
  have nS5 : NC S4 S5 := NC_f eS5 (by decide)
  have oS5 : NO nx S4 S5 := NO_f eS5 (nH_t (by decide) (by (try clear hC hA hO hP hk hE tS0 nS2 oS2 aS2 uS2 oS3 aS3 uS3 cS3 dS4 tS4 nS4 mS4 oS4 aS4 uS4 cS4 nS5); (try clear j425); (try clear j394); (try clear j230); (try clear hr_block); (try clear hf_block); (try clear h); grind -mbtc (gen := 40) (ematch := 20) [OR1, q_zz, q_za, q_zga, q_fza, q_fx, q_fga, q_gza, q_gfa, q_gx, q_zf1, q_zg1, q_ff, q_fg1, q_gf1, q_gg, ti_link, in1000]))
  have aS5 : AFv nx ((S.2.1 10) (ix (S.1 12))).toInt (S.1 9).toInt (S.1 10).toInt (-1) S5 := AFv_f eS5 (Or.inl ⟨by unfold ix; omega, by decide⟩) aS4
  have uS5 : TM S S5 := TM_fi eS5 (Or.inr ⟨by decide, by unfold ix; omega⟩) uS4
  have cS5 : CF nx kL (S.1 9).toInt (S.1 10).toInt 0 1 0 0 0 (S.1 13) S5 := CF_nc nS5 cS4
  refine ⟨by (try clear hC hA hO hP hk hE tS0 nS2 oS2 aS2 uS2 oS3 aS3 uS3 cS3 dS4 tS4 nS4 mS4 oS4 aS4 uS4 cS4 nS5 oS5 aS5 uS5 cS5); (try clear j425); (try clear j394); (try clear j230); (try clear hr_block); (try clear hf_block); (try clear h); grind -mbtc (gen := 40) (ematch := 20) [OR1, q_zz, q_za, q_zga, q_fza, q_fx, q_fga, q_gza, q_gfa, q_gx, q_zf1, q_zg1, q_ff, q_fg1, q_gf1, q_gg, ti_link, in1000], ?_⟩
  intro S6 eS6
  have dS6 : NP S5 S6 := NP_f eS6 (by decide)
  have oS6 : NO nx S5 S6 := NO_f eS6 (nH_t (by decide) (by (try clear hC hA hO hP hk hE tS0 nS2 oS2 aS2 uS2 oS3 aS3 uS3 cS3 dS4 tS4 nS4 mS4 oS4 aS4 uS4 cS4 nS5 oS5 aS5 uS5 cS5 dS6); (try clear j425); (try clear j394); (try clear j230); (try clear hr_block); (try clear hf_block); (try clear h); grind -mbtc (gen := 40) (ematch := 20) [OR1, q_zz, q_za, q_zga, q_fza, q_fx, q_fga, q_gza, q_gfa, q_gx, q_zf1, q_zg1, q_ff, q_fg1, q_gf1, q_gg, ti_link, in1000]))
  have aS6 : AFv nx ((S.2.1 10) (ix (S.1 12))).toInt (S.1 9).toInt (S.1 10).toInt (-1) S6 := AFv_f eS6 (Or.inl ⟨by unfold ix; omega, by decide⟩) aS5
  have uS6 : TM S S6 := TM_fi eS6 (Or.inr ⟨by decide, by unfold ix; omega⟩) uS5
  have cS6 : CF nx kL (S.1 9).toInt (S.1 10).toInt 0 1 0 0 0 (S.1 13) S6 := CF_lift (by rw [eS6]; rfl) (fun _ _ _ q => CW_w28 eS6 (Or.inr (by unfold ix; omega)) q) cS5
  refine ⟨by (try clear hC hA hO hP hk hE tS0 nS2 oS2 aS2 uS2 oS3 aS3 uS3 cS3 dS4 tS4 nS4 mS4 oS4 aS4 uS4 cS4 nS5 oS5 aS5 uS5 cS5 dS6 oS6 aS6 uS6 cS6); (try clear j425); (try clear j394); (try clear j230); (try clear hr_block); (try clear hf_block); (try clear h); grind -mbtc (gen := 40) (ematch := 20) [OR1, q_zz, q_za, q_zga, q_fza, q_fx, q_fga, q_gza, q_gfa, q_gx, q_zf1, q_zg1, q_ff, q_fg1, q_gf1, q_gg, ti_link, in1000], ?_⟩
  intro S7 eS7
  have dS7 : NP S6 S7 := NP_f eS7 (by decide)
  have mS7 : NA S6 S7 := NA_f eS7 (by decide)
  have oS7 : NO nx S6 S7 := NO_f eS7 (nH_t (by decide) (by (try clear hC hA hO hP hk hE tS0 nS2 oS2 aS2 uS2 oS3 aS3 uS3 cS3 dS4 tS4 nS4 mS4 oS4 aS4 uS4 cS4 nS5 oS5 aS5 uS5 cS5 dS6 oS6 aS6 uS6 cS6 dS7 mS7); (try clear j425); (try clear j394); (try clear j230); (try clear hr_block); (try clear hf_block); (try clear h); grind -mbtc (gen := 40) (ematch := 20) [OR1, q_zz, q_za, q_zga, q_fza, q_fx, q_fga, q_gza, q_gfa, q_gx, q_zf1, q_zg1, q_ff, q_fg1, q_gf1, q_gg, ti_link, in1000]))
  have aS7 : AFv nx ((S.2.1 10) (ix (S.1 12))).toInt (S.1 9).toInt (S.1 10).toInt (-1) S7 := AFv_na mS7 aS6
  have uS7 : TM S S7 := TM_fi eS7 (Or.inr ⟨by decide, by unfold ix; omega⟩) uS6
  have cS7 : CF nx kL (S.1 9).toInt (S.1 10).toInt 0 1 0 0 0 (S.1 13) S7 := CF_lift (by rw [eS7]; rfl) (fun _ _ _ q => CW_w29 eS7 (Or.inr (by unfold ix; omega)) q) cS6
  refine ⟨by (try clear hC hA hO hP hk hE tS0 nS2 oS2 aS2 uS2 oS3 aS3 uS3 cS3 dS4 tS4 nS4 mS4 oS4 aS4 uS4 cS4 nS5 oS5 aS5 uS5 cS5 dS6 oS6 aS6 uS6 cS6 dS7 mS7 oS7 aS7 uS7 cS7); (try clear j425); (try clear j394); (try clear j230); (try clear hr_block); (try clear hf_block); (try clear h); grind -mbtc (gen := 40) (ematch := 20) [OR1, q_zz, q_za, q_zga, q_fza, q_fx, q_fga, q_gza, q_gfa, q_gx, q_zf1, q_zg1, q_ff, q_fg1, q_gf1, q_gg, ti_link, in1000], ?_⟩
  intro S8 eS8
  have dS8 : NP S7 S8 := NP_f eS8 (by decide)
  have tS8 : NT S7 S8 := NT_f eS8 (by decide)
  have nS8 : NC S7 S8 := NC_f eS8 (by decide)
  have oS8 : NO nx S7 S8 := NO_f eS8 (nH_t (by decide) (by (try clear hC hA hO hP hk hE tS0 nS2 oS2 aS2 uS2 oS3 aS3 uS3 cS3 dS4 tS4 nS4 mS4 oS4 aS4 uS4 cS4 nS5 oS5 aS5 uS5 cS5 dS6 oS6 aS6 uS6 cS6 dS7 mS7 oS7 aS7 uS7 cS7 dS8 tS8 nS8); (try clear j425); (try clear j394); (try clear j230); (try clear hr_block); (try clear hf_block); (try clear h); grind -mbtc (gen := 40) (ematch := 20) [OR1, q_zz, q_za, q_zga, q_fza, q_fx, q_fga, q_gza, q_gfa, q_gx, q_zf1, q_zg1, q_ff, q_fg1, q_gf1, q_gg, ti_link, in1000]))
  have aS8 : AFv nx ((S.2.1 10) (ix (S.1 12))).toInt (S.1 9).toInt (S.1 10).toInt (-1) S8 := AFv_f eS8 (Or.inl ⟨by unfold ix; omega, by decide⟩) aS7
  refine ⟨by (try clear hC hA hO hP hk hE tS0 nS2 oS2 aS2 uS2 oS3 aS3 uS3 cS3 dS4 tS4 nS4 mS4 oS4 aS4 uS4 cS4 nS5 oS5 aS5 uS5 cS5 dS6 oS6 aS6 uS6 cS6 dS7 mS7 oS7 aS7 uS7 cS7 dS8 tS8 nS8 oS8 aS8); (try clear j425); (try clear j394); (try clear j230); (try clear hr_block); (try clear hf_block); (try clear h); grind -mbtc (gen := 40) (ematch := 20) [OR1, q_zz, q_za, q_zga, q_fza, q_fx, q_fga, q_gza, q_gfa, q_gx, q_zf1, q_zg1, q_ff, q_fg1, q_gf1, q_gg, ti_link, in1000], ?_⟩
  intro S9 eS9
  have dS9 : NP S8 S9 := NP_f eS9 (by decide)
  have tS9 : NT S8 S9 := NT_f eS9 (by decide)
  have nS9 : NC S8 S9 := NC_f eS9 (by decide)
  have oS9 : NO nx S8 S9 := NO_f eS9 (nH_t (by decide) (by (try clear hC hA hO hP hk hE tS0 nS2 oS2 aS2 uS2 oS3 aS3 uS3 cS3 dS4 tS4 nS4 mS4 oS4 aS4 uS4 cS4 nS5 oS5 aS5 uS5 cS5 dS6 oS6 aS6 uS6 cS6 dS7 mS7 oS7 aS7 uS7 cS7 dS8 tS8 nS8 oS8 aS8 dS9 tS9 nS9); (try clear j425); (try clear j394); (try clear j230); (try clear hr_block); (try clear hf_block); (try clear h); grind -mbtc (gen := 40) (ematch := 20) [OR1, q_zz, q_za, q_zga, q_fza, q_fx, q_fga, q_gza, q_gfa, q_gx, q_zf1, q_zg1, q_ff, q_fg1, q_gf1, q_gg, ti_link, in1000]))
  have aS9 : AFv nx ((S.2.1 10) (ix (S.1 12))).toInt (S.1 9).toInt (S.1 10).toInt (-1) S9 := AFv_f eS9 (Or.inl ⟨by unfold ix; omega, by decide⟩) aS8
  refine ⟨by (try clear hC hA hO hP hk hE tS0 nS2 oS2 aS2 uS2 oS3 aS3 uS3 cS3 dS4 tS4 nS4 mS4 oS4 aS4 uS4 cS4 nS5 oS5 aS5 uS5 cS5 dS6 oS6 aS6 uS6 cS6 dS7 mS7 oS7 aS7 uS7 cS7 dS8 tS8 nS8 oS8 aS8 dS9 tS9 nS9 oS9 aS9); (try clear j425); (try clear j394); (try clear j230); (try clear hr_block); (try clear hf_block); (try clear h); grind -mbtc (gen := 40) (ematch := 20) [OR1, q_zz, q_za, q_zga, q_fza, q_fx, q_fga, q_gza, q_gfa, q_gx, q_zf1, q_zg1, q_ff, q_fg1, q_gf1, q_gg, ti_link, in1000], ?_⟩
  intro S10 eS10
  have dS10 : NP S9 S10 := NP_f eS10 (by decide)
  have tS10 : NT S9 S10 := NT_f eS10 (by decide)
  have nS10 : NC S9 S10 := NC_f eS10 (by decide)
  have mS10 : NA S9 S10 := NA_f eS10 (by decide)
  have oS10 : NO nx S9 S10 := NO_f eS10 (nH_t (by decide) (by (try clear hC hA hO hP hk hE tS0 nS2 oS2 aS2 uS2 oS3 aS3 uS3 cS3 dS4 tS4 nS4 mS4 oS4 aS4 uS4 cS4 nS5 oS5 aS5 uS5 cS5 dS6 oS6 aS6 uS6 cS6 dS7 mS7 oS7 aS7 uS7 cS7 dS8 tS8 nS8 oS8 aS8 dS9 tS9 nS9 oS9 aS9 dS10 tS10 nS10 mS10); (try clear j425); (try clear j394); (try clear j230); (try clear hr_block); (try clear hf_block); (try clear h); grind -mbtc (gen := 40) (ematch := 20) [OR1, q_zz, q_za, q_zga, q_fza, q_fx, q_fga, q_gza, q_gfa, q_gx, q_zf1, q_zg1, q_ff, q_fg1, q_gf1, q_gg, ti_link, in1000]))
  have aS10 : AFv nx ((S.2.1 10) (ix (S.1 12))).toInt (S.1 9).toInt (S.1 10).toInt (-1) S10 := AFv_na mS10 aS9
  refine fm_act _ _ _ _ _ (fun S11 r11 hF1 pS11 => ?_) (sgv_act (nx := nx) _ _ (by (try clear hC hA hO hP hk hE tS0 nS2 oS2 aS2 uS2 oS3 aS3 uS3 cS3 dS4 tS4 nS4 mS4 oS4 aS4 uS4 cS4 nS5 oS5 aS5 uS5 cS5 dS6 oS6 aS6 uS6 cS6 dS7 mS7 oS7 aS7 uS7 cS7 dS8 tS8 nS8 oS8 aS8 dS9 tS9 nS9 oS9 aS9 dS10 tS10 nS10 mS10 oS10 aS10); (try clear j425); (try clear j394); (try clear j230); (try clear hr_block); (try clear hf_block); (try clear h); grind -mbtc (gen := 40) (ematch := 20) [OR1, q_zz, q_za, q_zga, q_fza, q_fx, q_fga, q_gza, q_gfa, q_gx, q_zf1, q_zg1, q_ff, q_fg1, q_gf1, q_gg, ti_link, in1000]))
  obtain ⟨pS11, qS11⟩ := pS11
  have tS11 : NT S10 S11 := NT_fr hF1 (by decide) (by decide)
  have fS11 : S11.1 4 = 0 → S10.1 4 = 0 := fun q => (hF1.1 4 (by decide)).symm.trans q
  have dS11 : NP S10 S11 := NP_fr hF1 (by decide) (by decide) fS11
  have nS11 : NC S10 S11 := NC_fr hF1 (by decide) (by decide) fS11
  have z3_S11 := hF1.1 3 (by decide)
  have z4_S11 := hF1.1 4 (by decide)
  have z6_S11 := hF1.1 6 (by decide)
  have z7_S11 := hF1.1 7 (by decide)
  have z9_S11 := hF1.1 9 (by decide)
  have z10_S11 := hF1.1 10 (by decide)
  have z11_S11 := hF1.1 11 (by decide)
  have z12_S11 := hF1.1 12 (by decide)
  have z13_S11 := hF1.1 13 (by decide)
  have z15_S11 := hF1.1 15 (by decide)
  have z17_S11 := hF1.1 17 (by decide)
  have z18_S11 := hF1.1 18 (by decide)
  have z19_S11 := hF1.1 19 (by decide)
  have z20_S11 := hF1.1 20 (by decide)
  have z16_S11 := hF1.1 16 (by decide)
  have f1_S11 := hF1.2.1 1 (by decide)
  have f1a_S11 := Fr_fa hF1 1 (by decide)
  have f2_S11 := hF1.2.1 2 (by decide)
  have f2a_S11 := Fr_fa hF1 2 (by decide)
  have f8_S11 := hF1.2.1 8 (by decide)
  have f8a_S11 := Fr_fa hF1 8 (by decide)
  have f10_S11 := hF1.2.1 10 (by decide)
  have f10a_S11 := Fr_fa hF1 10 (by decide)
  have f25_S11 := hF1.2.1 25 (by decide)
  have f25a_S11 := Fr_fa hF1 25 (by decide)
  have f28_S11 := hF1.2.1 28 (by decide)
  have f28a_S11 := Fr_fa hF1 28 (by decide)
  have f35_S11 := hF1.2.1 35 (by decide)
  have f35a_S11 := Fr_fa hF1 35 (by decide)
  have f36_S11 := hF1.2.1 36 (by decide)
  have f36a_S11 := Fr_fa hF1 36 (by decide)
  have f45_S11 := hF1.2.1 45 (by decide)
  have f45a_S11 := Fr_fa hF1 45 (by decide)
  have f46_S11 := hF1.2.1 46 (by decide)
  have f46a_S11 := Fr_fa hF1 46 (by decide)
  have f48_S11 := hF1.2.1 48 (by decide)
  have f48a_S11 := Fr_fa hF1 48 (by decide)
  have f40_S11 := hF1.2.1 40 (by decide)
  have f40a_S11 := Fr_fa hF1 40 (by decide)
  have f41_S11 := hF1.2.1 41 (by decide)
  have f41a_S11 := Fr_fa hF1 41 (by decide)
  have f42_S11 := hF1.2.1 42 (by decide)
  have f42a_S11 := Fr_fa hF1 42 (by decide)
  have f44_S11 := hF1.2.1 44 (by decide)
  have f44a_S11 := Fr_fa hF1 44 (by decide)
  have f29_S11 := hF1.2.1 29 (by decide)
  have f29a_S11 := Fr_fa hF1 29 (by decide)
  have f27_S11 := hF1.2.1 27 (by decide)
  have f27a_S11 := Fr_fa hF1 27 (by decide)
  have f37_S11 := hF1.2.1 37 (by decide)
  have f37a_S11 := Fr_fa hF1 37 (by decide)
  have f38_S11 := hF1.2.1 38 (by decide)
  have f38a_S11 := Fr_fa hF1 38 (by decide)
  have g3_S11 := hF1.2.2 3 (by decide)
  have g3a_S11 := Fr_ga hF1 3 (by decide)
  have g4_S11 := hF1.2.2 4 (by decide)
  have g4a_S11 := Fr_ga hF1 4 (by decide)
  clear hF1
  have aS11 : AFv nx ((S.2.1 10) (ix (S.1 12))).toInt (S.1 9).toInt (S.1 10).toInt (-1) S11 := qS11.2.2 _ _ _ _ aS10 ⟨by decide, by decide, by decide⟩
  refine ⟨by (try clear hC hA hO hP hk hE tS0 nS2 oS2 aS2 uS2 oS3 aS3 uS3 cS3 dS4 tS4 nS4 mS4 oS4 aS4 uS4 cS4 nS5 oS5 aS5 uS5 cS5 dS6 oS6 aS6 uS6 cS6 dS7 mS7 oS7 aS7 uS7 cS7 dS8 tS8 nS8 oS8 aS8 dS9 tS9 nS9 oS9 aS9 dS10 tS10 nS10 mS10 oS10 aS10 qS11 tS11 dS11 nS11 aS11); (try clear j425); (try clear j394); (try clear j230); (try clear hr_block); (try clear hf_block); (try clear h); grind -mbtc (gen := 40) (ematch := 20) [OR1, q_zz, q_za, q_zga, q_fza, q_fx, q_fga, q_gza, q_gfa, q_gx, q_zf1, q_zg1, q_ff, q_fg1, q_gf1, q_gg, ti_link, in1000], ?_⟩
  intro S12 eS12
  have dS12 : NP S11 S12 := NP_f eS12 (by decide)
  have tS12 : NT S11 S12 := NT_f eS12 (by decide)
  have nS12 : NC S11 S12 := NC_f eS12 (by decide)
  have oS12 : NO nx S11 S12 := NO_f eS12 (nH_t (by decide) (by (try clear hC hA hO hP hk hE tS0 nS2 oS2 aS2 uS2 oS3 aS3 uS3 cS3 dS4 tS4 nS4 mS4 oS4 aS4 uS4 cS4 nS5 oS5 aS5 uS5 cS5 dS6 oS6 aS6 uS6 cS6 dS7 mS7 oS7 aS7 uS7 cS7 dS8 tS8 nS8 oS8 aS8 dS9 tS9 nS9 oS9 aS9 dS10 tS10 nS10 mS10 oS10 aS10 qS11 tS11 dS11 nS11 aS11 dS12 tS12 nS12); (try clear j425); (try clear j394); (try clear j230); (try clear hr_block); (try clear hf_block); (try clear h); grind -mbtc (gen := 40) (ematch := 20) [OR1, q_zz, q_za, q_zga, q_fza, q_fx, q_fga, q_gza, q_gfa, q_gx, q_zf1, q_zg1, q_ff, q_fg1, q_gf1, q_gg, ti_link, in1000]))
  have aS12 : AFv nx ((S.2.1 10) (ix (S.1 12))).toInt (S.1 9).toInt (S.1 10).toInt (-1) S12 := AFv_f eS12 (Or.inl ⟨by unfold ix; omega, by decide⟩) aS11
  refine fm_act _ _ _ _ _ (fun S13 r13 hF2 pS13 => ?_) (sgv_act (nx := nx) _ _ (by (try clear hC hA hO hP hk hE tS0 nS2 oS2 aS2 uS2 oS3 aS3 uS3 cS3 dS4 tS4 nS4 mS4 oS4 aS4 uS4 cS4 nS5 oS5 aS5 uS5 cS5 dS6 oS6 aS6 uS6 cS6 dS7 mS7 oS7 aS7 uS7 cS7 dS8 tS8 nS8 oS8 aS8 dS9 tS9 nS9 oS9 aS9 dS10 tS10 nS10 mS10 oS10 aS10 qS11 tS11 dS11 nS11 aS11 dS12 tS12 nS12 oS12 aS12); (try clear j425); (try clear j394); (try clear j230); (try clear hr_block); (try clear hf_block); (try clear h); grind -mbtc (gen := 40) (ematch := 20) [OR1, q_zz, q_za, q_zga, q_fza, q_fx, q_fga, q_gza, q_gfa, q_gx, q_zf1, q_zg1, q_ff, q_fg1, q_gf1, q_gg, ti_link, in1000]))
  obtain ⟨pS13, qS13⟩ := pS13
  have tS13 : NT S12 S13 := NT_fr hF2 (by decide) (by decide)
  have fS13 : S13.1 4 = 0 → S12.1 4 = 0 := fun q => (hF2.1 4 (by decide)).symm.trans q
  have dS13 : NP S12 S13 := NP_fr hF2 (by decide) (by decide) fS13
  have nS13 : NC S12 S13 := NC_fr hF2 (by decide) (by decide) fS13
  have z3_S13 := hF2.1 3 (by decide)
  have z4_S13 := hF2.1 4 (by decide)
  have z6_S13 := hF2.1 6 (by decide)
  have z7_S13 := hF2.1 7 (by decide)
  have z9_S13 := hF2.1 9 (by decide)
  have z10_S13 := hF2.1 10 (by decide)
  have z11_S13 := hF2.1 11 (by decide)
  have z12_S13 := hF2.1 12 (by decide)
  have z13_S13 := hF2.1 13 (by decide)
  have z15_S13 := hF2.1 15 (by decide)
  have z17_S13 := hF2.1 17 (by decide)
  have z18_S13 := hF2.1 18 (by decide)
  have z19_S13 := hF2.1 19 (by decide)
  have z20_S13 := hF2.1 20 (by decide)
  have z16_S13 := hF2.1 16 (by decide)
  have f1_S13 := hF2.2.1 1 (by decide)
  have f1a_S13 := Fr_fa hF2 1 (by decide)
  have f2_S13 := hF2.2.1 2 (by decide)
  have f2a_S13 := Fr_fa hF2 2 (by decide)
  have f8_S13 := hF2.2.1 8 (by decide)
  have f8a_S13 := Fr_fa hF2 8 (by decide)
  have f10_S13 := hF2.2.1 10 (by decide)
  have f10a_S13 := Fr_fa hF2 10 (by decide)
  have f25_S13 := hF2.2.1 25 (by decide)
  have f25a_S13 := Fr_fa hF2 25 (by decide)
  have f28_S13 := hF2.2.1 28 (by decide)
  have f28a_S13 := Fr_fa hF2 28 (by decide)
  have f35_S13 := hF2.2.1 35 (by decide)
  have f35a_S13 := Fr_fa hF2 35 (by decide)
  have f36_S13 := hF2.2.1 36 (by decide)
  have f36a_S13 := Fr_fa hF2 36 (by decide)
  have f45_S13 := hF2.2.1 45 (by decide)
  have f45a_S13 := Fr_fa hF2 45 (by decide)
  have f46_S13 := hF2.2.1 46 (by decide)
  have f46a_S13 := Fr_fa hF2 46 (by decide)
  have f48_S13 := hF2.2.1 48 (by decide)
  have f48a_S13 := Fr_fa hF2 48 (by decide)
  have f40_S13 := hF2.2.1 40 (by decide)
  have f40a_S13 := Fr_fa hF2 40 (by decide)
  have f41_S13 := hF2.2.1 41 (by decide)
  have f41a_S13 := Fr_fa hF2 41 (by decide)
  have f42_S13 := hF2.2.1 42 (by decide)
  have f42a_S13 := Fr_fa hF2 42 (by decide)
  have f44_S13 := hF2.2.1 44 (by decide)
  have f44a_S13 := Fr_fa hF2 44 (by decide)
  have f29_S13 := hF2.2.1 29 (by decide)
  have f29a_S13 := Fr_fa hF2 29 (by decide)
  have f27_S13 := hF2.2.1 27 (by decide)
  have f27a_S13 := Fr_fa hF2 27 (by decide)
  have f37_S13 := hF2.2.1 37 (by decide)
  have f37a_S13 := Fr_fa hF2 37 (by decide)
  have f38_S13 := hF2.2.1 38 (by decide)
  have f38a_S13 := Fr_fa hF2 38 (by decide)
  have g3_S13 := hF2.2.2 3 (by decide)
  have g3a_S13 := Fr_ga hF2 3 (by decide)
  have g4_S13 := hF2.2.2 4 (by decide)
  have g4a_S13 := Fr_ga hF2 4 (by decide)
  clear hF2
  have aS13 : AFv nx ((S.2.1 10) (ix (S.1 12))).toInt (S.1 9).toInt (S.1 10).toInt (-1) S13 := qS13.2.2 _ _ _ _ aS12 ⟨by decide, by decide, by decide⟩
  refine ⟨by (try clear hC hA hO hP hk hE tS0 nS2 oS2 aS2 uS2 oS3 aS3 uS3 cS3 dS4 tS4 nS4 mS4 oS4 aS4 uS4 cS4 nS5 oS5 aS5 uS5 cS5 dS6 oS6 aS6 uS6 cS6 dS7 mS7 oS7 aS7 uS7 cS7 dS8 tS8 nS8 oS8 aS8 dS9 tS9 nS9 oS9 aS9 dS10 tS10 nS10 mS10 oS10 aS10 qS11 tS11 dS11 nS11 aS11 dS12 tS12 nS12 oS12 aS12 qS13 tS13 dS13 nS13 aS13); (try clear j425); (try clear j394); (try clear j230); (try clear hr_block); (try clear hf_block); (try clear h); grind -mbtc (gen := 40) (ematch := 20) [OR1, q_zz, q_za, q_zga, q_fza, q_fx, q_fga, q_gza, q_gfa, q_gx, q_zf1, q_zg1, q_ff, q_fg1, q_gf1, q_gg, ti_link, in1000], ?_⟩
  intro S14 eS14
  have dS14 : NP S13 S14 := NP_f eS14 (by decide)
  have tS14 : NT S13 S14 := NT_f eS14 (by decide)
  have nS14 : NC S13 S14 := NC_f eS14 (by decide)
  have oS14 : NO nx S13 S14 := NO_f eS14 (nH_t (by decide) (by (try clear hC hA hO hP hk hE tS0 nS2 oS2 aS2 uS2 oS3 aS3 uS3 cS3 dS4 tS4 nS4 mS4 oS4 aS4 uS4 cS4 nS5 oS5 aS5 uS5 cS5 dS6 oS6 aS6 uS6 cS6 dS7 mS7 oS7 aS7 uS7 cS7 dS8 tS8 nS8 oS8 aS8 dS9 tS9 nS9 oS9 aS9 dS10 tS10 nS10 mS10 oS10 aS10 qS11 tS11 dS11 nS11 aS11 dS12 tS12 nS12 oS12 aS12 qS13 tS13 dS13 nS13 aS13 dS14 tS14 nS14); (try clear j425); (try clear j394); (try clear j230); (try clear hr_block); (try clear hf_block); (try clear h); grind -mbtc (gen := 40) (ematch := 20) [OR1, q_zz, q_za, q_zga, q_fza, q_fx, q_fga, q_gza, q_gfa, q_gx, q_zf1, q_zg1, q_ff, q_fg1, q_gf1, q_gg, ti_link, in1000]))
  have av14 : AFv nx ((S.2.1 10) (ix (S.1 12))).toInt (S.1 9).toInt (S.1 10).toInt (-1) S14 := AFv_f eS14 (Or.inl ⟨by unfold ix; omega, by decide⟩) aS13
  have uS14 : TM S S14 := by (try clear j425); (try clear j394); (try clear j230); (try clear hr_block); (try clear hf_block); grind (ematch := 30) (gen := 40) (splits := 15) [→ CF_nc, → CS_nc, → AF_na, → OH_no, → CS_step, → CS_CF, AF_nf, AQ_o, CS_nf, q_zz, q_za, q_zga, q_fza, q_fx, q_fga, q_gza, q_gfa, q_gx, q_zf1, q_zg1, q_ff, q_fg1, q_gf1, q_gg, AV_i, → CD_nc, CD_nf, ← CD_CS, → PD_np, → TM_nt, → TM_tr, ti_link]
  have cS14 : CF nx kL (S.1 9).toInt (S.1 10).toInt 0 1 0 0 0 (S.1 13) S14 := by (try clear j425); (try clear j394); (try clear j230); (try clear hr_block); (try clear hf_block); grind (ematch := 30) (gen := 40) (splits := 15) [→ CF_nc, → CS_nc, → AF_na, → OH_no, → CS_step, → CS_CF, AF_nf, AQ_o, CS_nf, q_zz, q_za, q_zga, q_fza, q_fx, q_fga, q_gza, q_gfa, q_gx, q_zf1, q_zg1, q_ff, q_fg1, q_gf1, q_gg, AV_i, → CD_nc, CD_nf, ← CD_CS, → PD_np, → TM_nt, → TM_tr, ti_link]
  have oS14_ : OH nx S0 S14 := by (try clear j425); (try clear j394); (try clear j230); (try clear hr_block); (try clear hf_block); grind (ematch := 30) (gen := 40) (splits := 15) [→ CF_nc, → CS_nc, → AF_na, → OH_no, → CS_step, → CS_CF, AF_nf, AQ_o, CS_nf, q_zz, q_za, q_zga, q_fza, q_fx, q_fga, q_gza, q_gfa, q_gx, q_zf1, q_zg1, q_ff, q_fg1, q_gf1, q_gg, AV_i, → CD_nc, CD_nf, ← CD_CS, → PD_np, → TM_nt, → TM_tr, ti_link]
  have tf14 : TF nx S (S.1 9) S14 := ⟨by (try clear hC hA hO hP hk hE tS0 nS2 oS2 aS2 uS2 oS3 aS3 uS3 cS3 dS4 tS4 nS4 mS4 oS4 aS4 uS4 cS4 nS5 oS5 aS5 uS5 cS5 dS6 oS6 aS6 uS6 cS6 dS7 mS7 oS7 aS7 uS7 cS7 dS8 tS8 nS8 oS8 aS8 dS9 tS9 nS9 oS9 aS9 dS10 tS10 nS10 mS10 oS10 aS10 qS11 tS11 dS11 nS11 aS11 dS12 tS12 nS12 oS12 aS12 qS13 tS13 dS13 nS13 aS13 dS14 tS14 nS14 oS14 av14 uS14 cS14 oS14_); (try clear j425); (try clear j394); (try clear j230); (try clear hr_block); (try clear hf_block); (try clear h); grind -mbtc (gen := 40) (ematch := 20) [OR1, q_zz, q_za, q_zga, q_fza, q_fx, q_fga, q_gza, q_gfa, q_gx, q_zf1, q_zg1, q_ff, q_fg1, q_gf1, q_gg, ti_link, in1000], fun x h8 h9 => (uS14.2.2.1 x h9).1, by (try clear hC hA hO hP hk hE tS0 nS2 oS2 aS2 uS2 oS3 aS3 uS3 cS3 dS4 tS4 nS4 mS4 oS4 aS4 uS4 cS4 nS5 oS5 aS5 uS5 cS5 dS6 oS6 aS6 uS6 cS6 dS7 mS7 oS7 aS7 uS7 cS7 dS8 tS8 nS8 oS8 aS8 dS9 tS9 nS9 oS9 aS9 dS10 tS10 nS10 mS10 oS10 aS10 qS11 tS11 dS11 nS11 aS11 dS12 tS12 nS12 oS12 aS12 qS13 tS13 dS13 nS13 aS13 dS14 tS14 nS14 oS14 av14 uS14 cS14 oS14_); (try clear j425); (try clear j394); (try clear j230); (try clear hr_block); (try clear hf_block); (try clear h); grind -mbtc (gen := 40) (ematch := 20) [OR1, q_zz, q_za, q_zga, q_fza, q_fx, q_fga, q_gza, q_gfa, q_gx, q_zf1, q_zg1, q_ff, q_fg1, q_gf1, q_gg, ti_link, in1000], uS14.2.1, fun w hw9 => uS14.2.2.2 w hw9, by (try clear hC hA hO hP hk hE tS0 nS2 oS2 aS2 uS2 oS3 aS3 uS3 cS3 dS4 tS4 nS4 mS4 oS4 aS4 uS4 cS4 nS5 oS5 aS5 uS5 cS5 dS6 oS6 aS6 uS6 cS6 dS7 mS7 oS7 aS7 uS7 cS7 dS8 tS8 nS8 oS8 aS8 dS9 tS9 nS9 oS9 aS9 dS10 tS10 nS10 mS10 oS10 aS10 qS11 tS11 dS11 nS11 aS11 dS12 tS12 nS12 oS12 aS12 qS13 tS13 dS13 nS13 aS13 dS14 tS14 nS14 oS14 av14 uS14 cS14 oS14_); (try clear j425); (try clear j394); (try clear j230); (try clear hr_block); (try clear hf_block); (try clear h); grind -mbtc (gen := 40) (ematch := 20) [OR1, q_zz, q_za, q_zga, q_fza, q_fx, q_fga, q_gza, q_gfa, q_gx, q_zf1, q_zg1, q_ff, q_fg1, q_gf1, q_gg, ti_link, in1000], by (try clear hC hA hO hP hk hE tS0 nS2 oS2 aS2 uS2 oS3 aS3 uS3 cS3 dS4 tS4 nS4 mS4 oS4 aS4 uS4 cS4 nS5 oS5 aS5 uS5 cS5 dS6 oS6 aS6 uS6 cS6 dS7 mS7 oS7 aS7 uS7 cS7 dS8 tS8 nS8 oS8 aS8 dS9 tS9 nS9 oS9 aS9 dS10 tS10 nS10 mS10 oS10 aS10 qS11 tS11 dS11 nS11 aS11 dS12 tS12 nS12 oS12 aS12 qS13 tS13 dS13 nS13 aS13 dS14 tS14 nS14 oS14 av14 uS14 cS14 oS14_); (try clear j425); (try clear j394); (try clear j230); (try clear hr_block); (try clear hf_block); (try clear h); grind -mbtc (gen := 40) (ematch := 20) [OR1, q_zz, q_za, q_zga, q_fza, q_fx, q_fga, q_gza, q_gfa, q_gx, q_zf1, q_zg1, q_ff, q_fg1, q_gf1, q_gg, ti_link, in1000], by (try clear hC hA hO hP hk hE tS0 nS2 oS2 aS2 uS2 oS3 aS3 uS3 cS3 dS4 tS4 nS4 mS4 oS4 aS4 uS4 cS4 nS5 oS5 aS5 uS5 cS5 dS6 oS6 aS6 uS6 cS6 dS7 mS7 oS7 aS7 uS7 cS7 dS8 tS8 nS8 oS8 aS8 dS9 tS9 nS9 oS9 aS9 dS10 tS10 nS10 mS10 oS10 aS10 qS11 tS11 dS11 nS11 aS11 dS12 tS12 nS12 oS12 aS12 qS13 tS13 dS13 nS13 aS13 dS14 tS14 nS14 oS14 av14 uS14 cS14 oS14_); (try clear j425); (try clear j394); (try clear j230); (try clear hr_block); (try clear hf_block); (try clear h); grind -mbtc (gen := 40) (ematch := 20) [OR1, q_zz, q_za, q_zga, q_fza, q_fx, q_fga, q_gza, q_gfa, q_gx, q_zf1, q_zg1, q_ff, q_fg1, q_gf1, q_gg, ti_link, in1000]⟩
  have aS14 : AF nx ((S.2.1 10) (ix (S.1 12))).toInt S14 := AF_o (AFv_nt (w := S.1 9) rfl (by (try clear hC hA hO hP hk hE tS0 nS2 oS2 aS2 uS2 oS3 aS3 uS3 cS3 dS4 tS4 nS4 mS4 oS4 aS4 uS4 cS4 nS5 oS5 aS5 uS5 cS5 dS6 oS6 aS6 uS6 cS6 dS7 mS7 oS7 aS7 uS7 cS7 dS8 tS8 nS8 oS8 aS8 dS9 tS9 nS9 oS9 aS9 dS10 tS10 nS10 mS10 oS10 aS10 qS11 tS11 dS11 nS11 aS11 dS12 tS12 nS12 oS12 aS12 qS13 tS13 dS13 nS13 aS13 dS14 tS14 nS14 oS14 av14 uS14 cS14 oS14_ tf14); (try clear j425); (try clear j394); (try clear j230); (try clear hr_block); (try clear hf_block); (try clear h); grind -mbtc (gen := 40) (ematch := 20) [OR1, q_zz, q_za, q_zga, q_fza, q_fx, q_fga, q_gza, q_gfa, q_gx, q_zf1, q_zg1, q_ff, q_fg1, q_gf1, q_gg, ti_link, in1000]) (fun _ => AT2_new (S := S) tf14.1 ⟨by (try clear hC hA hO hP hk hE tS0 nS2 oS2 aS2 uS2 oS3 aS3 uS3 cS3 dS4 tS4 nS4 mS4 oS4 aS4 uS4 cS4 nS5 oS5 aS5 uS5 cS5 dS6 oS6 aS6 uS6 cS6 dS7 mS7 oS7 aS7 uS7 cS7 dS8 tS8 nS8 oS8 aS8 dS9 tS9 nS9 oS9 aS9 dS10 tS10 nS10 mS10 oS10 aS10 qS11 tS11 dS11 nS11 aS11 dS12 tS12 nS12 oS12 aS12 qS13 tS13 dS13 nS13 aS13 dS14 tS14 nS14 oS14 av14 uS14 cS14 oS14_ tf14); (try clear j425); (try clear j394); (try clear j230); (try clear hr_block); (try clear hf_block); (try clear h); grind -mbtc (gen := 40) (ematch := 20) [OR1, q_zz, q_za, q_zga, q_fza, q_fx, q_fga, q_gza, q_gfa, q_gx, q_zf1, q_zg1, q_ff, q_fg1, q_gf1, q_gg, ti_link, in1000], by (try clear hC hA hO hP hk hE tS0 nS2 oS2 aS2 uS2 oS3 aS3 uS3 cS3 dS4 tS4 nS4 mS4 oS4 aS4 uS4 cS4 nS5 oS5 aS5 uS5 cS5 dS6 oS6 aS6 uS6 cS6 dS7 mS7 oS7 aS7 uS7 cS7 dS8 tS8 nS8 oS8 aS8 dS9 tS9 nS9 oS9 aS9 dS10 tS10 nS10 mS10 oS10 aS10 qS11 tS11 dS11 nS11 aS11 dS12 tS12 nS12 oS12 aS12 qS13 tS13 dS13 nS13 aS13 dS14 tS14 nS14 oS14 av14 uS14 cS14 oS14_ tf14); (try clear j425); (try clear j394); (try clear j230); (try clear hr_block); (try clear hf_block); (try clear h); grind -mbtc (gen := 40) (ematch := 20) [OR1, q_zz, q_za, q_zga, q_fza, q_fx, q_fga, q_gza, q_gfa, q_gx, q_zf1, q_zg1, q_ff, q_fg1, q_gf1, q_gg, ti_link, in1000]⟩ ⟨by (try clear hC hA hO hP hk hE tS0 nS2 oS2 aS2 uS2 oS3 aS3 uS3 cS3 dS4 tS4 nS4 mS4 oS4 aS4 uS4 cS4 nS5 oS5 aS5 uS5 cS5 dS6 oS6 aS6 uS6 cS6 dS7 mS7 oS7 aS7 uS7 cS7 dS8 tS8 nS8 oS8 aS8 dS9 tS9 nS9 oS9 aS9 dS10 tS10 nS10 mS10 oS10 aS10 qS11 tS11 dS11 nS11 aS11 dS12 tS12 nS12 oS12 aS12 qS13 tS13 dS13 nS13 aS13 dS14 tS14 nS14 oS14 av14 uS14 cS14 oS14_ tf14); (try clear j425); (try clear j394); (try clear j230); (try clear hr_block); (try clear hf_block); (try clear h); grind -mbtc (gen := 40) (ematch := 20) [OR1, q_zz, q_za, q_zga, q_fza, q_fx, q_fga, q_gza, q_gfa, q_gx, q_zf1, q_zg1, q_ff, q_fg1, q_gf1, q_gg, ti_link, in1000], by (try clear hC hA hO hP hk hE tS0 nS2 oS2 aS2 uS2 oS3 aS3 uS3 cS3 dS4 tS4 nS4 mS4 oS4 aS4 uS4 cS4 nS5 oS5 aS5 uS5 cS5 dS6 oS6 aS6 uS6 cS6 dS7 mS7 oS7 aS7 uS7 cS7 dS8 tS8 nS8 oS8 aS8 dS9 tS9 nS9 oS9 aS9 dS10 tS10 nS10 mS10 oS10 aS10 qS11 tS11 dS11 nS11 aS11 dS12 tS12 nS12 oS12 aS12 qS13 tS13 dS13 nS13 aS13 dS14 tS14 nS14 oS14 av14 uS14 cS14 oS14_ tf14); (try clear j425); (try clear j394); (try clear j230); (try clear hr_block); (try clear hf_block); (try clear h); grind -mbtc (gen := 40) (ematch := 20) [OR1, q_zz, q_za, q_zga, q_fza, q_fx, q_fga, q_gza, q_gfa, q_gx, q_zf1, q_zg1, q_ff, q_fg1, q_gf1, q_gg, ti_link, in1000]⟩ (by (try clear hC hA hO hP hk hE tS0 nS2 oS2 aS2 uS2 oS3 aS3 uS3 cS3 dS4 tS4 nS4 mS4 oS4 aS4 uS4 cS4 nS5 oS5 aS5 uS5 cS5 dS6 oS6 aS6 uS6 cS6 dS7 mS7 oS7 aS7 uS7 cS7 dS8 tS8 nS8 oS8 aS8 dS9 tS9 nS9 oS9 aS9 dS10 tS10 nS10 mS10 oS10 aS10 qS11 tS11 dS11 nS11 aS11 dS12 tS12 nS12 oS12 aS12 qS13 tS13 dS13 nS13 aS13 dS14 tS14 nS14 oS14 av14 uS14 cS14 oS14_ tf14); (try clear j425); (try clear j394); (try clear j230); (try clear hr_block); (try clear hf_block); (try clear h); grind -mbtc (gen := 40) (ematch := 20) [OR1, q_zz, q_za, q_zga, q_fza, q_fx, q_fga, q_gza, q_gfa, q_gx, q_zf1, q_zg1, q_ff, q_fg1, q_gf1, q_gg, ti_link, in1000]) (by (try clear hC hA hO hP hk hE tS0 nS2 oS2 aS2 uS2 oS3 aS3 uS3 cS3 dS4 tS4 nS4 mS4 oS4 aS4 uS4 cS4 nS5 oS5 aS5 uS5 cS5 dS6 oS6 aS6 uS6 cS6 dS7 mS7 oS7 aS7 uS7 cS7 dS8 tS8 nS8 oS8 aS8 dS9 tS9 nS9 oS9 aS9 dS10 tS10 nS10 mS10 oS10 aS10 qS11 tS11 dS11 nS11 aS11 dS12 tS12 nS12 oS12 aS12 qS13 tS13 dS13 nS13 aS13 dS14 tS14 nS14 oS14 av14 uS14 cS14 oS14_ tf14); (try clear j425); (try clear j394); (try clear j230); (try clear hr_block); (try clear hf_block); (try clear h); grind -mbtc (gen := 40) (ematch := 20) [OR1, q_zz, q_za, q_zga, q_fza, q_fx, q_fga, q_gza, q_gfa, q_gx, q_zf1, q_zg1, q_ff, q_fg1, q_gf1, q_gg, ti_link, in1000]) (by (try clear hC hA hO hP hk hE tS0 nS2 oS2 aS2 uS2 oS3 aS3 uS3 cS3 dS4 tS4 nS4 mS4 oS4 aS4 uS4 cS4 nS5 oS5 aS5 uS5 cS5 dS6 oS6 aS6 uS6 cS6 dS7 mS7 oS7 aS7 uS7 cS7 dS8 tS8 nS8 oS8 aS8 dS9 tS9 nS9 oS9 aS9 dS10 tS10 nS10 mS10 oS10 aS10 qS11 tS11 dS11 nS11 aS11 dS12 tS12 nS12 oS12 aS12 qS13 tS13 dS13 nS13 aS13 dS14 tS14 nS14 oS14 av14 uS14 cS14 oS14_ tf14); (try clear j425); (try clear j394); (try clear j230); (try clear hr_block); (try clear hf_block); (try clear h); grind -mbtc (gen := 40) (ematch := 20) [OR1, q_zz, q_za, q_zga, q_fza, q_fx, q_fga, q_gza, q_gfa, q_gx, q_zf1, q_zg1, q_ff, q_fg1, q_gf1, q_gg, ti_link, in1000]) tf14.2.2.1 (by (try clear hC hA hO hP hk hE tS0 nS2 oS2 aS2 uS2 oS3 aS3 uS3 cS3 dS4 tS4 nS4 mS4 oS4 aS4 uS4 cS4 nS5 oS5 aS5 uS5 cS5 dS6 oS6 aS6 uS6 cS6 dS7 mS7 oS7 aS7 uS7 cS7 dS8 tS8 nS8 oS8 aS8 dS9 tS9 nS9 oS9 aS9 dS10 tS10 nS10 mS10 oS10 aS10 qS11 tS11 dS11 nS11 aS11 dS12 tS12 nS12 oS12 aS12 qS13 tS13 dS13 nS13 aS13 dS14 tS14 nS14 oS14 av14 uS14 cS14 oS14_ tf14); (try clear j425); (try clear j394); (try clear j230); (try clear hr_block); (try clear hf_block); (try clear h); grind -mbtc (gen := 40) (ematch := 20) [OR1, q_zz, q_za, q_zga, q_fza, q_fx, q_fga, q_gza, q_gfa, q_gx, q_zf1, q_zg1, q_ff, q_fg1, q_gf1, q_gg, ti_link, in1000]) (by (try clear hC hA hO hP hk hE tS0 nS2 oS2 aS2 uS2 oS3 aS3 uS3 cS3 dS4 tS4 nS4 mS4 oS4 aS4 uS4 cS4 nS5 oS5 aS5 uS5 cS5 dS6 oS6 aS6 uS6 cS6 dS7 mS7 oS7 aS7 uS7 cS7 dS8 tS8 nS8 oS8 aS8 dS9 tS9 nS9 oS9 aS9 dS10 tS10 nS10 mS10 oS10 aS10 qS11 tS11 dS11 nS11 aS11 dS12 tS12 nS12 oS12 aS12 qS13 tS13 dS13 nS13 aS13 dS14 tS14 nS14 oS14 av14 uS14 cS14 oS14_ tf14); (try clear j425); (try clear j394); (try clear j230); (try clear hr_block); (try clear hf_block); (try clear h); grind -mbtc (gen := 40) (ematch := 20) [OR1, q_zz, q_za, q_zga, q_fza, q_fx, q_fga, q_gza, q_gfa, q_gx, q_zf1, q_zg1, q_ff, q_fg1, q_gf1, q_gg, ti_link, in1000]) (by have q9 := hA.1; have q8 : ((ix (S.1 9) : Nat) : Int) = (S.1 9).toInt := ix_int _ (by (try clear hC hA hO hP hk hE tS0 nS2 oS2 aS2 uS2 oS3 aS3 uS3 cS3 dS4 tS4 nS4 mS4 oS4 aS4 uS4 cS4 nS5 oS5 aS5 uS5 cS5 dS6 oS6 aS6 uS6 cS6 dS7 mS7 oS7 aS7 uS7 cS7 dS8 tS8 nS8 oS8 aS8 dS9 tS9 nS9 oS9 aS9 dS10 tS10 nS10 mS10 oS10 aS10 qS11 tS11 dS11 nS11 aS11 dS12 tS12 nS12 oS12 aS12 qS13 tS13 dS13 nS13 aS13 dS14 tS14 nS14 oS14 av14 uS14 cS14 oS14_ tf14); (try clear j425); (try clear j394); (try clear j230); (try clear hr_block); (try clear hf_block); (try clear h); grind -mbtc (gen := 40) (ematch := 20) [OR1, q_zz, q_za, q_zga, q_fza, q_fx, q_fga, q_gza, q_gfa, q_gx, q_zf1, q_zg1, q_ff, q_fg1, q_gf1, q_gg, ti_link, in1000]); omega) (fun h9 => ⟨((hP hf).2.2.2.2 h9).1, ((hP hf).2.2.2.2 h9).2.1, ((hP hf).2.2.2.2 h9).2.2.2⟩)) av14) (by (try clear hC hA hO hP hk hE tS0 nS2 oS2 aS2 uS2 oS3 aS3 uS3 cS3 dS4 tS4 nS4 mS4 oS4 aS4 uS4 cS4 nS5 oS5 aS5 uS5 cS5 dS6 oS6 aS6 uS6 cS6 dS7 mS7 oS7 aS7 uS7 cS7 dS8 tS8 nS8 oS8 aS8 dS9 tS9 nS9 oS9 aS9 dS10 tS10 nS10 mS10 oS10 aS10 qS11 tS11 dS11 nS11 aS11 dS12 tS12 nS12 oS12 aS12 qS13 tS13 dS13 nS13 aS13 dS14 tS14 nS14 oS14 av14 uS14 cS14 oS14_ tf14); (try clear j425); (try clear j394); (try clear j230); (try clear hr_block); (try clear hf_block); (try clear h); grind -mbtc (gen := 40) (ematch := 20) [OR1, q_zz, q_za, q_zga, q_fza, q_fx, q_fga, q_gza, q_gfa, q_gx, q_zf1, q_zg1, q_ff, q_fg1, q_gf1, q_gg, ti_link, in1000]) (by (try clear hC hA hO hP hk hE tS0 nS2 oS2 aS2 uS2 oS3 aS3 uS3 cS3 dS4 tS4 nS4 mS4 oS4 aS4 uS4 cS4 nS5 oS5 aS5 uS5 cS5 dS6 oS6 aS6 uS6 cS6 dS7 mS7 oS7 aS7 uS7 cS7 dS8 tS8 nS8 oS8 aS8 dS9 tS9 nS9 oS9 aS9 dS10 tS10 nS10 mS10 oS10 aS10 qS11 tS11 dS11 nS11 aS11 dS12 tS12 nS12 oS12 aS12 qS13 tS13 dS13 nS13 aS13 dS14 tS14 nS14 oS14 av14 uS14 cS14 oS14_ tf14); (try clear j425); (try clear j394); (try clear j230); (try clear hr_block); (try clear hf_block); (try clear h); grind -mbtc (gen := 40) (ematch := 20) [OR1, q_zz, q_za, q_zga, q_fza, q_fx, q_fga, q_gza, q_gfa, q_gx, q_zf1, q_zg1, q_ff, q_fg1, q_gf1, q_gg, ti_link, in1000])
  have dp14 : dpt (S14.2.1 25) (ix (S.1 16)) (S.1 13) := dpt_up (AF_ch hA hf) tf14.2.1 (by omega) _ _ (by rcases (hP hf).2.2.2.1 with q | q <;> omega) (hP hf).2.2.1
  have pd10 : ix (S.1 16) ≤ 10 := by
        have q := (hP hf).2.1
        have q2 := hL.1
        unfold ix
        omega
  have cn14 : CF nx ((ix (S.1 9), 1, (0 : Int32)) :: (ix (S.1 9), 2, (0 : Int32)) :: (ix (S.1 9), 3, (0 : Int32)) :: kL) ((S.1 9).toInt + 1) (S.1 10).toInt 0 1 0 0 0 (S.1 13) S14 := CF_nt rfl (by (try clear hC hA hO hP hk hE tS0 nS2 oS2 aS2 uS2 oS3 aS3 uS3 cS3 dS4 tS4 nS4 mS4 oS4 aS4 uS4 cS4 nS5 oS5 aS5 uS5 cS5 dS6 oS6 aS6 uS6 cS6 dS7 mS7 oS7 aS7 uS7 cS7 dS8 tS8 nS8 oS8 aS8 dS9 tS9 nS9 oS9 aS9 dS10 tS10 nS10 mS10 oS10 aS10 qS11 tS11 dS11 nS11 aS11 dS12 tS12 nS12 oS12 aS12 qS13 tS13 dS13 nS13 aS13 dS14 tS14 nS14 oS14 av14 uS14 cS14 oS14_ tf14 aS14 dp14 pd10); (try clear j425); (try clear j394); (try clear j230); (try clear hr_block); (try clear hf_block); (try clear h); grind -mbtc (gen := 40) (ematch := 20) [OR1, q_zz, q_za, q_zga, q_fza, q_fx, q_fga, q_gza, q_gfa, q_gx, q_zf1, q_zg1, q_ff, q_fg1, q_gf1, q_gg, ti_link, in1000]) cS14
  refine fm_emit _ _ _ _ _ _ (fun S15 r15 hF3 pS15 => ?_) (sg_emit (nx := nx) _ _ _ (by (try clear hC hA hO hP hk hE tS0 nS2 oS2 aS2 uS2 oS3 aS3 uS3 cS3 dS4 tS4 nS4 mS4 oS4 aS4 uS4 cS4 nS5 oS5 aS5 uS5 cS5 dS6 oS6 aS6 uS6 cS6 dS7 mS7 oS7 aS7 uS7 cS7 dS8 tS8 nS8 oS8 aS8 dS9 tS9 nS9 oS9 aS9 dS10 tS10 nS10 mS10 oS10 aS10 qS11 tS11 dS11 nS11 aS11 dS12 tS12 nS12 oS12 aS12 qS13 tS13 dS13 nS13 aS13 dS14 tS14 nS14 oS14 av14 uS14 cS14 oS14_ tf14 aS14 dp14 pd10 cn14); (try clear j425); (try clear j394); (try clear j230); (try clear hr_block); (try clear hf_block); (try clear h); grind -mbtc (gen := 40) (ematch := 20) [OR1, q_zz, q_za, q_zga, q_fza, q_fx, q_fga, q_gza, q_gfa, q_gx, q_zf1, q_zg1, q_ff, q_fg1, q_gf1, q_gg, ti_link, in1000]))
  obtain ⟨pS15, qS15⟩ := pS15
  have tS15 : NT S14 S15 := NT_fr hF3 (by decide) (by decide)
  have fS15 : S15.1 4 = 0 → S14.1 4 = 0 := fun q => (hF3.1 4 (by decide)).symm.trans q
  have dS15 : NP S14 S15 := NP_fr hF3 (by decide) (by decide) fS15
  have mS15 : NA S14 S15 := NA_fr hF3 (by decide) (by decide) fS15
  have z3_S15 := hF3.1 3 (by decide)
  have z4_S15 := hF3.1 4 (by decide)
  have z6_S15 := hF3.1 6 (by decide)
  have z8_S15 := hF3.1 8 (by decide)
  have z9_S15 := hF3.1 9 (by decide)
  have z10_S15 := hF3.1 10 (by decide)
  have z11_S15 := hF3.1 11 (by decide)
  have z12_S15 := hF3.1 12 (by decide)
  have z13_S15 := hF3.1 13 (by decide)
  have z15_S15 := hF3.1 15 (by decide)
  have z17_S15 := hF3.1 17 (by decide)
  have z18_S15 := hF3.1 18 (by decide)
  have z19_S15 := hF3.1 19 (by decide)
  have z20_S15 := hF3.1 20 (by decide)
  have z16_S15 := hF3.1 16 (by decide)
  have f1_S15 := hF3.2.1 1 (by decide)
  have f1a_S15 := Fr_fa hF3 1 (by decide)
  have f2_S15 := hF3.2.1 2 (by decide)
  have f2a_S15 := Fr_fa hF3 2 (by decide)
  have f8_S15 := hF3.2.1 8 (by decide)
  have f8a_S15 := Fr_fa hF3 8 (by decide)
  have f10_S15 := hF3.2.1 10 (by decide)
  have f10a_S15 := Fr_fa hF3 10 (by decide)
  have f25_S15 := hF3.2.1 25 (by decide)
  have f25a_S15 := Fr_fa hF3 25 (by decide)
  have f28_S15 := hF3.2.1 28 (by decide)
  have f28a_S15 := Fr_fa hF3 28 (by decide)
  have f35_S15 := hF3.2.1 35 (by decide)
  have f35a_S15 := Fr_fa hF3 35 (by decide)
  have f36_S15 := hF3.2.1 36 (by decide)
  have f36a_S15 := Fr_fa hF3 36 (by decide)
  have f45_S15 := hF3.2.1 45 (by decide)
  have f45a_S15 := Fr_fa hF3 45 (by decide)
  have f46_S15 := hF3.2.1 46 (by decide)
  have f46a_S15 := Fr_fa hF3 46 (by decide)
  have f48_S15 := hF3.2.1 48 (by decide)
  have f48a_S15 := Fr_fa hF3 48 (by decide)
  have f40_S15 := hF3.2.1 40 (by decide)
  have f40a_S15 := Fr_fa hF3 40 (by decide)
  have f41_S15 := hF3.2.1 41 (by decide)
  have f41a_S15 := Fr_fa hF3 41 (by decide)
  have f42_S15 := hF3.2.1 42 (by decide)
  have f42a_S15 := Fr_fa hF3 42 (by decide)
  have f44_S15 := hF3.2.1 44 (by decide)
  have f44a_S15 := Fr_fa hF3 44 (by decide)
  have f29_S15 := hF3.2.1 29 (by decide)
  have f29a_S15 := Fr_fa hF3 29 (by decide)
  have f27_S15 := hF3.2.1 27 (by decide)
  have f27a_S15 := Fr_fa hF3 27 (by decide)
  have f37_S15 := hF3.2.1 37 (by decide)
  have f37a_S15 := Fr_fa hF3 37 (by decide)
  have f38_S15 := hF3.2.1 38 (by decide)
  have f38a_S15 := Fr_fa hF3 38 (by decide)
  have g3_S15 := hF3.2.2 3 (by decide)
  have g3a_S15 := Fr_ga hF3 3 (by decide)
  have g4_S15 := hF3.2.2 4 (by decide)
  have g4a_S15 := Fr_ga hF3 4 (by decide)
  clear hF3
  have cS15 : CS nx ((ix (S.1 9), 1, (0 : Int32)) :: (ix (S.1 9), 2, (0 : Int32)) :: (ix (S.1 9), 3, (0 : Int32)) :: kL) ((S.1 9).toInt + 1) (S.1 10).toInt (S.1 9) S15 := CS_try qS15.1 cn14 ⟨by (try clear hC hA hO hP hk hE tS0 nS2 oS2 aS2 uS2 oS3 aS3 uS3 cS3 dS4 tS4 nS4 mS4 oS4 aS4 uS4 cS4 nS5 oS5 aS5 uS5 cS5 dS6 oS6 aS6 uS6 cS6 dS7 mS7 oS7 aS7 uS7 cS7 dS8 tS8 nS8 oS8 aS8 dS9 tS9 nS9 oS9 aS9 dS10 tS10 nS10 mS10 oS10 aS10 qS11 tS11 dS11 nS11 aS11 dS12 tS12 nS12 oS12 aS12 qS13 tS13 dS13 nS13 aS13 dS14 tS14 nS14 oS14 av14 uS14 cS14 oS14_ tf14 aS14 dp14 pd10 cn14 qS15 tS15 dS15 mS15); (try clear j425); (try clear j394); (try clear j230); (try clear hr_block); (try clear hf_block); (try clear h); grind -mbtc (gen := 40) (ematch := 20) [OR1, q_zz, q_za, q_zga, q_fza, q_fx, q_fga, q_gza, q_gfa, q_gx, q_zf1, q_zg1, q_ff, q_fg1, q_gf1, q_gg, ti_link, in1000], by omega, tf14.1⟩ (fun _ => ⟨ix (S.1 16), pd10, dp14⟩)
  intro z16 ez16
  intro S17 eS17
  have tS17 : NT S15 S17 := NT_z eS17 (by decide)
  have nS17 : NC S15 S17 := NC_z eS17 (by decide)
  have mS17 : NA S15 S17 := NA_z eS17 (by decide)
  have oS17 : NO nx S15 S17 := NO_z eS17
  have tf17 : TF nx S (S.1 9) S17 := TF_tm (TF_tm tf14 tS15) tS17
  have pin17 : PD nx (kd + 1) (sZ (sZ S17 13 (S.1 9)) 14 0) := PD_in hA hf hP tf17 (by (try clear hC hA hO hP hk hE tS0 nS2 oS2 aS2 uS2 oS3 aS3 uS3 cS3 dS4 tS4 nS4 mS4 oS4 aS4 uS4 cS4 nS5 oS5 aS5 uS5 cS5 dS6 oS6 aS6 uS6 cS6 dS7 mS7 oS7 aS7 uS7 cS7 dS8 tS8 nS8 oS8 aS8 dS9 tS9 nS9 oS9 aS9 dS10 tS10 nS10 mS10 oS10 aS10 qS11 tS11 dS11 nS11 aS11 dS12 tS12 nS12 oS12 aS12 qS13 tS13 dS13 nS13 aS13 dS14 tS14 nS14 oS14 av14 uS14 cS14 oS14_ tf14 aS14 dp14 pd10 cn14 qS15 tS15 dS15 mS15 cS15 tS17 nS17 mS17 oS17 tf17); (try clear j425); (try clear j394); (try clear j230); (try clear hr_block); (try clear hf_block); (try clear h); grind -mbtc (gen := 40) (ematch := 20) [OR1, q_zz, q_za, q_zga, q_fza, q_fx, q_fga, q_gza, q_gfa, q_gx, q_zf1, q_zg1, q_ff, q_fg1, q_gf1, q_gg, ti_link, in1000]) (by (try clear hC hA hO hP hk hE tS0 nS2 oS2 aS2 uS2 oS3 aS3 uS3 cS3 dS4 tS4 nS4 mS4 oS4 aS4 uS4 cS4 nS5 oS5 aS5 uS5 cS5 dS6 oS6 aS6 uS6 cS6 dS7 mS7 oS7 aS7 uS7 cS7 dS8 tS8 nS8 oS8 aS8 dS9 tS9 nS9 oS9 aS9 dS10 tS10 nS10 mS10 oS10 aS10 qS11 tS11 dS11 nS11 aS11 dS12 tS12 nS12 oS12 aS12 qS13 tS13 dS13 nS13 aS13 dS14 tS14 nS14 oS14 av14 uS14 cS14 oS14_ tf14 aS14 dp14 pd10 cn14 qS15 tS15 dS15 mS15 cS15 tS17 nS17 mS17 oS17 tf17); (try clear j425); (try clear j394); (try clear j230); (try clear hr_block); (try clear hf_block); (try clear h); grind -mbtc (gen := 40) (ematch := 20) [OR1, q_zz, q_za, q_zga, q_fza, q_fx, q_fga, q_gza, q_gfa, q_gx, q_zf1, q_zg1, q_ff, q_fg1, q_gf1, q_gg, ti_link, in1000])
  have e17 : (S17.1 9).toInt = (S.1 9).toInt + 1 := by (try clear hC hA hO hP hk hE tS0 nS2 oS2 aS2 uS2 oS3 aS3 uS3 cS3 dS4 tS4 nS4 mS4 oS4 aS4 uS4 cS4 nS5 oS5 aS5 uS5 cS5 dS6 oS6 aS6 uS6 cS6 dS7 mS7 oS7 aS7 uS7 cS7 dS8 tS8 nS8 oS8 aS8 dS9 tS9 nS9 oS9 aS9 dS10 tS10 nS10 mS10 oS10 aS10 qS11 tS11 dS11 nS11 aS11 dS12 tS12 nS12 oS12 aS12 qS13 tS13 dS13 nS13 aS13 dS14 tS14 nS14 oS14 av14 uS14 cS14 oS14_ tf14 aS14 dp14 pd10 cn14 qS15 tS15 dS15 mS15 cS15 tS17 nS17 mS17 oS17 tf17 pin17); (try clear j425); (try clear j394); (try clear j230); (try clear hr_block); (try clear hf_block); (try clear h); grind -mbtc (gen := 40) (ematch := 20) [OR1, q_zz, q_za, q_zga, q_fza, q_fx, q_fga, q_gza, q_gfa, q_gx, q_zf1, q_zg1, q_ff, q_fg1, q_gf1, q_gg, ti_link, in1000]
  have g17 : (S17.1 10).toInt = (S.1 10).toInt := by (try clear hC hA hO hP hk hE tS0 nS2 oS2 aS2 uS2 oS3 aS3 uS3 cS3 dS4 tS4 nS4 mS4 oS4 aS4 uS4 cS4 nS5 oS5 aS5 uS5 cS5 dS6 oS6 aS6 uS6 cS6 dS7 mS7 oS7 aS7 uS7 cS7 dS8 tS8 nS8 oS8 aS8 dS9 tS9 nS9 oS9 aS9 dS10 tS10 nS10 mS10 oS10 aS10 qS11 tS11 dS11 nS11 aS11 dS12 tS12 nS12 oS12 aS12 qS13 tS13 dS13 nS13 aS13 dS14 tS14 nS14 oS14 av14 uS14 cS14 oS14_ tf14 aS14 dp14 pd10 cn14 qS15 tS15 dS15 mS15 cS15 tS17 nS17 mS17 oS17 tf17 pin17 e17); (try clear j425); (try clear j394); (try clear j230); (try clear hr_block); (try clear hf_block); (try clear h); grind -mbtc (gen := 40) (ematch := 20) [OR1, q_zz, q_za, q_zga, q_fza, q_fx, q_fga, q_gza, q_gfa, q_gx, q_zf1, q_zg1, q_ff, q_fg1, q_gf1, q_gg, ti_link, in1000]
  have cS17 : CS nx ((ix (S.1 9), 1, (0 : Int32)) :: (ix (S.1 9), 2, (0 : Int32)) :: (ix (S.1 9), 3, (0 : Int32)) :: kL) (S17.1 9).toInt (S17.1 10).toInt (S.1 9) S17 := by
        rw [e17, g17]
        exact CS_nc nS17 cS15
  have on17 : (S17.2.1 28) (ix (S.1 9)) = 0 := by (try clear hC hA hO hP hk hE tS0 nS2 oS2 aS2 uS2 oS3 aS3 uS3 cS3 dS4 tS4 nS4 mS4 oS4 aS4 uS4 cS4 nS5 oS5 aS5 uS5 cS5 dS6 oS6 aS6 uS6 cS6 dS7 mS7 oS7 aS7 uS7 cS7 dS8 tS8 nS8 oS8 aS8 dS9 tS9 nS9 oS9 aS9 dS10 tS10 nS10 mS10 oS10 aS10 qS11 tS11 dS11 nS11 aS11 dS12 tS12 nS12 oS12 aS12 qS13 tS13 dS13 nS13 aS13 dS14 tS14 nS14 oS14 av14 uS14 cS14 oS14_ tf14 aS14 dp14 pd10 cn14 qS15 tS15 dS15 mS15 cS15 tS17 nS17 mS17 oS17 tf17 pin17 e17 g17 cS17); (try clear j425); (try clear j394); (try clear j230); (try clear hr_block); (try clear hf_block); (try clear h); grind -mbtc (gen := 40) (ematch := 20) [OR1, q_zz, q_za, q_zga, q_fza, q_fx, q_fga, q_gza, q_gfa, q_gx, q_zf1, q_zg1, q_ff, q_fg1, q_gf1, q_gg, ti_link, in1000]
  have fi17 : (S17.2.1 29) (ix (S.1 9)) = 0 := by (try clear hC hA hO hP hk hE tS0 nS2 oS2 aS2 uS2 oS3 aS3 uS3 cS3 dS4 tS4 nS4 mS4 oS4 aS4 uS4 cS4 nS5 oS5 aS5 uS5 cS5 dS6 oS6 aS6 uS6 cS6 dS7 mS7 oS7 aS7 uS7 cS7 dS8 tS8 nS8 oS8 aS8 dS9 tS9 nS9 oS9 aS9 dS10 tS10 nS10 mS10 oS10 aS10 qS11 tS11 dS11 nS11 aS11 dS12 tS12 nS12 oS12 aS12 qS13 tS13 dS13 nS13 aS13 dS14 tS14 nS14 oS14 av14 uS14 cS14 oS14_ tf14 aS14 dp14 pd10 cn14 qS15 tS15 dS15 mS15 cS15 tS17 nS17 mS17 oS17 tf17 pin17 e17 g17 cS17 on17); (try clear j425); (try clear j394); (try clear j230); (try clear hr_block); (try clear hf_block); (try clear h); grind -mbtc (gen := 40) (ematch := 20) [OR1, q_zz, q_za, q_zga, q_fza, q_fx, q_fga, q_gza, q_gfa, q_gx, q_zf1, q_zg1, q_ff, q_fg1, q_gf1, q_gg, ti_link, in1000]
  have aS17 : AF nx ((S.2.1 10) (ix (S.1 12))).toInt S17 := by (try clear j425); (try clear j394); (try clear j230); (try clear hr_block); (try clear hf_block); grind (ematch := 30) (gen := 40) (splits := 15) [→ CF_nc, → CS_nc, → AF_na, → OH_no, → CS_step, → CS_CF, AF_nf, AQ_o, CS_nf, q_zz, q_za, q_zga, q_fza, q_fx, q_fga, q_gza, q_gfa, q_gx, q_zf1, q_zg1, q_ff, q_fg1, q_gf1, q_gg, AV_i, → CD_nc, CD_nf, ← CD_CS, → PD_np, → TM_nt, → TM_tr, ti_link]
  have uS17 : TM S S17 := by (try clear j425); (try clear j394); (try clear j230); (try clear hr_block); (try clear hf_block); grind (ematch := 30) (gen := 40) (splits := 15) [→ CF_nc, → CS_nc, → AF_na, → OH_no, → CS_step, → CS_CF, AF_nf, AQ_o, CS_nf, q_zz, q_za, q_zga, q_fza, q_fx, q_fga, q_gza, q_gfa, q_gx, q_zf1, q_zg1, q_ff, q_fg1, q_gf1, q_gg, AV_i, → CD_nc, CD_nf, ← CD_CS, → PD_np, → TM_nt, → TM_tr, ti_link]
  have oS17_ : OH nx S0 S17 := by (try clear j425); (try clear j394); (try clear j230); (try clear hr_block); (try clear hf_block); grind (ematch := 30) (gen := 40) (splits := 15) [→ CF_nc, → CS_nc, → AF_na, → OH_no, → CS_step, → CS_CF, AF_nf, AQ_o, CS_nf, q_zz, q_za, q_zga, q_fza, q_fx, q_fga, q_gza, q_gfa, q_gx, q_zf1, q_zg1, q_ff, q_fg1, q_gf1, q_gg, AV_i, → CD_nc, CD_nf, ← CD_CS, → PD_np, → TM_nt, → TM_tr, ti_link]
  have  a25_ : S17.2.1 25 = upd (S.2.1 25) (ix (S.1 9)) (S.1 13) := by
        rw [eS17]
        show S15.2.1 25 = _
        rw [f25_S15, eS14]
        show S13.2.1 25 = _
        rw [f25_S13, eS12]
        show S11.2.1 25 = _
        rw [f25_S11, eS10, eS9, eS8, eS7, eS6, eS5, eS4, eS3, eS2]
        rfl
  have  a36_ : S17.2.1 36 = upd (S.2.1 36) (ix (S.1 9)) r11 := by
        rw [eS17]
        show S15.2.1 36 = _
        rw [f36_S15, eS14]
        show S13.2.1 36 = _
        rw [f36_S13, eS12]
        show upd (S11.2.1 36) (ix (S.1 9)) r11 = _
        rw [f36_S11, eS10, eS9, eS8, eS7, eS6, eS5, eS4, eS3, eS2]
        rfl
  have  a35_ : S17.2.1 35 = upd (S.2.1 35) (ix (S.1 9)) r13 := by
        rw [eS17]
        show S15.2.1 35 = _
        rw [f35_S15, eS14]
        show upd (S13.2.1 35) (ix (S.1 9)) r13 = _
        rw [f35_S13, eS12]
        show upd (S11.2.1 35) (ix (S.1 9)) r13 = _
        rw [f35_S11, eS10, eS9, eS8, eS7, eS6, eS5, eS4, eS3, eS2]
        rfl
  have  pc17 : PTc nx (S17.1 9) (S17.2.1 25) (S17.2.1 36) (S17.2.1 35) := by
        have q9 := PTc_up (w1 := S17.1 9) (v1 := S.1 13) (v2 := r11) (v3 := r13) h.2.2.1.2.2.2.2.2.2.1 (by (try clear hC hA hO hP hk hE tS0 nS2 oS2 aS2 uS2 oS3 aS3 uS3 cS3 dS4 tS4 nS4 mS4 oS4 aS4 uS4 cS4 nS5 oS5 aS5 uS5 cS5 dS6 oS6 aS6 uS6 cS6 dS7 mS7 oS7 aS7 uS7 cS7 dS8 tS8 nS8 oS8 aS8 dS9 tS9 nS9 oS9 aS9 dS10 tS10 nS10 mS10 oS10 aS10 qS11 tS11 dS11 nS11 aS11 dS12 tS12 nS12 oS12 aS12 qS13 tS13 dS13 nS13 aS13 dS14 tS14 nS14 oS14 av14 uS14 cS14 oS14_ tf14 aS14 dp14 pd10 cn14 qS15 tS15 dS15 mS15 cS15 tS17 nS17 mS17 oS17 tf17 pin17 e17 g17 cS17 on17 fi17 aS17 uS17 oS17_); (try clear j425); (try clear j394); (try clear j230); (try clear hr_block); (try clear hf_block); (try clear h); grind -mbtc (gen := 40) (ematch := 20) [OR1, q_zz, q_za, q_zga, q_fza, q_fx, q_fga, q_gza, q_gfa, q_gx, q_zf1, q_zg1, q_ff, q_fg1, q_gf1, q_gg, ti_link, in1000]) (by (try clear hC hA hO hP hk hE tS0 nS2 oS2 aS2 uS2 oS3 aS3 uS3 cS3 dS4 tS4 nS4 mS4 oS4 aS4 uS4 cS4 nS5 oS5 aS5 uS5 cS5 dS6 oS6 aS6 uS6 cS6 dS7 mS7 oS7 aS7 uS7 cS7 dS8 tS8 nS8 oS8 aS8 dS9 tS9 nS9 oS9 aS9 dS10 tS10 nS10 mS10 oS10 aS10 qS11 tS11 dS11 nS11 aS11 dS12 tS12 nS12 oS12 aS12 qS13 tS13 dS13 nS13 aS13 dS14 tS14 nS14 oS14 av14 uS14 cS14 oS14_ tf14 aS14 dp14 pd10 cn14 qS15 tS15 dS15 mS15 cS15 tS17 nS17 mS17 oS17 tf17 pin17 e17 g17 cS17 on17 fi17 aS17 uS17 oS17_); (try clear j425); (try clear j394); (try clear j230); (try clear hr_block); (try clear hf_block); (try clear h); grind -mbtc (gen := 40) (ematch := 20) [OR1, q_zz, q_za, q_zga, q_fza, q_fx, q_fga, q_gza, q_gfa, q_gx, q_zf1, q_zg1, q_ff, q_fg1, q_gf1, q_gg, ti_link, in1000]) (by (try clear hC hA hO hP hk hE tS0 nS2 oS2 aS2 uS2 oS3 aS3 uS3 cS3 dS4 tS4 nS4 mS4 oS4 aS4 uS4 cS4 nS5 oS5 aS5 uS5 cS5 dS6 oS6 aS6 uS6 cS6 dS7 mS7 oS7 aS7 uS7 cS7 dS8 tS8 nS8 oS8 aS8 dS9 tS9 nS9 oS9 aS9 dS10 tS10 nS10 mS10 oS10 aS10 qS11 tS11 dS11 nS11 aS11 dS12 tS12 nS12 oS12 aS12 qS13 tS13 dS13 nS13 aS13 dS14 tS14 nS14 oS14 av14 uS14 cS14 oS14_ tf14 aS14 dp14 pd10 cn14 qS15 tS15 dS15 mS15 cS15 tS17 nS17 mS17 oS17 tf17 pin17 e17 g17 cS17 on17 fi17 aS17 uS17 oS17_); (try clear j425); (try clear j394); (try clear j230); (try clear hr_block); (try clear hf_block); (try clear h); grind -mbtc (gen := 40) (ematch := 20) [OR1, q_zz, q_za, q_zga, q_fza, q_fx, q_fga, q_gza, q_gfa, q_gx, q_zf1, q_zg1, q_ff, q_fg1, q_gf1, q_gg, ti_link, in1000]) (by (try clear hC hA hO hP hk hE tS0 nS2 oS2 aS2 uS2 oS3 aS3 uS3 cS3 dS4 tS4 nS4 mS4 oS4 aS4 uS4 cS4 nS5 oS5 aS5 uS5 cS5 dS6 oS6 aS6 uS6 cS6 dS7 mS7 oS7 aS7 uS7 cS7 dS8 tS8 nS8 oS8 aS8 dS9 tS9 nS9 oS9 aS9 dS10 tS10 nS10 mS10 oS10 aS10 qS11 tS11 dS11 nS11 aS11 dS12 tS12 nS12 oS12 aS12 qS13 tS13 dS13 nS13 aS13 dS14 tS14 nS14 oS14 av14 uS14 cS14 oS14_ tf14 aS14 dp14 pd10 cn14 qS15 tS15 dS15 mS15 cS15 tS17 nS17 mS17 oS17 tf17 pin17 e17 g17 cS17 on17 fi17 aS17 uS17 oS17_); (try clear j425); (try clear j394); (try clear j230); (try clear hr_block); (try clear hf_block); (try clear h); grind -mbtc (gen := 40) (ematch := 20) [OR1, q_zz, q_za, q_zga, q_fza, q_fx, q_fga, q_gza, q_gfa, q_gx, q_zf1, q_zg1, q_ff, q_fg1, q_gf1, q_gg, ti_link, in1000]) (by (try clear hC hA hO hP hk hE tS0 nS2 oS2 aS2 uS2 oS3 aS3 uS3 cS3 dS4 tS4 nS4 mS4 oS4 aS4 uS4 cS4 nS5 oS5 aS5 uS5 cS5 dS6 oS6 aS6 uS6 cS6 dS7 mS7 oS7 aS7 uS7 cS7 dS8 tS8 nS8 oS8 aS8 dS9 tS9 nS9 oS9 aS9 dS10 tS10 nS10 mS10 oS10 aS10 qS11 tS11 dS11 nS11 aS11 dS12 tS12 nS12 oS12 aS12 qS13 tS13 dS13 nS13 aS13 dS14 tS14 nS14 oS14 av14 uS14 cS14 oS14_ tf14 aS14 dp14 pd10 cn14 qS15 tS15 dS15 mS15 cS15 tS17 nS17 mS17 oS17 tf17 pin17 e17 g17 cS17 on17 fi17 aS17 uS17 oS17_); (try clear j425); (try clear j394); (try clear j230); (try clear hr_block); (try clear hf_block); (try clear h); grind -mbtc (gen := 40) (ematch := 20) [OR1, q_zz, q_za, q_zga, q_fza, q_fx, q_fga, q_gza, q_gfa, q_gx, q_zf1, q_zg1, q_ff, q_fg1, q_gf1, q_gg, ti_link, in1000])
        rw [a25_, a36_, a35_]
        exact q9
  have hs17 : SI nx n so pl wo ws S0 d (G + 2) (GA + 2) (X + 2) (Y + 2) GW (GT + 9) S17 ∧ ((S17.1 4) = 0 → (S.1 3).toInt ≤ (S17.1 3).toInt) ∧ (S.1 8).toInt ≤ (S17.1 8).toInt ∧ (S.1 10).toInt ≤ (S17.1 10).toInt ∧ (S.1 9).toInt < (S17.1 9).toInt ∧ 500 * nx ≤ (S.1 9).toInt ∧ (S17.1 13) = (S.1 13) ∧ (S17.1 15) = (S.1 15) ∧ (S17.1 16) = (S.1 16) + 1 ∧ (S17.2.1 10) (ix (S17.1 12)) = (S.2.1 10) (ix (S.1 12)) := by refine ⟨⟨⟨?_, ?_, ?_, ?_⟩, ?_, ?_, ?_, ?_⟩, ?_, ?_, ?_, ?_, ?_, ?_, ?_, ?_, ?_⟩ <;> ((try clear hC hA hO hP hk hE tS0 nS2 oS2 aS2 uS2 oS3 aS3 uS3 cS3 dS4 tS4 nS4 mS4 oS4 aS4 uS4 cS4 nS5 oS5 aS5 uS5 cS5 dS6 oS6 aS6 uS6 cS6 dS7 mS7 oS7 aS7 uS7 cS7 dS8 tS8 nS8 oS8 aS8 dS9 tS9 nS9 oS9 aS9 dS10 tS10 nS10 mS10 oS10 aS10 qS11 tS11 dS11 nS11 aS11 dS12 tS12 nS12 oS12 aS12 qS13 tS13 dS13 nS13 aS13 dS14 tS14 nS14 oS14 av14 uS14 cS14 oS14_ tf14 aS14 dp14 pd10 cn14 qS15 tS15 dS15 mS15 cS15 tS17 nS17 mS17 oS17 tf17 pin17 e17 g17 cS17 on17 fi17 aS17 uS17 oS17_); (try clear j425); (try clear j394); (try clear j230); (try clear hr_block); (try clear hf_block); grind -mbtc (splits := 20) (gen := 40) (ematch := 20) [SI, PT, WB_ad2, WB_nt, WB_on, WB_fi, WB_nf, LA_n, LA_p, OR1, B01, PTc_up, ix_int, ix_1, XI, PI, PJ, BU, LV, LA_i, q_zz, q_za, q_zga, q_fza, q_fx, q_fga, q_gza, q_gfa, q_gx, q_zf1, q_zg1, q_ff, q_fg1, q_gf1, q_gg, ti_link, in1000])
  (try clear eS17); (try clear ez16); (try clear fS15); (try clear eS14); (try clear fS13); (try clear eS12); (try clear fS11); (try clear eS10); (try clear eS9); (try clear eS8); (try clear eS7); (try clear eS6); (try clear eS5); (try clear eS4); (try clear eS3); (try clear eS2); (try clear ez1); (try clear g17); (try clear e17); (try clear oS17); (try clear mS17); (try clear nS17); (try clear tS17); (try clear cS15); (try clear mS15); (try clear dS15); (try clear tS15); (try clear qS15); (try clear cn14); (try clear pd10); (try clear dp14); (try clear aS14); (try clear tf14); (try clear oS14_); (try clear cS14); (try clear uS14); (try clear av14); (try clear oS14); (try clear nS14); (try clear tS14); (try clear dS14); (try clear aS13); (try clear nS13); (try clear dS13); (try clear tS13); (try clear qS13); (try clear aS12); (try clear oS12); (try clear nS12); (try clear tS12); (try clear dS12); (try clear aS11); (try clear nS11); (try clear dS11); (try clear tS11); (try clear qS11); (try clear aS10); (try clear oS10); (try clear mS10); (try clear nS10); (try clear tS10); (try clear dS10); (try clear aS9); (try clear oS9); (try clear nS9); (try clear tS9); (try clear dS9); (try clear aS8); (try clear oS8); (try clear nS8); (try clear tS8); (try clear dS8); (try clear cS7); (try clear uS7); (try clear aS7); (try clear oS7); (try clear mS7); (try clear dS7); (try clear cS6); (try clear uS6); (try clear aS6); (try clear oS6); (try clear dS6); (try clear cS5); (try clear uS5); (try clear aS5); (try clear oS5); (try clear nS5); (try clear cS4); (try clear uS4); (try clear aS4); (try clear oS4); (try clear mS4); (try clear nS4); (try clear tS4); (try clear dS4); (try clear cS3); (try clear uS3); (try clear aS3); (try clear oS3); (try clear uS2); (try clear aS2); (try clear oS2); (try clear nS2); (try clear g4a_S15); (try clear g4_S15); (try clear g3a_S15); (try clear g3_S15); (try clear f38a_S15); (try clear f38_S15); (try clear f37a_S15); (try clear f37_S15); (try clear f27a_S15); (try clear f27_S15); (try clear f29a_S15); (try clear f29_S15); (try clear f44a_S15); (try clear f44_S15); (try clear f42a_S15); (try clear f42_S15); (try clear f41a_S15); (try clear f41_S15); (try clear f40a_S15); (try clear f40_S15); (try clear f48a_S15); (try clear f48_S15); (try clear f46a_S15); (try clear f46_S15); (try clear f45a_S15); (try clear f45_S15); (try clear f36a_S15); (try clear f36_S15); (try clear f35a_S15); (try clear f35_S15); (try clear f28a_S15); (try clear f28_S15); (try clear f25a_S15); (try clear f25_S15); (try clear f10a_S15); (try clear f10_S15); (try clear f8a_S15); (try clear f8_S15); (try clear f2a_S15); (try clear f2_S15); (try clear f1a_S15); (try clear f1_S15); (try clear z16_S15); (try clear z20_S15); (try clear z19_S15); (try clear z18_S15); (try clear z17_S15); (try clear z15_S15); (try clear z13_S15); (try clear z12_S15); (try clear z11_S15); (try clear z10_S15); (try clear z9_S15); (try clear z8_S15); (try clear z6_S15); (try clear z4_S15); (try clear z3_S15); (try clear pS15); (try clear g4a_S13); (try clear g4_S13); (try clear g3a_S13); (try clear g3_S13); (try clear f38a_S13); (try clear f38_S13); (try clear f37a_S13); (try clear f37_S13); (try clear f27a_S13); (try clear f27_S13); (try clear f29a_S13); (try clear f29_S13); (try clear f44a_S13); (try clear f44_S13); (try clear f42a_S13); (try clear f42_S13); (try clear f41a_S13); (try clear f41_S13); (try clear f40a_S13); (try clear f40_S13); (try clear f48a_S13); (try clear f48_S13); (try clear f46a_S13); (try clear f46_S13); (try clear f45a_S13); (try clear f45_S13); (try clear f36a_S13); (try clear f36_S13); (try clear f35a_S13); (try clear f35_S13); (try clear f28a_S13); (try clear f28_S13); (try clear f25a_S13); (try clear f25_S13); (try clear f10a_S13); (try clear f10_S13); (try clear f8a_S13); (try clear f8_S13); (try clear f2a_S13); (try clear f2_S13); (try clear f1a_S13); (try clear f1_S13); (try clear z16_S13); (try clear z20_S13); (try clear z19_S13); (try clear z18_S13); (try clear z17_S13); (try clear z15_S13); (try clear z13_S13); (try clear z12_S13); (try clear z11_S13); (try clear z10_S13); (try clear z9_S13); (try clear z7_S13); (try clear z6_S13); (try clear z4_S13); (try clear z3_S13); (try clear pS13); (try clear g4a_S11); (try clear g4_S11); (try clear g3a_S11); (try clear g3_S11); (try clear f38a_S11); (try clear f38_S11); (try clear f37a_S11); (try clear f37_S11); (try clear f27a_S11); (try clear f27_S11); (try clear f29a_S11); (try clear f29_S11); (try clear f44a_S11); (try clear f44_S11); (try clear f42a_S11); (try clear f42_S11); (try clear f41a_S11); (try clear f41_S11); (try clear f40a_S11); (try clear f40_S11); (try clear f48a_S11); (try clear f48_S11); (try clear f46a_S11); (try clear f46_S11); (try clear f45a_S11); (try clear f45_S11); (try clear f36a_S11); (try clear f36_S11); (try clear f35a_S11); (try clear f35_S11); (try clear f28a_S11); (try clear f28_S11); (try clear f25a_S11); (try clear f25_S11); (try clear f10a_S11); (try clear f10_S11); (try clear f8a_S11); (try clear f8_S11); (try clear f2a_S11); (try clear f2_S11); (try clear f1a_S11); (try clear f1_S11); (try clear z16_S11); (try clear z20_S11); (try clear z19_S11); (try clear z18_S11); (try clear z17_S11); (try clear z15_S11); (try clear z13_S11); (try clear z12_S11); (try clear z11_S11); (try clear z10_S11); (try clear z9_S11); (try clear z7_S11); (try clear z6_S11); (try clear z4_S11); (try clear z3_S11); (try clear pS11)
  refine fm_inBlock hf_block _ _ _ _ _ (fun S18 hF4 pS18 => ?_) (sg_inBlock hf_block hr_block (nx := nx) (n := n) (so := so) (pl := pl) (wo := wo) (ws := ws) (S0 := S0) (d := d) (G := (G + 2)) (GA := (GA + 2)) (X := (X + 2)) (Y := (Y + 2)) (GW := GW) (GT := (GT + 9)) (D := D) (kL := ((ix (S.1 9), 1, (0 : Int32)) :: (ix (S.1 9), 2, (0 : Int32)) :: (ix (S.1 9), 3, (0 : Int32)) :: kL)) (kd := (kd + 1)) _ _ (by (try clear hC hA hO hP hk hE tS0 tf17 pin17 cS17 on17 fi17 aS17 uS17 oS17_ h); (try clear j425); (try clear j394); (try clear j230); (try clear hr_block); (try clear hf_block); grind -mbtc (splits := 20) (gen := 40) (ematch := 20) [SI, PT, WB_ad2, WB_nt, WB_on, WB_fi, WB_nf, LA_n, LA_p, OR1, B01, PTc_up, ix_int, ix_1, XI, PI, PJ, BU, LV, LA_i, q_zz, q_za, q_zga, q_fza, q_fx, q_fga, q_gza, q_gfa, q_gx, q_zf1, q_zg1, q_ff, q_fg1, q_gf1, q_gg, ti_link, in1000]) (by (try clear hC hA hO hP hk hE tS0 tf17 pin17 cS17 on17 fi17 aS17 uS17 oS17_ h); (try clear j425); (try clear j394); (try clear j230); (try clear hr_block); (try clear hf_block); grind -mbtc (splits := 20) (gen := 40) (ematch := 20) [SI, PT, WB_ad2, WB_nt, WB_on, WB_fi, WB_nf, LA_n, LA_p, OR1, B01, PTc_up, ix_int, ix_1, XI, PI, PJ, BU, LV, LA_i, q_zz, q_za, q_zga, q_fza, q_fx, q_fga, q_gza, q_gfa, q_gx, q_zf1, q_zg1, q_ff, q_fg1, q_gf1, q_gg, ti_link, in1000]) (by (try clear hC hA hO hP hk hE tS0 tf17 pin17 cS17 on17 fi17 aS17 uS17 oS17_ h); (try clear j425); (try clear j394); (try clear j230); (try clear hr_block); (try clear hf_block); grind -mbtc (splits := 20) (gen := 40) (ematch := 20) [SI, PT, WB_ad2, WB_nt, WB_on, WB_fi, WB_nf, LA_n, LA_p, OR1, B01, PTc_up, ix_int, ix_1, XI, PI, PJ, BU, LV, LA_i, q_zz, q_za, q_zga, q_fza, q_fx, q_fga, q_gza, q_gfa, q_gx, q_zf1, q_zg1, q_ff, q_fg1, q_gf1, q_gg, ti_link, in1000]) (by (try clear hC hA hO hP hk hE tS0 tf17 pin17 cS17 on17 fi17 aS17 uS17 oS17_ h); (try clear j425); (try clear j394); (try clear j230); (try clear hr_block); (try clear hf_block); grind -mbtc (splits := 20) (gen := 40) (ematch := 20) [SI, PT, WB_ad2, WB_nt, WB_on, WB_fi, WB_nf, LA_n, LA_p, OR1, B01, PTc_up, ix_int, ix_1, XI, PI, PJ, BU, LV, LA_i, q_zz, q_za, q_zga, q_fza, q_fx, q_fga, q_gza, q_gfa, q_gx, q_zf1, q_zg1, q_ff, q_fg1, q_gf1, q_gg, ti_link, in1000]) (by (try clear hC hA hO hP hk hE tS0 tf17 pin17 cS17 on17 fi17 aS17 uS17 oS17_ h); (try clear j425); (try clear j394); (try clear j230); (try clear hr_block); (try clear hf_block); grind -mbtc (splits := 20) (gen := 40) (ematch := 20) [SI, PT, WB_ad2, WB_nt, WB_on, WB_fi, WB_nf, LA_n, LA_p, OR1, B01, PTc_up, ix_int, ix_1, XI, PI, PJ, BU, LV, LA_i, q_zz, q_za, q_zga, q_fza, q_fx, q_fga, q_gza, q_gfa, q_gx, q_zf1, q_zg1, q_ff, q_fg1, q_gf1, q_gg, ti_link, in1000]) (by (try clear hC hA hO hP hk hE tS0 tf17 pin17 cS17 on17 fi17 aS17 uS17 oS17_ h); (try clear j425); (try clear j394); (try clear j230); (try clear hr_block); (try clear hf_block); grind -mbtc (splits := 20) (gen := 40) (ematch := 20) [SI, PT, WB_ad2, WB_nt, WB_on, WB_fi, WB_nf, LA_n, LA_p, OR1, B01, PTc_up, ix_int, ix_1, XI, PI, PJ, BU, LV, LA_i, q_zz, q_za, q_zga, q_fza, q_fx, q_fga, q_gza, q_gfa, q_gx, q_zf1, q_zg1, q_ff, q_fg1, q_gf1, q_gg, ti_link, in1000]) (by (try clear j425); (try clear j394); (try clear j230); (try clear hr_block); (try clear hf_block); grind (ematch := 30) (gen := 40) (splits := 15) [→ CF_nc, → CS_nc, → AF_na, → OH_no, → CS_step, → CS_CF, AF_nf, AQ_o, CS_nf, q_zz, q_za, q_zga, q_fza, q_fx, q_fga, q_gza, q_gfa, q_gx, q_zf1, q_zg1, q_ff, q_fg1, q_gf1, q_gg, AV_i, → CD_nc, CD_nf, ← CD_CS, → PD_np, → TM_nt, → TM_tr, ti_link]) (by (try clear j425); (try clear j394); (try clear j230); (try clear hr_block); (try clear hf_block); grind (ematch := 30) (gen := 40) (splits := 15) [→ CF_nc, → CS_nc, → AF_na, → OH_no, → CS_step, → CS_CF, AF_nf, AQ_o, CS_nf, q_zz, q_za, q_zga, q_fza, q_fx, q_fga, q_gza, q_gfa, q_gx, q_zf1, q_zg1, q_ff, q_fg1, q_gf1, q_gg, AV_i, → CD_nc, CD_nf, ← CD_CS, → PD_np, → TM_nt, → TM_tr, ti_link]) (by (try clear j425); (try clear j394); (try clear j230); (try clear hr_block); (try clear hf_block); grind (ematch := 30) (gen := 40) (splits := 15) [→ CF_nc, → CS_nc, → AF_na, → OH_no, → CS_step, → CS_CF, AF_nf, AQ_o, CS_nf, q_zz, q_za, q_zga, q_fza, q_fx, q_fga, q_gza, q_gfa, q_gx, q_zf1, q_zg1, q_ff, q_fg1, q_gf1, q_gg, AV_i, → CD_nc, CD_nf, ← CD_CS, → PD_np, → TM_nt, → TM_tr, ti_link]) (by (try clear j425); (try clear j394); (try clear j230); (try clear hr_block); (try clear hf_block); grind (ematch := 30) (gen := 40) (splits := 15) [→ CF_nc, → CS_nc, → AF_na, → OH_no, → CS_step, → CS_CF, AF_nf, AQ_o, CS_nf, q_zz, q_za, q_zga, q_fza, q_fx, q_fga, q_gza, q_gfa, q_gx, q_zf1, q_zg1, q_ff, q_fg1, q_gf1, q_gg, AV_i, → CD_nc, CD_nf, ← CD_CS, → PD_np, → TM_nt, → TM_tr, ti_link]) (by (try clear j425); (try clear j394); (try clear j230); (try clear hr_block); (try clear hf_block); grind (ematch := 30) (gen := 40) (splits := 15) [→ CF_nc, → CS_nc, → AF_na, → OH_no, → CS_step, → CS_CF, AF_nf, AQ_o, CS_nf, q_zz, q_za, q_zga, q_fza, q_fx, q_fga, q_gza, q_gfa, q_gx, q_zf1, q_zg1, q_ff, q_fg1, q_gf1, q_gg, AV_i, → CD_nc, CD_nf, ← CD_CS, → PD_np, → TM_nt, → TM_tr, ti_link]))
  obtain ⟨pS18, qS18⟩ := pS18
  have z6_S18 := hF4.1 6 (by decide)
  have z12_S18 := hF4.1 12 (by decide)
  have f1_S18 := hF4.2.1 1 (by decide)
  have f1a_S18 := Fr_fa hF4 1 (by decide)
  have f2_S18 := hF4.2.1 2 (by decide)
  have f2a_S18 := Fr_fa hF4 2 (by decide)
  have g3_S18 := hF4.2.2 3 (by decide)
  have g3a_S18 := Fr_ga hF4 3 (by decide)
  have g4_S18 := hF4.2.2 4 (by decide)
  have g4a_S18 := Fr_ga hF4 4 (by decide)
  clear hF4
  have fi18 : (S18.2.1 29) (ix (S.1 9)) = 0 := (qS18.2.2.2.2.2.1 (ix (S.1 9)) (by (try clear hC hA hO hP hk hE tS0 tf17 pin17 cS17 on17 fi17 aS17 uS17 oS17_ h qS18); (try clear j425); (try clear j394); (try clear j230); (try clear hr_block); (try clear hf_block); grind -mbtc (splits := 20) (gen := 40) (ematch := 20) [SI, PT, WB_ad2, WB_nt, WB_on, WB_fi, WB_nf, LA_n, LA_p, OR1, B01, PTc_up, ix_int, ix_1, XI, PI, PJ, BU, LV, LA_i, q_zz, q_za, q_zga, q_fza, q_fx, q_fga, q_gza, q_gfa, q_gx, q_zf1, q_zg1, q_ff, q_fg1, q_gf1, q_gg, ti_link, in1000])).2.2.2.trans fi17
  have tf18 : TF nx S (S.1 9) S18 := TF_tm tf17 qS18.2.2.2
  have uS18 : TM S S18 := TM_tr uS17 qS18.2.2.2
  have  on18 : (S18.2.1 28) (ix (S.1 9)) = 0 := (qS18.2.2.2.2.2.1 (ix (S.1 9)) (by (try clear hC hA hO hP hk hE tS0 tf17 pin17 cS17 on17 fi17 aS17 uS17 oS17_ h qS18 fi18 tf18 uS18); (try clear j425); (try clear j394); (try clear j230); (try clear hr_block); (try clear hf_block); grind -mbtc (splits := 20) (gen := 40) (ematch := 20) [SI, PT, WB_ad2, WB_nt, WB_on, WB_fi, WB_nf, LA_n, LA_p, OR1, B01, PTc_up, ix_int, ix_1, XI, PI, PJ, BU, LV, LA_i, q_zz, q_za, q_zga, q_fza, q_fx, q_fga, q_gza, q_gfa, q_gx, q_zf1, q_zg1, q_ff, q_fg1, q_gf1, q_gg, ti_link, in1000])).2.2.1.trans on17
  refine fm_emit _ _ _ _ _ _ (fun S19 r19 hF5 pS19 => ?_) (sg_emit (nx := nx) _ _ _ (by (try clear hC hA hO hP hk hE tS0 tf17 pin17 cS17 on17 fi17 aS17 uS17 oS17_ h qS18 fi18 tf18 uS18); (try clear j425); (try clear j394); (try clear j230); (try clear hr_block); (try clear hf_block); grind -mbtc (splits := 20) (gen := 40) (ematch := 20) [SI, PT, WB_ad2, WB_nt, WB_on, WB_fi, WB_nf, LA_n, LA_p, OR1, B01, PTc_up, ix_int, ix_1, XI, PI, PJ, BU, LV, LA_i, q_zz, q_za, q_zga, q_fza, q_fx, q_fga, q_gza, q_gfa, q_gx, q_zf1, q_zg1, q_ff, q_fg1, q_gf1, q_gg, ti_link, in1000]))
  obtain ⟨pS19, qS19⟩ := pS19
  have tS19 : NT S18 S19 := NT_fr hF5 (by decide) (by decide)
  have fS19 : S19.1 4 = 0 → S18.1 4 = 0 := fun q => (hF5.1 4 (by decide)).symm.trans q
  have dS19 : NP S18 S19 := NP_fr hF5 (by decide) (by decide) fS19
  have mS19 : NA S18 S19 := NA_fr hF5 (by decide) (by decide) fS19
  have z3_S19 := hF5.1 3 (by decide)
  have z4_S19 := hF5.1 4 (by decide)
  have z6_S19 := hF5.1 6 (by decide)
  have z8_S19 := hF5.1 8 (by decide)
  have z9_S19 := hF5.1 9 (by decide)
  have z10_S19 := hF5.1 10 (by decide)
  have z11_S19 := hF5.1 11 (by decide)
  have z12_S19 := hF5.1 12 (by decide)
  have z13_S19 := hF5.1 13 (by decide)
  have z15_S19 := hF5.1 15 (by decide)
  have z17_S19 := hF5.1 17 (by decide)
  have z18_S19 := hF5.1 18 (by decide)
  have z19_S19 := hF5.1 19 (by decide)
  have z20_S19 := hF5.1 20 (by decide)
  have z16_S19 := hF5.1 16 (by decide)
  have f1_S19 := hF5.2.1 1 (by decide)
  have f1a_S19 := Fr_fa hF5 1 (by decide)
  have f2_S19 := hF5.2.1 2 (by decide)
  have f2a_S19 := Fr_fa hF5 2 (by decide)
  have f8_S19 := hF5.2.1 8 (by decide)
  have f8a_S19 := Fr_fa hF5 8 (by decide)
  have f10_S19 := hF5.2.1 10 (by decide)
  have f10a_S19 := Fr_fa hF5 10 (by decide)
  have f25_S19 := hF5.2.1 25 (by decide)
  have f25a_S19 := Fr_fa hF5 25 (by decide)
  have f28_S19 := hF5.2.1 28 (by decide)
  have f28a_S19 := Fr_fa hF5 28 (by decide)
  have f35_S19 := hF5.2.1 35 (by decide)
  have f35a_S19 := Fr_fa hF5 35 (by decide)
  have f36_S19 := hF5.2.1 36 (by decide)
  have f36a_S19 := Fr_fa hF5 36 (by decide)
  have f45_S19 := hF5.2.1 45 (by decide)
  have f45a_S19 := Fr_fa hF5 45 (by decide)
  have f46_S19 := hF5.2.1 46 (by decide)
  have f46a_S19 := Fr_fa hF5 46 (by decide)
  have f48_S19 := hF5.2.1 48 (by decide)
  have f48a_S19 := Fr_fa hF5 48 (by decide)
  have f40_S19 := hF5.2.1 40 (by decide)
  have f40a_S19 := Fr_fa hF5 40 (by decide)
  have f41_S19 := hF5.2.1 41 (by decide)
  have f41a_S19 := Fr_fa hF5 41 (by decide)
  have f42_S19 := hF5.2.1 42 (by decide)
  have f42a_S19 := Fr_fa hF5 42 (by decide)
  have f44_S19 := hF5.2.1 44 (by decide)
  have f44a_S19 := Fr_fa hF5 44 (by decide)
  have f29_S19 := hF5.2.1 29 (by decide)
  have f29a_S19 := Fr_fa hF5 29 (by decide)
  have f27_S19 := hF5.2.1 27 (by decide)
  have f27a_S19 := Fr_fa hF5 27 (by decide)
  have f37_S19 := hF5.2.1 37 (by decide)
  have f37a_S19 := Fr_fa hF5 37 (by decide)
  have f38_S19 := hF5.2.1 38 (by decide)
  have f38a_S19 := Fr_fa hF5 38 (by decide)
  have g3_S19 := hF5.2.2 3 (by decide)
  have g3a_S19 := Fr_ga hF5 3 (by decide)
  have g4_S19 := hF5.2.2 4 (by decide)
  have g4a_S19 := Fr_ga hF5 4 (by decide)
  clear hF5
  have cS19 : CD nx ((ix (S.1 9), 1, (0 : Int32)) :: (ix (S.1 9), 2, (0 : Int32)) :: (ix (S.1 9), 3, (0 : Int32)) :: kL) (S18.1 9).toInt (S18.1 10).toInt S19 := CD_leave qS19.1 qS18.1 ⟨by (try clear hC hA hO hP hk hE tS0 tf17 pin17 cS17 on17 fi17 aS17 uS17 oS17_ h qS18 fi18 tf18 uS18 qS19 tS19 dS19 mS19); (try clear j425); (try clear j394); (try clear j230); (try clear hr_block); (try clear hf_block); grind -mbtc (splits := 20) (gen := 40) (ematch := 20) [SI, PT, WB_ad2, WB_nt, WB_on, WB_fi, WB_nf, LA_n, LA_p, OR1, B01, PTc_up, ix_int, ix_1, XI, PI, PJ, BU, LV, LA_i, q_zz, q_za, q_zga, q_fza, q_fx, q_fga, q_gza, q_gfa, q_gx, q_zf1, q_zg1, q_ff, q_fg1, q_gf1, q_gg, ti_link, in1000], tf18.2.2.2.2.2.2.1⟩ (List.mem_cons_of_mem _ (List.mem_cons_self ..))
  have aS19 : AF nx ((S18.2.1 10) (ix (S18.1 12))).toInt S19 := AF_na mS19 qS18.2.1
  have tf19 : TF nx S (S.1 9) S19 := TF_tm tf18 tS19
  have uS19 : TM S S19 := TM_nt uS18 tS19
  have oS19_ : OH nx S0 S19 := by (try clear j425); (try clear j394); (try clear j230); (try clear hr_block); (try clear hf_block); grind (ematch := 30) (gen := 40) (splits := 15) [→ CF_nc, → CS_nc, → AF_na, → OH_no, → CS_step, → CS_CF, AF_nf, AQ_o, CS_nf, q_zz, q_za, q_zga, q_fza, q_fx, q_fga, q_gza, q_gfa, q_gx, q_zf1, q_zg1, q_ff, q_fg1, q_gf1, q_gg, AV_i, → CD_nc, CD_nf, ← CD_CS, → PD_np, → TM_nt, → TM_tr, ti_link]
  have on19 : (S19.2.1 28) (ix (S.1 9)) = 0 := by (try clear j425); (try clear j394); (try clear j230); (try clear hr_block); (try clear hf_block); grind (ematch := 30) (gen := 40) (splits := 15) [→ CF_nc, → CS_nc, → AF_na, → OH_no, → CS_step, → CS_CF, AF_nf, AQ_o, CS_nf, q_zz, q_za, q_zga, q_fza, q_fx, q_fga, q_gza, q_gfa, q_gx, q_zf1, q_zg1, q_ff, q_fg1, q_gf1, q_gg, AV_i, → CD_nc, CD_nf, ← CD_CS, → PD_np, → TM_nt, → TM_tr, ti_link]
  have fi19 : (S19.2.1 29) (ix (S.1 9)) = 0 := by (try clear j425); (try clear j394); (try clear j230); (try clear hr_block); (try clear hf_block); grind (ematch := 30) (gen := 40) (splits := 15) [→ CF_nc, → CS_nc, → AF_na, → OH_no, → CS_step, → CS_CF, AF_nf, AQ_o, CS_nf, q_zz, q_za, q_zga, q_fza, q_fx, q_fga, q_gza, q_gfa, q_gx, q_zf1, q_zg1, q_ff, q_fg1, q_gf1, q_gg, AV_i, → CD_nc, CD_nf, ← CD_CS, → PD_np, → TM_nt, → TM_tr, ti_link]
  have cd19 : CD nx ((ix (S.1 9), 1, (0 : Int32)) :: (ix (S.1 9), 2, (0 : Int32)) :: (ix (S.1 9), 3, (0 : Int32)) :: kL) (S19.1 9).toInt (S19.1 10).toInt S19 := by (try clear j425); (try clear j394); (try clear j230); (try clear hr_block); (try clear hf_block); grind (ematch := 30) (gen := 40) (splits := 15) [→ CF_nc, → CS_nc, → AF_na, → OH_no, → CS_step, → CS_CF, AF_nf, AQ_o, CS_nf, q_zz, q_za, q_zga, q_fza, q_fx, q_fga, q_gza, q_gfa, q_gx, q_zf1, q_zg1, q_ff, q_fg1, q_gf1, q_gg, AV_i, → CD_nc, CD_nf, ← CD_CS, → PD_np, → TM_nt, → TM_tr, ti_link]
  have hs19 : SI nx n so pl wo ws S0 d (G - 6) (GA - 2) (X + 4) (Y + 2) GW (GT + 7) S19 ∧ ((S19.1 4) = 0 → (S.1 3).toInt < (S19.1 3).toInt) ∧ (S.1 8).toInt ≤ (S19.1 8).toInt ∧ (S.1 10).toInt ≤ (S19.1 10).toInt ∧ (S.1 9).toInt < (S19.1 9).toInt ∧ 500 * nx ≤ (S.1 9).toInt ∧ (S19.1 13) = (S.1 13) ∧ (S19.1 15) = (S.1 15) ∧ (S19.1 16) = (S.1 16) + 1 ∧ (S19.2.1 10) (ix (S19.1 12)) = (S18.2.1 10) (ix (S18.1 12)) ∧ (S19.2.1 28) (ix (S.1 9)) = 0 := by refine ⟨⟨⟨?_, ?_, ?_, ?_⟩, ?_, ?_, ?_, ?_⟩, ?_, ?_, ?_, ?_, ?_, ?_, ?_, ?_, ?_, ?_⟩ <;> ((try clear hC hA hO hP hk hE tS0 tf17 pin17 cS17 on17 fi17 aS17 uS17 oS17_ h qS18 fi18 tf18 uS18 qS19 tS19 dS19 mS19 cS19 aS19 tf19 uS19 oS19_ on19 fi19 cd19); (try clear j425); (try clear j394); (try clear j230); (try clear hr_block); (try clear hf_block); grind -mbtc (splits := 20) (gen := 40) (ematch := 20) [SI, PT, WB_ad2, WB_nt, WB_on, WB_fi, WB_nf, LA_n, LA_p, OR1, B01, PTc_up, ix_int, ix_1, XI, PI, PJ, BU, LV, LA_i, q_zz, q_za, q_zga, q_fza, q_fx, q_fga, q_gza, q_gfa, q_gx, q_zf1, q_zg1, q_ff, q_fg1, q_gf1, q_gg, ti_link, in1000])
  (try clear fS19); (try clear cS19); (try clear mS19); (try clear dS19); (try clear tS19); (try clear qS19); (try clear uS18); (try clear tf18); (try clear fi18); (try clear qS18); (try clear oS17_); (try clear uS17); (try clear aS17); (try clear fi17); (try clear on17); (try clear cS17); (try clear pin17); (try clear tf17); (try clear g4a_S19); (try clear g4_S19); (try clear g3a_S19); (try clear g3_S19); (try clear f38a_S19); (try clear f38_S19); (try clear f37a_S19); (try clear f37_S19); (try clear f27a_S19); (try clear f27_S19); (try clear f29a_S19); (try clear f29_S19); (try clear f44a_S19); (try clear f44_S19); (try clear f42a_S19); (try clear f42_S19); (try clear f41a_S19); (try clear f41_S19); (try clear f40a_S19); (try clear f40_S19); (try clear f48a_S19); (try clear f48_S19); (try clear f46a_S19); (try clear f46_S19); (try clear f45a_S19); (try clear f45_S19); (try clear f36a_S19); (try clear f36_S19); (try clear f35a_S19); (try clear f35_S19); (try clear f28a_S19); (try clear f28_S19); (try clear f25a_S19); (try clear f25_S19); (try clear f10a_S19); (try clear f10_S19); (try clear f8a_S19); (try clear f8_S19); (try clear f2a_S19); (try clear f2_S19); (try clear f1a_S19); (try clear f1_S19); (try clear z16_S19); (try clear z20_S19); (try clear z19_S19); (try clear z18_S19); (try clear z17_S19); (try clear z15_S19); (try clear z13_S19); (try clear z12_S19); (try clear z11_S19); (try clear z10_S19); (try clear z9_S19); (try clear z8_S19); (try clear z6_S19); (try clear z4_S19); (try clear z3_S19); (try clear pS19); (try clear g4a_S18); (try clear g4_S18); (try clear g3a_S18); (try clear g3_S18); (try clear f2a_S18); (try clear f2_S18); (try clear f1a_S18); (try clear f1_S18); (try clear z12_S18); (try clear z6_S18); (try clear pS18); (try clear hs17)
  refine fm_hasWord _ _ _ _ (fun S20 r20 hF6 pS20 => ?_) (sg_hasWord (nx := nx) (n := n) (so := so) (pl := pl) (wo := wo) (ws := ws) _ (by (try clear hC hA hO hP hk hE tS0 aS19 tf19 uS19 oS19_ on19 fi19 cd19); (try clear j425); (try clear j394); (try clear j230); (try clear hr_block); (try clear hf_block); grind -mbtc (splits := 20) (gen := 40) (ematch := 20) [SI, PT, WB_ad2, WB_nt, WB_on, WB_fi, WB_nf, LA_n, LA_p, OR1, B01, PTc_up, ix_int, ix_1, XI, PI, PJ, BU, LV, LA_i, q_zz, q_za, q_zga, q_fza, q_fx, q_fga, q_gza, q_gfa, q_gx, q_zf1, q_zg1, q_ff, q_fg1, q_gf1, q_gg, ti_link, in1000]) (by (try clear hC hA hO hP hk hE tS0 aS19 tf19 uS19 oS19_ on19 fi19 cd19); (try clear j425); (try clear j394); (try clear j230); (try clear hr_block); (try clear hf_block); grind -mbtc (splits := 20) (gen := 40) (ematch := 20) [SI, PT, WB_ad2, WB_nt, WB_on, WB_fi, WB_nf, LA_n, LA_p, OR1, B01, PTc_up, ix_int, ix_1, XI, PI, PJ, BU, LV, LA_i, q_zz, q_za, q_zga, q_fza, q_fx, q_fga, q_gza, q_gfa, q_gx, q_zf1, q_zg1, q_ff, q_fg1, q_gf1, q_gg, ti_link, in1000]))
  have tS20 : NT S19 S20 := NT_fr hF6 (by decide) (by decide)
  have fS20 : S20.1 4 = 0 → S19.1 4 = 0 := fun q => (hF6.1 4 (by decide)).symm.trans q
  have dS20 : NP S19 S20 := NP_fr hF6 (by decide) (by decide) fS20
  have nS20 : NC S19 S20 := NC_fr hF6 (by decide) (by decide) fS20
  have mS20 : NA S19 S20 := NA_fr hF6 (by decide) (by decide) fS20
  have oS20 : NO nx S19 S20 := NO_fr hF6 (by decide) (by decide)
  have z4_S20 := hF6.1 4 (by decide)
  have z6_S20 := hF6.1 6 (by decide)
  have z7_S20 := hF6.1 7 (by decide)
  have z8_S20 := hF6.1 8 (by decide)
  have z9_S20 := hF6.1 9 (by decide)
  have z10_S20 := hF6.1 10 (by decide)
  have z11_S20 := hF6.1 11 (by decide)
  have z12_S20 := hF6.1 12 (by decide)
  have z13_S20 := hF6.1 13 (by decide)
  have z15_S20 := hF6.1 15 (by decide)
  have z17_S20 := hF6.1 17 (by decide)
  have z18_S20 := hF6.1 18 (by decide)
  have z19_S20 := hF6.1 19 (by decide)
  have z20_S20 := hF6.1 20 (by decide)
  have z16_S20 := hF6.1 16 (by decide)
  have f1_S20 := hF6.2.1 1 (by decide)
  have f1a_S20 := Fr_fa hF6 1 (by decide)
  have f2_S20 := hF6.2.1 2 (by decide)
  have f2a_S20 := Fr_fa hF6 2 (by decide)
  have f8_S20 := hF6.2.1 8 (by decide)
  have f8a_S20 := Fr_fa hF6 8 (by decide)
  have f10_S20 := hF6.2.1 10 (by decide)
  have f10a_S20 := Fr_fa hF6 10 (by decide)
  have f25_S20 := hF6.2.1 25 (by decide)
  have f25a_S20 := Fr_fa hF6 25 (by decide)
  have f28_S20 := hF6.2.1 28 (by decide)
  have f28a_S20 := Fr_fa hF6 28 (by decide)
  have f35_S20 := hF6.2.1 35 (by decide)
  have f35a_S20 := Fr_fa hF6 35 (by decide)
  have f36_S20 := hF6.2.1 36 (by decide)
  have f36a_S20 := Fr_fa hF6 36 (by decide)
  have f45_S20 := hF6.2.1 45 (by decide)
  have f45a_S20 := Fr_fa hF6 45 (by decide)
  have f46_S20 := hF6.2.1 46 (by decide)
  have f46a_S20 := Fr_fa hF6 46 (by decide)
  have f48_S20 := hF6.2.1 48 (by decide)
  have f48a_S20 := Fr_fa hF6 48 (by decide)
  have f40_S20 := hF6.2.1 40 (by decide)
  have f40a_S20 := Fr_fa hF6 40 (by decide)
  have f41_S20 := hF6.2.1 41 (by decide)
  have f41a_S20 := Fr_fa hF6 41 (by decide)
  have f42_S20 := hF6.2.1 42 (by decide)
  have f42a_S20 := Fr_fa hF6 42 (by decide)
  have f44_S20 := hF6.2.1 44 (by decide)
  have f44a_S20 := Fr_fa hF6 44 (by decide)
  have f29_S20 := hF6.2.1 29 (by decide)
  have f29a_S20 := Fr_fa hF6 29 (by decide)
  have f27_S20 := hF6.2.1 27 (by decide)
  have f27a_S20 := Fr_fa hF6 27 (by decide)
  have f37_S20 := hF6.2.1 37 (by decide)
  have f37a_S20 := Fr_fa hF6 37 (by decide)
  have f38_S20 := hF6.2.1 38 (by decide)
  have f38a_S20 := Fr_fa hF6 38 (by decide)
  have g3_S20 := hF6.2.2 3 (by decide)
  have g3a_S20 := Fr_ga hF6 3 (by decide)
  have g4_S20 := hF6.2.2 4 (by decide)
  have g4a_S20 := Fr_ga hF6 4 (by decide)
  clear hF6
  have  wb20 : ¬ r20 = 0 → WB nx pl GW (GT + 5) S20 := fun h9 => by
        have p9 := pS20.2.2.resolve_left (fun q => h9 q.1)
        have q9 := WB_on (S1 := S20) hs19.1.2.1 hs19.1.2.2.2.1 p9.2.2.2.2.1 p9.2.2.2.2.2 ⟨(hs19.1.1.1.2.2.2.2.2.2 p9.2.1).1, p9.2.2.1⟩ p9.2.2.2.1 pS20.2.1 z10_S20 z9_S20
        have e9 : GT + 7 - 2 = GT + 5 := by omega
        rw [e9] at q9
        exact q9
  have tf20 : TF nx S (S.1 9) S20 := TF_tm tf19 tS20
  have uS20 : TM S S20 := TM_nt uS19 tS20
  have cS20 : CD nx ((ix (S.1 9), 1, (0 : Int32)) :: (ix (S.1 9), 2, (0 : Int32)) :: (ix (S.1 9), 3, (0 : Int32)) :: kL) (S20.1 9).toInt (S20.1 10).toInt S20 := by (try clear j425); (try clear j394); (try clear j230); (try clear hr_block); (try clear hf_block); grind (ematch := 30) (gen := 40) (splits := 15) [→ CF_nc, → CS_nc, → AF_na, → OH_no, → CS_step, → CS_CF, AF_nf, AQ_o, CS_nf, q_zz, q_za, q_zga, q_fza, q_fx, q_fga, q_gza, q_gfa, q_gx, q_zf1, q_zg1, q_ff, q_fg1, q_gf1, q_gg, AV_i, → CD_nc, CD_nf, ← CD_CS, → PD_np, → TM_nt, → TM_tr, ti_link]
  have on20 : (S20.2.1 28) (ix (S.1 9)) = 0 := by (try clear j425); (try clear j394); (try clear j230); (try clear hr_block); (try clear hf_block); grind (ematch := 30) (gen := 40) (splits := 15) [→ CF_nc, → CS_nc, → AF_na, → OH_no, → CS_step, → CS_CF, AF_nf, AQ_o, CS_nf, q_zz, q_za, q_zga, q_fza, q_fx, q_fga, q_gza, q_gfa, q_gx, q_zf1, q_zg1, q_ff, q_fg1, q_gf1, q_gg, AV_i, → CD_nc, CD_nf, ← CD_CS, → PD_np, → TM_nt, → TM_tr, ti_link]
  have fi20 : (S20.2.1 29) (ix (S.1 9)) = 0 := by (try clear j425); (try clear j394); (try clear j230); (try clear hr_block); (try clear hf_block); grind (ematch := 30) (gen := 40) (splits := 15) [→ CF_nc, → CS_nc, → AF_na, → OH_no, → CS_step, → CS_CF, AF_nf, AQ_o, CS_nf, q_zz, q_za, q_zga, q_fza, q_fx, q_fga, q_gza, q_gfa, q_gx, q_zf1, q_zg1, q_ff, q_fg1, q_gf1, q_gg, AV_i, → CD_nc, CD_nf, ← CD_CS, → PD_np, → TM_nt, → TM_tr, ti_link]
  have cc20 : CD nx ((ix (S.1 9), 2, (0 : Int32)) :: (ix (S.1 9), 3, (0 : Int32)) :: kL) (S20.1 9).toInt (S20.1 10).toInt S20 := CD_ocl (by (try clear hC hA hO hP hk hE tS0 aS19 tf19 uS19 oS19_ on19 fi19 cd19 tS20 dS20 nS20 mS20 oS20 tf20 uS20 cS20 on20 fi20); (try clear j425); (try clear j394); (try clear j230); (try clear hr_block); (try clear hf_block); grind -mbtc (splits := 20) (gen := 40) (ematch := 20) [SI, PT, WB_ad2, WB_nt, WB_on, WB_fi, WB_nf, LA_n, LA_p, OR1, B01, PTc_up, ix_int, ix_1, XI, PI, PJ, BU, LV, LA_i, q_zz, q_za, q_zga, q_fza, q_fx, q_fga, q_gza, q_gfa, q_gx, q_zf1, q_zg1, q_ff, q_fg1, q_gf1, q_gg, ti_link, in1000]) (fun _ => on20) cS20
  have aS20 : AF nx ((S18.2.1 10) (ix (S18.1 12))).toInt S20 := AF_na mS20 aS19
  have vS20 : (S19.1 19).toInt = -1 ∨ AV nx S20 (S19.1 19) := (AV_last aS19).imp id (fun q => AV_m q (by (try clear hC hA hO hP hk hE tS0 aS19 tf19 uS19 oS19_ on19 fi19 cd19 tS20 dS20 nS20 mS20 oS20 tf20 uS20 cS20 on20 fi20 cc20 aS20); (try clear j425); (try clear j394); (try clear j230); (try clear hr_block); (try clear hf_block); grind -mbtc (splits := 20) (gen := 40) (ematch := 20) [SI, PT, WB_ad2, WB_nt, WB_on, WB_fi, WB_nf, LA_n, LA_p, OR1, B01, PTc_up, ix_int, ix_1, XI, PI, PJ, BU, LV, LA_i, q_zz, q_za, q_zga, q_fza, q_fx, q_fga, q_gza, q_gfa, q_gx, q_zf1, q_zg1, q_ff, q_fg1, q_gf1, q_gg, ti_link, in1000]) (by (try clear hC hA hO hP hk hE tS0 aS19 tf19 uS19 oS19_ on19 fi19 cd19 tS20 dS20 nS20 mS20 oS20 tf20 uS20 cS20 on20 fi20 cc20 aS20); (try clear j425); (try clear j394); (try clear j230); (try clear hr_block); (try clear hf_block); grind -mbtc (splits := 20) (gen := 40) (ematch := 20) [SI, PT, WB_ad2, WB_nt, WB_on, WB_fi, WB_nf, LA_n, LA_p, OR1, B01, PTc_up, ix_int, ix_1, XI, PI, PJ, BU, LV, LA_i, q_zz, q_za, q_zga, q_fza, q_fx, q_fga, q_gza, q_gfa, q_gx, q_zf1, q_zg1, q_ff, q_fg1, q_gf1, q_gg, ti_link, in1000]))
  refine ⟨fun c7 => ?_, fun c7 => ?_⟩
  · exact j230 _ _ _ _ (⟨by refine ⟨⟨⟨?_, ?_, ?_, ?_⟩, ?_, ?_, ?_, ?_⟩, ?_, ?_, ?_, ?_, ?_, ?_, ?_, ?_, ?_, ?_, ?_, ?_, ?_, ?_⟩ <;> ((try clear hC hA hO hP hk hE tS0 aS19 tf19 uS19 oS19_ on19 fi19 cd19 tS20 dS20 nS20 mS20 oS20 tf20 uS20 cS20 on20 fi20 cc20 aS20 vS20); (try clear j425); (try clear j394); (try clear j230); (try clear hr_block); (try clear hf_block); grind -mbtc (splits := 20) (gen := 40) (ematch := 20) [SI, PT, WB_ad2, WB_nt, WB_on, WB_fi, WB_nf, LA_n, LA_p, OR1, B01, PTc_up, ix_int, ix_1, XI, PI, PJ, BU, LV, LA_i, q_zz, q_za, q_zga, q_fza, q_fx, q_fga, q_gza, q_gfa, q_gx, q_zf1, q_zg1, q_ff, q_fg1, q_gf1, q_gg, ti_link, in1000]), by refine ⟨?_, ?_, ?_, ?_, ?_, ?_, ?_, ?_⟩ <;> ((try clear j425); (try clear j394); (try clear j230); (try clear hr_block); (try clear hf_block); grind (ematch := 30) (gen := 40) (splits := 15) [→ CF_nc, → CS_nc, → AF_na, → OH_no, → CS_step, → CS_CF, AF_nf, AQ_o, CS_nf, q_zz, q_za, q_zga, q_fza, q_fx, q_fga, q_gza, q_gfa, q_gx, q_zf1, q_zg1, q_ff, q_fg1, q_gf1, q_gg, AV_i, → CD_nc, CD_nf, ← CD_CS, → PD_np, → TM_nt, → TM_tr, ti_link])⟩)
  · refine ⟨by (try clear hC hA hO hP hk hE tS0 aS19 tf19 uS19 oS19_ on19 fi19 cd19 tS20 dS20 nS20 mS20 oS20 tf20 uS20 cS20 on20 fi20 cc20 aS20 vS20); (try clear j425); (try clear j394); (try clear j230); (try clear hr_block); (try clear hf_block); grind -mbtc (splits := 20) (gen := 40) (ematch := 20) [SI, PT, WB_ad2, WB_nt, WB_on, WB_fi, WB_nf, LA_n, LA_p, OR1, B01, PTc_up, ix_int, ix_1, XI, PI, PJ, BU, LV, LA_i, q_zz, q_za, q_zga, q_fza, q_fx, q_fga, q_gza, q_gfa, q_gx, q_zf1, q_zg1, q_ff, q_fg1, q_gf1, q_gg, ti_link, in1000], ?_⟩
    intro S22 eS22
    have dS22 : NP S20 S22 := NP_f eS22 (by decide)
    have oS22 : NO nx S20 S22 := NO_f eS22 (nH_t (by decide) (by (try clear hC hA hO hP hk hE tS0 aS19 tf19 uS19 oS19_ on19 fi19 cd19 tS20 dS20 nS20 mS20 oS20 tf20 uS20 cS20 on20 fi20 cc20 aS20 vS20 dS22); (try clear j425); (try clear j394); (try clear j230); (try clear hr_block); (try clear hf_block); grind -mbtc (splits := 20) (gen := 40) (ematch := 20) [SI, PT, WB_ad2, WB_nt, WB_on, WB_fi, WB_nf, LA_n, LA_p, OR1, B01, PTc_up, ix_int, ix_1, XI, PI, PJ, BU, LV, LA_i, q_zz, q_za, q_zga, q_fza, q_fx, q_fga, q_gza, q_gfa, q_gx, q_zf1, q_zg1, q_ff, q_fg1, q_gf1, q_gg, ti_link, in1000]))
    have aS22 : AFv nx ((S18.2.1 10) (ix (S18.1 12))).toInt (S20.1 9).toInt (S20.1 10).toInt (S.1 9).toInt S22 := AFv_f eS22 (Or.inr (Or.inr ⟨by (try clear hC hA hO hP hk hE tS0 aS19 tf19 uS19 oS19_ on19 fi19 cd19 tS20 dS20 nS20 mS20 oS20 tf20 uS20 cS20 on20 fi20 cc20 aS20 vS20 dS22 oS22); (try clear j425); (try clear j394); (try clear j230); (try clear hr_block); (try clear hf_block); grind -mbtc (splits := 20) (gen := 40) (ematch := 20) [SI, PT, WB_ad2, WB_nt, WB_on, WB_fi, WB_nf, LA_n, LA_p, OR1, B01, PTc_up, ix_int, ix_1, XI, PI, PJ, BU, LV, LA_i, q_zz, q_za, q_zga, q_fza, q_fx, q_fga, q_gza, q_gfa, q_gx, q_zf1, q_zg1, q_ff, q_fg1, q_gf1, q_gg, ti_link, in1000], by decide⟩)) (AFv_o _ aS20)
    have cS22 : CS nx ((ix (S.1 9), 1, (0 : Int32)) :: (ix (S.1 9), 2, (0 : Int32)) :: (ix (S.1 9), 3, (0 : Int32)) :: kL) (S20.1 9).toInt (S20.1 10).toInt (S.1 9) S22 := CS_lift (by rw [eS22]; rfl) (fun _ _ _ q => CW_w28 eS22 (Or.inl (List.mem_cons_self ..)) q) (CD_CS _ cS20)
    have uS22 : TM S S22 := TM_fi eS22 (Or.inr ⟨by decide, by (try clear hC hA hO hP hk hE tS0 aS19 tf19 uS19 oS19_ on19 fi19 cd19 tS20 dS20 nS20 mS20 oS20 tf20 uS20 cS20 on20 fi20 cc20 aS20 vS20 dS22 oS22 aS22 cS22); (try clear j425); (try clear j394); (try clear j230); (try clear hr_block); (try clear hf_block); grind -mbtc (splits := 20) (gen := 40) (ematch := 20) [SI, PT, WB_ad2, WB_nt, WB_on, WB_fi, WB_nf, LA_n, LA_p, OR1, B01, PTc_up, ix_int, ix_1, XI, PI, PJ, BU, LV, LA_i, q_zz, q_za, q_zga, q_fza, q_fx, q_fga, q_gza, q_gfa, q_gx, q_zf1, q_zg1, q_ff, q_fg1, q_gf1, q_gg, ti_link, in1000]⟩) uS20
    have tf22 : TF nx S (S.1 9) S22 := TF_np tf20 dS22
    refine fm_takeCell _ _ _ (fun S23 r23 hF8 pS23 => ?_) (sg_takeCell (nx := nx) (n := n) (so := so) (pl := pl) (wo := wo) (ws := ws) (by (try clear hC hA hO hP hk hE tS0 aS19 tf19 uS19 oS19_ on19 fi19 cd19 tS20 dS20 nS20 mS20 oS20 tf20 uS20 cS20 on20 fi20 cc20 aS20 vS20 dS22 oS22 aS22 cS22 uS22 tf22); (try clear j425); (try clear j394); (try clear j230); (try clear hr_block); (try clear hf_block); grind -mbtc (splits := 20) (gen := 40) (ematch := 20) [SI, PT, WB_ad2, WB_nt, WB_on, WB_fi, WB_nf, LA_n, LA_p, OR1, B01, PTc_up, ix_int, ix_1, XI, PI, PJ, BU, LV, LA_i, q_zz, q_za, q_zga, q_fza, q_fx, q_fga, q_gza, q_gfa, q_gx, q_zf1, q_zg1, q_ff, q_fg1, q_gf1, q_gg, ti_link, in1000]) (by (try clear hC hA hO hP hk hE tS0 aS19 tf19 uS19 oS19_ on19 fi19 cd19 tS20 dS20 nS20 mS20 oS20 tf20 uS20 cS20 on20 fi20 cc20 aS20 vS20 dS22 oS22 aS22 cS22 uS22 tf22); (try clear j425); (try clear j394); (try clear j230); (try clear hr_block); (try clear hf_block); grind -mbtc (splits := 20) (gen := 40) (ematch := 20) [SI, PT, WB_ad2, WB_nt, WB_on, WB_fi, WB_nf, LA_n, LA_p, OR1, B01, PTc_up, ix_int, ix_1, XI, PI, PJ, BU, LV, LA_i, q_zz, q_za, q_zga, q_fza, q_fx, q_fga, q_gza, q_gfa, q_gx, q_zf1, q_zg1, q_ff, q_fg1, q_gf1, q_gg, ti_link, in1000]) (by (try clear hC hA hO hP hk hE tS0 aS19 tf19 uS19 oS19_ on19 fi19 cd19 tS20 dS20 nS20 mS20 oS20 tf20 uS20 cS20 on20 fi20 cc20 aS20 vS20 dS22 oS22 aS22 cS22 uS22 tf22); (try clear j425); (try clear j394); (try clear j230); (try clear hr_block); (try clear hf_block); grind -mbtc (splits := 20) (gen := 40) (ematch := 20) [SI, PT, WB_ad2, WB_nt, WB_on, WB_fi, WB_nf, LA_n, LA_p, OR1, B01, PTc_up, ix_int, ix_1, XI, PI, PJ, BU, LV, LA_i, q_zz, q_za, q_zga, q_fza, q_fx, q_fga, q_gza, q_gfa, q_gx, q_zf1, q_zg1, q_ff, q_fg1, q_gf1, q_gg, ti_link, in1000]))
    obtain ⟨pS23, qS23⟩ := pS23
    have tS23 : NT S22 S23 := NT_fr hF8 (by decide) (by decide)
    have fS23 : S23.1 4 = 0 → S22.1 4 = 0 := by (try clear hC hA hO hP hk hE tS0 aS19 tf19 uS19 oS19_ on19 fi19 cd19 tS20 dS20 nS20 mS20 oS20 tf20 uS20 cS20 on20 fi20 cc20 aS20 vS20 dS22 oS22 aS22 cS22 uS22 tf22 qS23 tS23); (try clear j425); (try clear j394); (try clear j230); (try clear hr_block); (try clear hf_block); grind [ti_link]
    have dS23 : NP S22 S23 := NP_fr hF8 (by decide) (by decide) fS23
    have nS23 : NC S22 S23 := NC_fr hF8 (by decide) (by decide) fS23
    have mS23 : NA S22 S23 := NA_fr hF8 (by decide) (by decide) fS23
    have z6_S23 := hF8.1 6 (by decide)
    have z7_S23 := hF8.1 7 (by decide)
    have z8_S23 := hF8.1 8 (by decide)
    have z9_S23 := hF8.1 9 (by decide)
    have z10_S23 := hF8.1 10 (by decide)
    have z11_S23 := hF8.1 11 (by decide)
    have z12_S23 := hF8.1 12 (by decide)
    have z13_S23 := hF8.1 13 (by decide)
    have z15_S23 := hF8.1 15 (by decide)
    have z17_S23 := hF8.1 17 (by decide)
    have z18_S23 := hF8.1 18 (by decide)
    have z19_S23 := hF8.1 19 (by decide)
    have z20_S23 := hF8.1 20 (by decide)
    have z16_S23 := hF8.1 16 (by decide)
    have f1_S23 := hF8.2.1 1 (by decide)
    have f1a_S23 := Fr_fa hF8 1 (by decide)
    have f2_S23 := hF8.2.1 2 (by decide)
    have f2a_S23 := Fr_fa hF8 2 (by decide)
    have f10_S23 := hF8.2.1 10 (by decide)
    have f10a_S23 := Fr_fa hF8 10 (by decide)
    have f25_S23 := hF8.2.1 25 (by decide)
    have f25a_S23 := Fr_fa hF8 25 (by decide)
    have f28_S23 := hF8.2.1 28 (by decide)
    have f28a_S23 := Fr_fa hF8 28 (by decide)
    have f35_S23 := hF8.2.1 35 (by decide)
    have f35a_S23 := Fr_fa hF8 35 (by decide)
    have f36_S23 := hF8.2.1 36 (by decide)
    have f36a_S23 := Fr_fa hF8 36 (by decide)
    have f45_S23 := hF8.2.1 45 (by decide)
    have f45a_S23 := Fr_fa hF8 45 (by decide)
    have f46_S23 := hF8.2.1 46 (by decide)
    have f46a_S23 := Fr_fa hF8 46 (by decide)
    have f48_S23 := hF8.2.1 48 (by decide)
    have f48a_S23 := Fr_fa hF8 48 (by decide)
    have f40_S23 := hF8.2.1 40 (by decide)
    have f40a_S23 := Fr_fa hF8 40 (by decide)
    have f41_S23 := hF8.2.1 41 (by decide)
    have f41a_S23 := Fr_fa hF8 41 (by decide)
    have f42_S23 := hF8.2.1 42 (by decide)
    have f42a_S23 := Fr_fa hF8 42 (by decide)
    have f44_S23 := hF8.2.1 44 (by decide)
    have f44a_S23 := Fr_fa hF8 44 (by decide)
    have f29_S23 := hF8.2.1 29 (by decide)
    have f29a_S23 := Fr_fa hF8 29 (by decide)
    have f27_S23 := hF8.2.1 27 (by decide)
    have f27a_S23 := Fr_fa hF8 27 (by decide)
    have f37_S23 := hF8.2.1 37 (by decide)
    have f37a_S23 := Fr_fa hF8 37 (by decide)
    have f38_S23 := hF8.2.1 38 (by decide)
    have f38a_S23 := Fr_fa hF8 38 (by decide)
    have g3_S23 := hF8.2.2 3 (by decide)
    have g3a_S23 := Fr_ga hF8 3 (by decide)
    have g4_S23 := hF8.2.2 4 (by decide)
    have g4a_S23 := Fr_ga hF8 4 (by decide)
    clear hF8
    have aS23 : AFv nx ((S18.2.1 10) (ix (S18.1 12))).toInt (S20.1 9).toInt (S20.1 10).toInt (S.1 9).toInt S23 := AFv_na mS23 aS22
    have cS23 : CS nx ((ix (S.1 9), 1, (0 : Int32)) :: (ix (S.1 9), 2, (0 : Int32)) :: (ix (S.1 9), 3, (0 : Int32)) :: kL) (S20.1 9).toInt (S20.1 10).toInt (S.1 9) S23 := CS_nc nS23 cS22
    have uS23 : TM S S23 := TM_nt uS22 tS23
    have tf23 : TF nx S (S.1 9) S23 := TF_np tf22 dS23
    have lS23 : (S23.1 4) = 0 → 0 ≤ r23.toInt ∧ r23.toInt < 12 := by (try clear hC hA hO hP hk hE tS0 aS19 tf19 uS19 oS19_ on19 fi19 cd19 tS20 dS20 nS20 mS20 oS20 tf20 uS20 cS20 on20 fi20 cc20 aS20 vS20 dS22 oS22 aS22 cS22 uS22 tf22 qS23 tS23 dS23 nS23 mS23 aS23 cS23 uS23 tf23); (try clear j425); (try clear j394); (try clear j230); (try clear hr_block); (try clear hf_block); grind -mbtc (splits := 20) (gen := 40) (ematch := 20) [SI, PT, WB_ad2, WB_nt, WB_on, WB_fi, WB_nf, LA_n, LA_p, OR1, B01, PTc_up, ix_int, ix_1, XI, PI, PJ, BU, LV, LA_i, q_zz, q_za, q_zga, q_fza, q_fx, q_fga, q_gza, q_gfa, q_gx, q_zf1, q_zg1, q_ff, q_fg1, q_gf1, q_gg, ti_link, in1000]
    refine ⟨by (try clear hC hA hO hP hk hE tS0 aS19 tf19 uS19 oS19_ on19 fi19 cd19 tS20 dS20 nS20 mS20 oS20 tf20 uS20 cS20 on20 fi20 cc20 aS20 vS20 dS22 oS22 aS22 cS22 uS22 tf22 qS23 tS23 dS23 nS23 mS23 aS23 cS23 uS23 tf23 lS23); (try clear j425); (try clear j394); (try clear j230); (try clear hr_block); (try clear hf_block); grind -mbtc (splits := 20) (gen := 40) (ematch := 20) [SI, PT, WB_ad2, WB_nt, WB_on, WB_fi, WB_nf, LA_n, LA_p, OR1, B01, PTc_up, ix_int, ix_1, XI, PI, PJ, BU, LV, LA_i, q_zz, q_za, q_zga, q_fza, q_fx, q_fga, q_gza, q_gfa, q_gx, q_zf1, q_zg1, q_ff, q_fg1, q_gf1, q_gg, ti_link, in1000], ?_⟩
    intro S24 eS24
    have dS24 : NP S23 S24 := NP_f eS24 (by decide)
    have tS24 : NT S23 S24 := NT_f eS24 (by decide)
    have mS24 : NA S23 S24 := NA_f eS24 (by decide)
    have oS24 : NO nx S23 S24 := NO_f eS24 (nH_t (by decide) (by (try clear hC hA hO hP hk hE tS0 aS19 tf19 uS19 oS19_ on19 fi19 cd19 tS20 dS20 nS20 mS20 oS20 tf20 uS20 cS20 on20 fi20 cc20 aS20 vS20 dS22 oS22 aS22 cS22 uS22 tf22 qS23 tS23 dS23 nS23 mS23 aS23 cS23 uS23 tf23 lS23 dS24 tS24 mS24); (try clear j425); (try clear j394); (try clear j230); (try clear hr_block); (try clear hf_block); grind -mbtc (splits := 20) (gen := 40) (ematch := 20) [SI, PT, WB_ad2, WB_nt, WB_on, WB_fi, WB_nf, LA_n, LA_p, OR1, B01, PTc_up, ix_int, ix_1, XI, PI, PJ, BU, LV, LA_i, q_zz, q_za, q_zga, q_fza, q_fx, q_fga, q_gza, q_gfa, q_gx, q_zf1, q_zg1, q_ff, q_fg1, q_gf1, q_gg, ti_link, in1000]))
    have aS24 : AFv nx ((S18.2.1 10) (ix (S18.1 12))).toInt (S20.1 9).toInt (S20.1 10).toInt (S.1 9).toInt S24 := AFv_na mS24 aS23
    have cS24 : CS nx ((ix (S.1 9), 1, (0 : Int32)) :: (ix (S.1 9), 2, (0 : Int32)) :: (ix (S.1 9), 3, (0 : Int32)) :: kL) (S20.1 9).toInt (S20.1 10).toInt (S.1 9) S24 := CS_lift (by rw [eS24]; rfl) (fun _ _ _ q => CW_w31 eS24 (Or.inl (List.mem_cons_self ..)) q) cS23
    refine ⟨by (try clear hC hA hO hP hk hE tS0 aS19 tf19 uS19 oS19_ on19 fi19 cd19 tS20 dS20 nS20 mS20 oS20 tf20 uS20 cS20 on20 fi20 cc20 aS20 vS20 dS22 oS22 aS22 cS22 uS22 tf22 qS23 tS23 dS23 nS23 mS23 aS23 cS23 uS23 tf23 lS23 dS24 tS24 mS24 oS24 aS24 cS24); (try clear j425); (try clear j394); (try clear j230); (try clear hr_block); (try clear hf_block); grind -mbtc (splits := 20) (gen := 40) (ematch := 20) [SI, PT, WB_ad2, WB_nt, WB_on, WB_fi, WB_nf, LA_n, LA_p, OR1, B01, PTc_up, ix_int, ix_1, XI, PI, PJ, BU, LV, LA_i, q_zz, q_za, q_zga, q_fza, q_fx, q_fga, q_gza, q_gfa, q_gx, q_zf1, q_zg1, q_ff, q_fg1, q_gf1, q_gg, ti_link, in1000], ?_⟩
    intro S25 eS25
    have dS25 : NP S24 S25 := NP_f eS25 (by decide)
    have tS25 : NT S24 S25 := NT_f eS25 (by decide)
    have mS25 : NA S24 S25 := NA_f eS25 (by decide)
    have oS25 : NO nx S24 S25 := NO_f eS25 (nH_t (by decide) (by (try clear hC hA hO hP hk hE tS0 aS19 tf19 uS19 oS19_ on19 fi19 cd19 tS20 dS20 nS20 mS20 oS20 tf20 uS20 cS20 on20 fi20 cc20 aS20 vS20 dS22 oS22 aS22 cS22 uS22 tf22 qS23 tS23 dS23 nS23 mS23 aS23 cS23 uS23 tf23 lS23 dS24 tS24 mS24 oS24 aS24 cS24 dS25 tS25 mS25); (try clear j425); (try clear j394); (try clear j230); (try clear hr_block); (try clear hf_block); grind -mbtc (splits := 20) (gen := 40) (ematch := 20) [SI, PT, WB_ad2, WB_nt, WB_on, WB_fi, WB_nf, LA_n, LA_p, OR1, B01, PTc_up, ix_int, ix_1, XI, PI, PJ, BU, LV, LA_i, q_zz, q_za, q_zga, q_fza, q_fx, q_fga, q_gza, q_gfa, q_gx, q_zf1, q_zg1, q_ff, q_fg1, q_gf1, q_gg, ti_link, in1000]))
    have aS25 : AFv nx ((S18.2.1 10) (ix (S18.1 12))).toInt (S20.1 9).toInt (S20.1 10).toInt (S.1 9).toInt S25 := AFv_na mS25 aS24
    have cs25 : CS nx ((ix (S.1 9), 1, (0 : Int32)) :: (ix (S.1 9), 2, (0 : Int32)) :: (ix (S.1 9), 3, (0 : Int32)) :: kL) (S20.1 9).toInt (S20.1 10).toInt (S.1 9) S25 := CS_lift (by rw [eS25]; rfl) (fun _ _ _ q => CW_w30 eS25 (Or.inl (List.mem_cons_self ..)) q) cS24
    have oc25 : (S25.2.1 31) (ix (S.1 9)) = r23 := by
          rw [eS25, eS24]
          show upd _ _ _ _ = _
          unfold upd
          rw [if_pos rfl]
    have cS25 : CS nx ((ix (S.1 9), 2, (0 : Int32)) :: (ix (S.1 9), 3, (0 : Int32)) :: kL) (S20.1 9).toInt (S20.1 10).toInt (S.1 9) S25 := CS_ocl (by (try clear hC hA hO hP hk hE tS0 aS19 tf19 uS19 oS19_ on19 fi19 cd19 tS20 dS20 nS20 mS20 oS20 tf20 uS20 cS20 on20 fi20 cc20 aS20 vS20 dS22 oS22 aS22 cS22 uS22 tf22 qS23 tS23 dS23 nS23 mS23 aS23 cS23 uS23 tf23 lS23 dS24 tS24 mS24 oS24 aS24 cS24 dS25 tS25 mS25 oS25 aS25 cs25 oc25); (try clear j425); (try clear j394); (try clear j230); (try clear hr_block); (try clear hf_block); grind -mbtc (splits := 20) (gen := 40) (ematch := 20) [SI, PT, WB_ad2, WB_nt, WB_on, WB_fi, WB_nf, LA_n, LA_p, OR1, B01, PTc_up, ix_int, ix_1, XI, PI, PJ, BU, LV, LA_i, q_zz, q_za, q_zga, q_fza, q_fx, q_fga, q_gza, q_gfa, q_gx, q_zf1, q_zg1, q_ff, q_fg1, q_gf1, q_gg, ti_link, in1000]) (by (try clear hC hA hO hP hk hE tS0 aS19 tf19 uS19 oS19_ on19 fi19 cd19 tS20 dS20 nS20 mS20 oS20 tf20 uS20 cS20 on20 fi20 cc20 aS20 vS20 dS22 oS22 aS22 cS22 uS22 tf22 qS23 tS23 dS23 nS23 mS23 aS23 cS23 uS23 tf23 lS23 dS24 tS24 mS24 oS24 aS24 cS24 dS25 tS25 mS25 oS25 aS25 cs25 oc25); (try clear j425); (try clear j394); (try clear j230); (try clear hr_block); (try clear hf_block); grind -mbtc (splits := 20) (gen := 40) (ematch := 20) [SI, PT, WB_ad2, WB_nt, WB_on, WB_fi, WB_nf, LA_n, LA_p, OR1, B01, PTc_up, ix_int, ix_1, XI, PI, PJ, BU, LV, LA_i, q_zz, q_za, q_zga, q_fza, q_fx, q_fga, q_gza, q_gfa, q_gx, q_zf1, q_zg1, q_ff, q_fg1, q_gf1, q_gg, ti_link, in1000]) (by
          rw [eS25]
          show upd _ _ _ _ = _
          unfold upd
          rw [if_pos rfl]
          rfl) (fun hf9 => by
          rw [oc25]
          rw [eS25, eS24] at hf9
          exact lS23 hf9) cs25
    have uS25 : TM S S25 := TM_nt (TM_nt uS23 tS24) tS25
    have tf25 : TF nx S (S.1 9) S25 := TF_np (TF_np tf23 dS24) dS25
    have oS25_ : OH nx S0 S25 := by (try clear j425); (try clear j394); (try clear j230); (try clear hr_block); (try clear hf_block); grind (ematch := 30) (gen := 40) (splits := 15) [→ CF_nc, → CS_nc, → AF_na, → OH_no, → CS_step, → CS_CF, AF_nf, AQ_o, CS_nf, q_zz, q_za, q_zga, q_fza, q_fx, q_fga, q_gza, q_gfa, q_gx, q_zf1, q_zg1, q_ff, q_fg1, q_gf1, q_gg, AV_i, → CD_nc, CD_nf, ← CD_CS, → PD_np, → TM_nt, → TM_tr, ti_link]
    have fi25 : (S25.2.1 29) (ix (S.1 9)) = 0 := by (try clear j425); (try clear j394); (try clear j230); (try clear hr_block); (try clear hf_block); grind (ematch := 30) (gen := 40) (splits := 15) [→ CF_nc, → CS_nc, → AF_na, → OH_no, → CS_step, → CS_CF, AF_nf, AQ_o, CS_nf, q_zz, q_za, q_zga, q_fza, q_fx, q_fga, q_gza, q_gfa, q_gx, q_zf1, q_zg1, q_ff, q_fg1, q_gf1, q_gg, AV_i, → CD_nc, CD_nf, ← CD_CS, → PD_np, → TM_nt, → TM_tr, ti_link]
    have vS25 : (S19.1 19).toInt = -1 ∨ AV nx S25 (S19.1 19) := vS20.imp id (fun q => AV_m q (by (try clear hC hA hO hP hk hE tS0 aS19 tf19 uS19 oS19_ on19 fi19 cd19 tS20 dS20 nS20 mS20 oS20 tf20 uS20 cS20 on20 fi20 cc20 aS20 vS20 dS22 oS22 aS22 cS22 uS22 tf22 qS23 tS23 dS23 nS23 mS23 aS23 cS23 uS23 tf23 lS23 dS24 tS24 mS24 oS24 aS24 cS24 dS25 tS25 mS25 oS25 aS25 cs25 oc25 cS25 uS25 tf25 oS25_ fi25); (try clear j425); (try clear j394); (try clear j230); (try clear hr_block); (try clear hf_block); grind -mbtc (splits := 20) (gen := 40) (ematch := 20) [SI, PT, WB_ad2, WB_nt, WB_on, WB_fi, WB_nf, LA_n, LA_p, OR1, B01, PTc_up, ix_int, ix_1, XI, PI, PJ, BU, LV, LA_i, q_zz, q_za, q_zga, q_fza, q_fx, q_fga, q_gza, q_gfa, q_gx, q_zf1, q_zg1, q_ff, q_fg1, q_gf1, q_gg, ti_link, in1000]) (by (try clear hC hA hO hP hk hE tS0 aS19 tf19 uS19 oS19_ on19 fi19 cd19 tS20 dS20 nS20 mS20 oS20 tf20 uS20 cS20 on20 fi20 cc20 aS20 vS20 dS22 oS22 aS22 cS22 uS22 tf22 qS23 tS23 dS23 nS23 mS23 aS23 cS23 uS23 tf23 lS23 dS24 tS24 mS24 oS24 aS24 cS24 dS25 tS25 mS25 oS25 aS25 cs25 oc25 cS25 uS25 tf25 oS25_ fi25); (try clear j425); (try clear j394); (try clear j230); (try clear hr_block); (try clear hf_block); grind -mbtc (splits := 20) (gen := 40) (ematch := 20) [SI, PT, WB_ad2, WB_nt, WB_on, WB_fi, WB_nf, LA_n, LA_p, OR1, B01, PTc_up, ix_int, ix_1, XI, PI, PJ, BU, LV, LA_i, q_zz, q_za, q_zga, q_fza, q_fx, q_fga, q_gza, q_gfa, q_gx, q_zf1, q_zg1, q_ff, q_fg1, q_gf1, q_gg, ti_link, in1000]))
    have hs25 : SI nx n so pl wo ws S0 d (G - 6) (GA - 2) (X + 4) (Y + 2) GW (GT + 5) S25 ∧ ((S25.1 4) = 0 → (S.1 3).toInt < (S25.1 3).toInt) ∧ (S.1 8).toInt ≤ (S25.1 8).toInt ∧ (S.1 10).toInt ≤ (S25.1 10).toInt ∧ (S.1 9).toInt < (S25.1 9).toInt ∧ 500 * nx ≤ (S.1 9).toInt ∧ (S25.1 13) = (S.1 13) ∧ (S25.1 15) = (S.1 15) ∧ (S25.1 16) = (S.1 16) + 1 ∧ (S25.2.1 10) (ix (S25.1 12)) = (S18.2.1 10) (ix (S18.1 12)) ∧ (S25.1 9).toInt = (S20.1 9).toInt ∧ (S25.1 10).toInt = (S20.1 10).toInt ∧ ¬ (S25.2.1 28) (ix (S.1 9)) = 0 ∧ LA nx (S19.1 19).toInt ∧ (S19.1 19).toInt < 12000 * nx + 12000 := by refine ⟨⟨⟨?_, ?_, ?_, ?_⟩, ?_, ?_, ?_, ?_⟩, ?_, ?_, ?_, ?_, ?_, ?_, ?_, ?_, ?_, ?_, ?_, ?_, ?_, ?_⟩ <;> ((try clear hC hA hO hP hk hE tS0 aS19 tf19 uS19 oS19_ on19 fi19 cd19 tS20 dS20 nS20 mS20 oS20 tf20 uS20 cS20 on20 fi20 cc20 aS20 vS20 dS22 oS22 aS22 cS22 uS22 tf22 qS23 tS23 dS23 nS23 mS23 aS23 cS23 uS23 tf23 lS23 dS24 tS24 mS24 oS24 aS24 cS24 dS25 tS25 mS25 oS25 aS25 cs25 oc25 cS25 uS25 tf25 oS25_ fi25 vS25); (try clear j425); (try clear j394); (try clear j230); (try clear hr_block); (try clear hf_block); grind -mbtc (splits := 20) (gen := 40) (ematch := 20) [SI, PT, WB_ad2, WB_nt, WB_on, WB_fi, WB_nf, LA_n, LA_p, OR1, B01, PTc_up, ix_int, ix_1, XI, PI, PJ, BU, LV, LA_i, q_zz, q_za, q_zga, q_fza, q_fx, q_fga, q_gza, q_gfa, q_gx, q_zf1, q_zg1, q_ff, q_fg1, q_gf1, q_gg, ti_link, in1000])
    (try clear eS25); (try clear eS24); (try clear fS23); (try clear eS22); (try clear fS20); (try clear oc25); (try clear cs25); (try clear oS25); (try clear mS25); (try clear tS25); (try clear dS25); (try clear cS24); (try clear aS24); (try clear oS24); (try clear mS24); (try clear tS24); (try clear dS24); (try clear lS23); (try clear tf23); (try clear uS23); (try clear cS23); (try clear aS23); (try clear mS23); (try clear nS23); (try clear dS23); (try clear tS23); (try clear qS23); (try clear tf22); (try clear uS22); (try clear cS22); (try clear aS22); (try clear oS22); (try clear dS22); (try clear vS20); (try clear aS20); (try clear cc20); (try clear fi20); (try clear on20); (try clear cS20); (try clear uS20); (try clear tf20); (try clear oS20); (try clear mS20); (try clear nS20); (try clear dS20); (try clear tS20); (try clear cd19); (try clear fi19); (try clear on19); (try clear oS19_); (try clear uS19); (try clear tf19); (try clear aS19); (try clear g4a_S23); (try clear g4_S23); (try clear g3a_S23); (try clear g3_S23); (try clear f38a_S23); (try clear f38_S23); (try clear f37a_S23); (try clear f37_S23); (try clear f27a_S23); (try clear f27_S23); (try clear f29a_S23); (try clear f29_S23); (try clear f44a_S23); (try clear f44_S23); (try clear f42a_S23); (try clear f42_S23); (try clear f41a_S23); (try clear f41_S23); (try clear f40a_S23); (try clear f40_S23); (try clear f48a_S23); (try clear f48_S23); (try clear f46a_S23); (try clear f46_S23); (try clear f45a_S23); (try clear f45_S23); (try clear f36a_S23); (try clear f36_S23); (try clear f35a_S23); (try clear f35_S23); (try clear f28a_S23); (try clear f28_S23); (try clear f25a_S23); (try clear f25_S23); (try clear f10a_S23); (try clear f10_S23); (try clear f2a_S23); (try clear f2_S23); (try clear f1a_S23); (try clear f1_S23); (try clear z16_S23); (try clear z20_S23); (try clear z19_S23); (try clear z18_S23); (try clear z17_S23); (try clear z15_S23); (try clear z13_S23); (try clear z12_S23); (try clear z11_S23); (try clear z10_S23); (try clear z9_S23); (try clear z8_S23); (try clear z7_S23); (try clear z6_S23); (try clear pS23); (try clear g4a_S20); (try clear g4_S20); (try clear g3a_S20); (try clear g3_S20); (try clear f38a_S20); (try clear f38_S20); (try clear f37a_S20); (try clear f37_S20); (try clear f27a_S20); (try clear f27_S20); (try clear f29a_S20); (try clear f29_S20); (try clear f44a_S20); (try clear f44_S20); (try clear f42a_S20); (try clear f42_S20); (try clear f41a_S20); (try clear f41_S20); (try clear f40a_S20); (try clear f40_S20); (try clear f48a_S20); (try clear f48_S20); (try clear f46a_S20); (try clear f46_S20); (try clear f45a_S20); (try clear f45_S20); (try clear f36a_S20); (try clear f36_S20); (try clear f35a_S20); (try clear f35_S20); (try clear f28a_S20); (try clear f28_S20); (try clear f25a_S20); (try clear f25_S20); (try clear f10a_S20); (try clear f10_S20); (try clear f8a_S20); (try clear f8_S20); (try clear f2a_S20); (try clear f2_S20); (try clear f1a_S20); (try clear f1_S20); (try clear z16_S20); (try clear z20_S20); (try clear z19_S20); (try clear z18_S20); (try clear z17_S20); (try clear z15_S20); (try clear z13_S20); (try clear z12_S20); (try clear z11_S20); (try clear z10_S20); (try clear z9_S20); (try clear z8_S20); (try clear z7_S20); (try clear z6_S20); (try clear z4_S20); (try clear pS20); (try clear hs19)
    refine ⟨by (try clear hC hA hO hP hk hE tS0 aS25 cS25 uS25 tf25 oS25_ fi25 vS25 h); (try clear j425); (try clear j394); (try clear j230); (try clear hr_block); (try clear hf_block); grind -mbtc (splits := 20) (gen := 40) (ematch := 20) [SI, PT, WB_ad2, WB_nt, WB_on, WB_fi, WB_nf, LA_n, LA_p, OR1, B01, PTc_up, ix_int, ix_1, XI, PI, PJ, BU, LV, LA_i, q_zz, q_za, q_zga, q_fza, q_fx, q_fga, q_gza, q_gfa, q_gx, q_zf1, q_zg1, q_ff, q_fg1, q_gf1, q_gg, ti_link, in1000], ?_⟩
    intro z26 ez26
    refine fm_act _ _ _ _ _ (fun S27 r27 hF9 pS27 => ?_) (sgv_act (nx := nx) _ _ (by (try clear hC hA hO hP hk hE tS0 aS25 cS25 uS25 tf25 oS25_ fi25 vS25 h); (try clear j425); (try clear j394); (try clear j230); (try clear hr_block); (try clear hf_block); grind -mbtc (splits := 20) (gen := 40) (ematch := 20) [SI, PT, WB_ad2, WB_nt, WB_on, WB_fi, WB_nf, LA_n, LA_p, OR1, B01, PTc_up, ix_int, ix_1, XI, PI, PJ, BU, LV, LA_i, q_zz, q_za, q_zga, q_fza, q_fx, q_fga, q_gza, q_gfa, q_gx, q_zf1, q_zg1, q_ff, q_fg1, q_gf1, q_gg, ti_link, in1000]))
    obtain ⟨pS27, qS27⟩ := pS27
    have tS27 : NT S25 S27 := NT_fr hF9 (by decide) (by decide)
    have fS27 : S27.1 4 = 0 → S25.1 4 = 0 := fun q => (hF9.1 4 (by decide)).symm.trans q
    have dS27 : NP S25 S27 := NP_fr hF9 (by decide) (by decide) fS27
    have nS27 : NC S25 S27 := NC_fr hF9 (by decide) (by decide) fS27
    have z3_S27 := hF9.1 3 (by decide)
    have z4_S27 := hF9.1 4 (by decide)
    have z6_S27 := hF9.1 6 (by decide)
    have z7_S27 := hF9.1 7 (by decide)
    have z9_S27 := hF9.1 9 (by decide)
    have z10_S27 := hF9.1 10 (by decide)
    have z11_S27 := hF9.1 11 (by decide)
    have z12_S27 := hF9.1 12 (by decide)
    have z13_S27 := hF9.1 13 (by decide)
    have z15_S27 := hF9.1 15 (by decide)
    have z17_S27 := hF9.1 17 (by decide)
    have z18_S27 := hF9.1 18 (by decide)
    have z19_S27 := hF9.1 19 (by decide)
    have z20_S27 := hF9.1 20 (by decide)
    have z16_S27 := hF9.1 16 (by decide)
    have f1_S27 := hF9.2.1 1 (by decide)
    have f1a_S27 := Fr_fa hF9 1 (by decide)
    have f2_S27 := hF9.2.1 2 (by decide)
    have f2a_S27 := Fr_fa hF9 2 (by decide)
    have f8_S27 := hF9.2.1 8 (by decide)
    have f8a_S27 := Fr_fa hF9 8 (by decide)
    have f10_S27 := hF9.2.1 10 (by decide)
    have f10a_S27 := Fr_fa hF9 10 (by decide)
    have f25_S27 := hF9.2.1 25 (by decide)
    have f25a_S27 := Fr_fa hF9 25 (by decide)
    have f28_S27 := hF9.2.1 28 (by decide)
    have f28a_S27 := Fr_fa hF9 28 (by decide)
    have f35_S27 := hF9.2.1 35 (by decide)
    have f35a_S27 := Fr_fa hF9 35 (by decide)
    have f36_S27 := hF9.2.1 36 (by decide)
    have f36a_S27 := Fr_fa hF9 36 (by decide)
    have f45_S27 := hF9.2.1 45 (by decide)
    have f45a_S27 := Fr_fa hF9 45 (by decide)
    have f46_S27 := hF9.2.1 46 (by decide)
    have f46a_S27 := Fr_fa hF9 46 (by decide)
    have f48_S27 := hF9.2.1 48 (by decide)
    have f48a_S27 := Fr_fa hF9 48 (by decide)
    have f40_S27 := hF9.2.1 40 (by decide)
    have f40a_S27 := Fr_fa hF9 40 (by decide)
    have f41_S27 := hF9.2.1 41 (by decide)
    have f41a_S27 := Fr_fa hF9 41 (by decide)
    have f42_S27 := hF9.2.1 42 (by decide)
    have f42a_S27 := Fr_fa hF9 42 (by decide)
    have f44_S27 := hF9.2.1 44 (by decide)
    have f44a_S27 := Fr_fa hF9 44 (by decide)
    have f29_S27 := hF9.2.1 29 (by decide)
    have f29a_S27 := Fr_fa hF9 29 (by decide)
    have f27_S27 := hF9.2.1 27 (by decide)
    have f27a_S27 := Fr_fa hF9 27 (by decide)
    have f37_S27 := hF9.2.1 37 (by decide)
    have f37a_S27 := Fr_fa hF9 37 (by decide)
    have f38_S27 := hF9.2.1 38 (by decide)
    have f38a_S27 := Fr_fa hF9 38 (by decide)
    have g3_S27 := hF9.2.2 3 (by decide)
    have g3a_S27 := Fr_ga hF9 3 (by decide)
    have g4_S27 := hF9.2.2 4 (by decide)
    have g4a_S27 := Fr_ga hF9 4 (by decide)
    clear hF9
    have aS27 : AFv nx ((S18.2.1 10) (ix (S18.1 12))).toInt (S20.1 9).toInt (S20.1 10).toInt (S.1 9).toInt S27 := qS27.2.2 _ _ _ _ aS25 ⟨by decide, by decide, by decide⟩
    have tf27 : TF nx S (S.1 9) S27 := TF_np tf25 dS27
    refine ⟨by (try clear hC hA hO hP hk hE tS0 aS25 cS25 uS25 tf25 oS25_ fi25 vS25 h qS27 tS27 dS27 nS27 aS27 tf27); (try clear j425); (try clear j394); (try clear j230); (try clear hr_block); (try clear hf_block); grind -mbtc (splits := 20) (gen := 40) (ematch := 20) [SI, PT, WB_ad2, WB_nt, WB_on, WB_fi, WB_nf, LA_n, LA_p, OR1, B01, PTc_up, ix_int, ix_1, XI, PI, PJ, BU, LV, LA_i, q_zz, q_za, q_zga, q_fza, q_fx, q_fga, q_gza, q_gfa, q_gx, q_zf1, q_zg1, q_ff, q_fg1, q_gf1, q_gg, ti_link, in1000], ?_⟩
    intro S28 eS28
    have dS28 : NP S27 S28 := NP_f eS28 (by decide)
    have tS28 : NT S27 S28 := NT_f eS28 (by decide)
    have nS28 : NC S27 S28 := NC_f eS28 (by decide)
    have oS28 : NO nx S27 S28 := NO_f eS28 (nH_t (by decide) (by (try clear hC hA hO hP hk hE tS0 aS25 cS25 uS25 tf25 oS25_ fi25 vS25 h qS27 tS27 dS27 nS27 aS27 tf27 dS28 tS28 nS28); (try clear j425); (try clear j394); (try clear j230); (try clear hr_block); (try clear hf_block); grind -mbtc (splits := 20) (gen := 40) (ematch := 20) [SI, PT, WB_ad2, WB_nt, WB_on, WB_fi, WB_nf, LA_n, LA_p, OR1, B01, PTc_up, ix_int, ix_1, XI, PI, PJ, BU, LV, LA_i, q_zz, q_za, q_zga, q_fza, q_fx, q_fga, q_gza, q_gfa, q_gx, q_zf1, q_zg1, q_ff, q_fg1, q_gf1, q_gg, ti_link, in1000]))
    have av28 : AFv nx ((S18.2.1 10) (ix (S18.1 12))).toInt (S20.1 9).toInt (S20.1 10).toInt (S.1 9).toInt S28 := AFv_f eS28 (Or.inr (Or.inr ⟨by (try clear hC hA hO hP hk hE tS0 aS25 cS25 uS25 tf25 oS25_ fi25 vS25 h qS27 tS27 dS27 nS27 aS27 tf27 dS28 tS28 nS28 oS28); (try clear j425); (try clear j394); (try clear j230); (try clear hr_block); (try clear hf_block); grind -mbtc (splits := 20) (gen := 40) (ematch := 20) [SI, PT, WB_ad2, WB_nt, WB_on, WB_fi, WB_nf, LA_n, LA_p, OR1, B01, PTc_up, ix_int, ix_1, XI, PI, PJ, BU, LV, LA_i, q_zz, q_za, q_zga, q_fza, q_fx, q_fga, q_gza, q_gfa, q_gx, q_zf1, q_zg1, q_ff, q_fg1, q_gf1, q_gg, ti_link, in1000], by decide⟩)) aS27
    have aS28 : AF nx ((S18.2.1 10) (ix (S18.1 12))).toInt S28 := AF_o (AFv_cx (t := S.1 9) (by (try clear hC hA hO hP hk hE tS0 aS25 cS25 uS25 tf25 oS25_ fi25 vS25 h qS27 tS27 dS27 nS27 aS27 tf27 dS28 tS28 nS28 oS28 av28); (try clear j425); (try clear j394); (try clear j230); (try clear hr_block); (try clear hf_block); grind -mbtc (splits := 20) (gen := 40) (ematch := 20) [SI, PT, WB_ad2, WB_nt, WB_on, WB_fi, WB_nf, LA_n, LA_p, OR1, B01, PTc_up, ix_int, ix_1, XI, PI, PJ, BU, LV, LA_i, q_zz, q_za, q_zga, q_fza, q_fx, q_fga, q_gza, q_gfa, q_gx, q_zf1, q_zg1, q_ff, q_fg1, q_gf1, q_gg, ti_link, in1000]) (fun _ => ⟨by (try clear hC hA hO hP hk hE tS0 aS25 cS25 uS25 tf25 oS25_ fi25 vS25 h qS27 tS27 dS27 nS27 aS27 tf27 dS28 tS28 nS28 oS28 av28); (try clear j425); (try clear j394); (try clear j230); (try clear hr_block); (try clear hf_block); grind -mbtc (splits := 20) (gen := 40) (ematch := 20) [SI, PT, WB_ad2, WB_nt, WB_on, WB_fi, WB_nf, LA_n, LA_p, OR1, B01, PTc_up, ix_int, ix_1, XI, PI, PJ, BU, LV, LA_i, q_zz, q_za, q_zga, q_fza, q_fx, q_fga, q_gza, q_gfa, q_gx, q_zf1, q_zg1, q_ff, q_fg1, q_gf1, q_gg, ti_link, in1000], by (try clear hC hA hO hP hk hE tS0 aS25 cS25 uS25 tf25 oS25_ fi25 vS25 h qS27 tS27 dS27 nS27 aS27 tf27 dS28 tS28 nS28 oS28 av28); (try clear j425); (try clear j394); (try clear j230); (try clear hr_block); (try clear hf_block); grind -mbtc (splits := 20) (gen := 40) (ematch := 20) [SI, PT, WB_ad2, WB_nt, WB_on, WB_fi, WB_nf, LA_n, LA_p, OR1, B01, PTc_up, ix_int, ix_1, XI, PI, PJ, BU, LV, LA_i, q_zz, q_za, q_zga, q_fza, q_fx, q_fga, q_gza, q_gfa, q_gx, q_zf1, q_zg1, q_ff, q_fg1, q_gf1, q_gg, ti_link, in1000]⟩) av28) (by (try clear hC hA hO hP hk hE tS0 aS25 cS25 uS25 tf25 oS25_ fi25 vS25 h qS27 tS27 dS27 nS27 aS27 tf27 dS28 tS28 nS28 oS28 av28); (try clear j425); (try clear j394); (try clear j230); (try clear hr_block); (try clear hf_block); grind -mbtc (splits := 20) (gen := 40) (ematch := 20) [SI, PT, WB_ad2, WB_nt, WB_on, WB_fi, WB_nf, LA_n, LA_p, OR1, B01, PTc_up, ix_int, ix_1, XI, PI, PJ, BU, LV, LA_i, q_zz, q_za, q_zga, q_fza, q_fx, q_fga, q_gza, q_gfa, q_gx, q_zf1, q_zg1, q_ff, q_fg1, q_gf1, q_gg, ti_link, in1000]) (by (try clear hC hA hO hP hk hE tS0 aS25 cS25 uS25 tf25 oS25_ fi25 vS25 h qS27 tS27 dS27 nS27 aS27 tf27 dS28 tS28 nS28 oS28 av28); (try clear j425); (try clear j394); (try clear j230); (try clear hr_block); (try clear hf_block); grind -mbtc (splits := 20) (gen := 40) (ematch := 20) [SI, PT, WB_ad2, WB_nt, WB_on, WB_fi, WB_nf, LA_n, LA_p, OR1, B01, PTc_up, ix_int, ix_1, XI, PI, PJ, BU, LV, LA_i, q_zz, q_za, q_zga, q_fza, q_fx, q_fga, q_gza, q_gfa, q_gx, q_zf1, q_zg1, q_ff, q_fg1, q_gf1, q_gg, ti_link, in1000])
    have tf28 : TF nx S (S.1 9) S28 := TF_np tf27 dS28
    refine ⟨by (try clear hC hA hO hP hk hE tS0 aS25 cS25 uS25 tf25 oS25_ fi25 vS25 h qS27 tS27 dS27 nS27 aS27 tf27 dS28 tS28 nS28 oS28 av28 aS28 tf28); (try clear j425); (try clear j394); (try clear j230); (try clear hr_block); (try clear hf_block); grind -mbtc (splits := 20) (gen := 40) (ematch := 20) [SI, PT, WB_ad2, WB_nt, WB_on, WB_fi, WB_nf, LA_n, LA_p, OR1, B01, PTc_up, ix_int, ix_1, XI, PI, PJ, BU, LV, LA_i, q_zz, q_za, q_zga, q_fza, q_fx, q_fga, q_gza, q_gfa, q_gx, q_zf1, q_zg1, q_ff, q_fg1, q_gf1, q_gg, ti_link, in1000], ?_⟩
    intro z29 ez29
    have vz29 : AV nx S28 z29 := AV_i (by (try clear hC hA hO hP hk hE tS0 aS25 cS25 uS25 tf25 oS25_ fi25 vS25 h qS27 tS27 dS27 nS27 aS27 tf27 dS28 tS28 nS28 oS28 av28 aS28 tf28); (try clear j425); (try clear j394); (try clear j230); (try clear hr_block); (try clear hf_block); grind -mbtc (splits := 20) (gen := 40) (ematch := 20) [SI, PT, WB_ad2, WB_nt, WB_on, WB_fi, WB_nf, LA_n, LA_p, OR1, B01, PTc_up, ix_int, ix_1, XI, PI, PJ, BU, LV, LA_i, q_zz, q_za, q_zga, q_fza, q_fx, q_fga, q_gza, q_gfa, q_gx, q_zf1, q_zg1, q_ff, q_fg1, q_gf1, q_gg, ti_link, in1000]) (by (try clear hC hA hO hP hk hE tS0 aS25 cS25 uS25 tf25 oS25_ fi25 vS25 h qS27 tS27 dS27 nS27 aS27 tf27 dS28 tS28 nS28 oS28 av28 aS28 tf28); (try clear j425); (try clear j394); (try clear j230); (try clear hr_block); (try clear hf_block); grind -mbtc (splits := 20) (gen := 40) (ematch := 20) [SI, PT, WB_ad2, WB_nt, WB_on, WB_fi, WB_nf, LA_n, LA_p, OR1, B01, PTc_up, ix_int, ix_1, XI, PI, PJ, BU, LV, LA_i, q_zz, q_za, q_zga, q_fza, q_fx, q_fga, q_gza, q_gfa, q_gx, q_zf1, q_zg1, q_ff, q_fg1, q_gf1, q_gg, ti_link, in1000])
    intro S30 eS30
    have lS30 : ∀ m : Int, AV nx S28 z29 → AF nx m S28 → AF nx m S30 := fun m h8 h9 => AF_lv eS30 h8 h9
    have dS30 : NP S28 S30 := NP_z eS30 (by decide)
    have tS30 : NT S28 S30 := NT_z eS30 (by decide)
    have nS30 : NC S28 S30 := NC_z eS30 (by decide)
    have oS30 : NO nx S28 S30 := NO_z eS30
    have tf30 : TF nx S (S.1 9) S30 := TF_np tf28 dS30
    have uS30 : TM S S30 := by (try clear j425); (try clear j394); (try clear j230); (try clear hr_block); (try clear hf_block); grind (ematch := 30) (gen := 40) (splits := 15) [→ CF_nc, → CS_nc, → AF_na, → OH_no, → CS_step, → CS_CF, AF_nf, AQ_o, CS_nf, q_zz, q_za, q_zga, q_fza, q_fx, q_fga, q_gza, q_gfa, q_gx, q_zf1, q_zg1, q_ff, q_fg1, q_gf1, q_gg, AV_i, → CD_nc, CD_nf, ← CD_CS, → PD_np, → TM_nt, → TM_tr, ti_link]
    have aS30 : AF nx ((S18.2.1 10) (ix (S18.1 12))).toInt S30 := by (try clear j425); (try clear j394); (try clear j230); (try clear hr_block); (try clear hf_block); grind (ematch := 30) (gen := 40) (splits := 15) [→ CF_nc, → CS_nc, → AF_na, → OH_no, → CS_step, → CS_CF, AF_nf, AQ_o, CS_nf, q_zz, q_za, q_zga, q_fza, q_fx, q_fga, q_gza, q_gfa, q_gx, q_zf1, q_zg1, q_ff, q_fg1, q_gf1, q_gg, AV_i, → CD_nc, CD_nf, ← CD_CS, → PD_np, → TM_nt, → TM_tr, ti_link]
    have pin30 : PD nx (kd + 1) (sZ (sZ S30 13 (S.1 9)) 14 1) := PD_in hA hf hP tf30 (by (try clear hC hA hO hP hk hE tS0 aS25 cS25 uS25 tf25 oS25_ fi25 vS25 h qS27 tS27 dS27 nS27 aS27 tf27 dS28 tS28 nS28 oS28 av28 aS28 tf28 vz29 lS30 dS30 tS30 nS30 oS30 tf30 uS30 aS30); (try clear j425); (try clear j394); (try clear j230); (try clear hr_block); (try clear hf_block); grind -mbtc (splits := 20) (gen := 40) (ematch := 20) [SI, PT, WB_ad2, WB_nt, WB_on, WB_fi, WB_nf, LA_n, LA_p, OR1, B01, PTc_up, ix_int, ix_1, XI, PI, PJ, BU, LV, LA_i, q_zz, q_za, q_zga, q_fza, q_fx, q_fga, q_gza, q_gfa, q_gx, q_zf1, q_zg1, q_ff, q_fg1, q_gf1, q_gg, ti_link, in1000]) (by (try clear hC hA hO hP hk hE tS0 aS25 cS25 uS25 tf25 oS25_ fi25 vS25 h qS27 tS27 dS27 nS27 aS27 tf27 dS28 tS28 nS28 oS28 av28 aS28 tf28 vz29 lS30 dS30 tS30 nS30 oS30 tf30 uS30 aS30); (try clear j425); (try clear j394); (try clear j230); (try clear hr_block); (try clear hf_block); grind -mbtc (splits := 20) (gen := 40) (ematch := 20) [SI, PT, WB_ad2, WB_nt, WB_on, WB_fi, WB_nf, LA_n, LA_p, OR1, B01, PTc_up, ix_int, ix_1, XI, PI, PJ, BU, LV, LA_i, q_zz, q_za, q_zga, q_fza, q_fx, q_fga, q_gza, q_gfa, q_gx, q_zf1, q_zg1, q_ff, q_fg1, q_gf1, q_gg, ti_link, in1000])
    have cS30 : CS nx ((ix (S.1 9), 2, (0 : Int32)) :: (ix (S.1 9), 3, (0 : Int32)) :: kL) (S30.1 9).toInt (S30.1 10).toInt (S.1 9) S30 := by (try clear j425); (try clear j394); (try clear j230); (try clear hr_block); (try clear hf_block); grind (ematch := 30) (gen := 40) (splits := 15) [→ CF_nc, → CS_nc, → AF_na, → OH_no, → CS_step, → CS_CF, AF_nf, AQ_o, CS_nf, q_zz, q_za, q_zga, q_fza, q_fx, q_fga, q_gza, q_gfa, q_gx, q_zf1, q_zg1, q_ff, q_fg1, q_gf1, q_gg, AV_i, → CD_nc, CD_nf, ← CD_CS, → PD_np, → TM_nt, → TM_tr, ti_link]
    have oS30_ : OH nx S0 S30 := by (try clear j425); (try clear j394); (try clear j230); (try clear hr_block); (try clear hf_block); grind (ematch := 30) (gen := 40) (splits := 15) [→ CF_nc, → CS_nc, → AF_na, → OH_no, → CS_step, → CS_CF, AF_nf, AQ_o, CS_nf, q_zz, q_za, q_zga, q_fza, q_fx, q_fga, q_gza, q_gfa, q_gx, q_zf1, q_zg1, q_ff, q_fg1, q_gf1, q_gg, AV_i, → CD_nc, CD_nf, ← CD_CS, → PD_np, → TM_nt, → TM_tr, ti_link]
    have fi30 : (S30.2.1 29) (ix (S.1 9)) = 0 := by (try clear j425); (try clear j394); (try clear j230); (try clear hr_block); (try clear hf_block); grind (ematch := 30) (gen := 40) (splits := 15) [→ CF_nc, → CS_nc, → AF_na, → OH_no, → CS_step, → CS_CF, AF_nf, AQ_o, CS_nf, q_zz, q_za, q_zga, q_fza, q_fx, q_fga, q_gza, q_gfa, q_gx, q_zf1, q_zg1, q_ff, q_fg1, q_gf1, q_gg, AV_i, → CD_nc, CD_nf, ← CD_CS, → PD_np, → TM_nt, → TM_tr, ti_link]
    have vS30 : (S19.1 19).toInt = -1 ∨ AV nx S30 (S19.1 19) := vS25.imp id (fun q => AV_m q (by (try clear hC hA hO hP hk hE tS0 aS25 cS25 uS25 tf25 oS25_ fi25 vS25 h qS27 tS27 dS27 nS27 aS27 tf27 dS28 tS28 nS28 oS28 av28 aS28 tf28 vz29 lS30 dS30 tS30 nS30 oS30 tf30 uS30 aS30 pin30 cS30 oS30_ fi30); (try clear j425); (try clear j394); (try clear j230); (try clear hr_block); (try clear hf_block); grind -mbtc (splits := 20) (gen := 40) (ematch := 20) [SI, PT, WB_ad2, WB_nt, WB_on, WB_fi, WB_nf, LA_n, LA_p, OR1, B01, PTc_up, ix_int, ix_1, XI, PI, PJ, BU, LV, LA_i, q_zz, q_za, q_zga, q_fza, q_fx, q_fga, q_gza, q_gfa, q_gx, q_zf1, q_zg1, q_ff, q_fg1, q_gf1, q_gg, ti_link, in1000]) (by (try clear hC hA hO hP hk hE tS0 aS25 cS25 uS25 tf25 oS25_ fi25 vS25 h qS27 tS27 dS27 nS27 aS27 tf27 dS28 tS28 nS28 oS28 av28 aS28 tf28 vz29 lS30 dS30 tS30 nS30 oS30 tf30 uS30 aS30 pin30 cS30 oS30_ fi30); (try clear j425); (try clear j394); (try clear j230); (try clear hr_block); (try clear hf_block); grind -mbtc (splits := 20) (gen := 40) (ematch := 20) [SI, PT, WB_ad2, WB_nt, WB_on, WB_fi, WB_nf, LA_n, LA_p, OR1, B01, PTc_up, ix_int, ix_1, XI, PI, PJ, BU, LV, LA_i, q_zz, q_za, q_zga, q_fza, q_fx, q_fga, q_gza, q_gfa, q_gx, q_zf1, q_zg1, q_ff, q_fg1, q_gf1, q_gg, ti_link, in1000]))
    have hs30 : SI nx n so pl wo ws S0 d (G - 6) GA (X + 4) (Y + 3) GW (GT + 5) S30 ∧ ((S30.1 4) = 0 → (S.1 3).toInt < (S30.1 3).toInt) ∧ (S.1 8).toInt ≤ (S30.1 8).toInt ∧ (S.1 10).toInt ≤ (S30.1 10).toInt ∧ (S.1 9).toInt < (S30.1 9).toInt ∧ 500 * nx ≤ (S.1 9).toInt ∧ (S30.1 13) = (S.1 13) ∧ (S30.1 15) = (S.1 15) ∧ (S30.1 16) = (S.1 16) + 1 ∧ (S30.2.1 10) (ix (S30.1 12)) = (S18.2.1 10) (ix (S18.1 12)) ∧ ¬ (S30.2.1 28) (ix (S.1 9)) = 0 ∧ LA nx (S19.1 19).toInt ∧ (S19.1 19).toInt < 12000 * nx + 12000 := by refine ⟨⟨⟨?_, ?_, ?_, ?_⟩, ?_, ?_, ?_, ?_⟩, ?_, ?_, ?_, ?_, ?_, ?_, ?_, ?_, ?_, ?_, ?_, ?_⟩ <;> ((try clear hC hA hO hP hk hE tS0 aS25 cS25 uS25 tf25 oS25_ fi25 vS25 h qS27 tS27 dS27 nS27 aS27 tf27 dS28 tS28 nS28 oS28 av28 aS28 tf28 vz29 lS30 dS30 tS30 nS30 oS30 tf30 uS30 aS30 pin30 cS30 oS30_ fi30 vS30); (try clear j425); (try clear j394); (try clear j230); (try clear hr_block); (try clear hf_block); grind -mbtc (splits := 20) (gen := 40) (ematch := 20) [SI, PT, WB_ad2, WB_nt, WB_on, WB_fi, WB_nf, LA_n, LA_p, OR1, B01, PTc_up, ix_int, ix_1, XI, PI, PJ, BU, LV, LA_i, q_zz, q_za, q_zga, q_fza, q_fx, q_fga, q_gza, q_gfa, q_gx, q_zf1, q_zg1, q_ff, q_fg1, q_gf1, q_gg, ti_link, in1000])
    (try clear eS30); (try clear ez29); (try clear eS28); (try clear fS27); (try clear ez26); (try clear oS30); (try clear nS30); (try clear tS30); (try clear dS30); (try clear lS30); (try clear vz29); (try clear tf28); (try clear aS28); (try clear av28); (try clear oS28); (try clear nS28); (try clear tS28); (try clear dS28); (try clear tf27); (try clear aS27); (try clear nS27); (try clear dS27); (try clear tS27); (try clear qS27); (try clear vS25); (try clear fi25); (try clear oS25_); (try clear tf25); (try clear uS25); (try clear cS25); (try clear aS25); (try clear g4a_S27); (try clear g4_S27); (try clear g3a_S27); (try clear g3_S27); (try clear f38a_S27); (try clear f38_S27); (try clear f37a_S27); (try clear f37_S27); (try clear f27a_S27); (try clear f27_S27); (try clear f29a_S27); (try clear f29_S27); (try clear f44a_S27); (try clear f44_S27); (try clear f42a_S27); (try clear f42_S27); (try clear f41a_S27); (try clear f41_S27); (try clear f40a_S27); (try clear f40_S27); (try clear f48a_S27); (try clear f48_S27); (try clear f46a_S27); (try clear f46_S27); (try clear f45a_S27); (try clear f45_S27); (try clear f36a_S27); (try clear f36_S27); (try clear f35a_S27); (try clear f35_S27); (try clear f28a_S27); (try clear f28_S27); (try clear f25a_S27); (try clear f25_S27); (try clear f10a_S27); (try clear f10_S27); (try clear f8a_S27); (try clear f8_S27); (try clear f2a_S27); (try clear f2_S27); (try clear f1a_S27); (try clear f1_S27); (try clear z16_S27); (try clear z20_S27); (try clear z19_S27); (try clear z18_S27); (try clear z17_S27); (try clear z15_S27); (try clear z13_S27); (try clear z12_S27); (try clear z11_S27); (try clear z10_S27); (try clear z9_S27); (try clear z7_S27); (try clear z6_S27); (try clear z4_S27); (try clear z3_S27); (try clear pS27); (try clear hs25)
    refine fm_inBlock hf_block _ _ _ _ _ (fun S31 hF10 pS31 => ?_) (sg_inBlock hf_block hr_block (nx := nx) (n := n) (so := so) (pl := pl) (wo := wo) (ws := ws) (S0 := S0) (d := d) (G := (G - 6)) (GA := GA) (X := (X + 4)) (Y := (Y + 3)) (GW := GW) (GT := (GT + 5)) (D := D) (kL := ((ix (S.1 9), 2, (0 : Int32)) :: (ix (S.1 9), 3, (0 : Int32)) :: kL)) (kd := (kd + 1)) _ _ (by (try clear hC hA hO hP hk hE tS0 tf30 uS30 aS30 pin30 cS30 oS30_ fi30 vS30); (try clear j425); (try clear j394); (try clear j230); (try clear hr_block); (try clear hf_block); grind -mbtc (splits := 20) (gen := 40) (ematch := 20) [SI, PT, WB_ad2, WB_nt, WB_on, WB_fi, WB_nf, LA_n, LA_p, OR1, B01, PTc_up, ix_int, ix_1, XI, PI, PJ, BU, LV, LA_i, q_zz, q_za, q_zga, q_fza, q_fx, q_fga, q_gza, q_gfa, q_gx, q_zf1, q_zg1, q_ff, q_fg1, q_gf1, q_gg, ti_link, in1000]) (by (try clear hC hA hO hP hk hE tS0 tf30 uS30 aS30 pin30 cS30 oS30_ fi30 vS30); (try clear j425); (try clear j394); (try clear j230); (try clear hr_block); (try clear hf_block); grind -mbtc (splits := 20) (gen := 40) (ematch := 20) [SI, PT, WB_ad2, WB_nt, WB_on, WB_fi, WB_nf, LA_n, LA_p, OR1, B01, PTc_up, ix_int, ix_1, XI, PI, PJ, BU, LV, LA_i, q_zz, q_za, q_zga, q_fza, q_fx, q_fga, q_gza, q_gfa, q_gx, q_zf1, q_zg1, q_ff, q_fg1, q_gf1, q_gg, ti_link, in1000]) (by (try clear hC hA hO hP hk hE tS0 tf30 uS30 aS30 pin30 cS30 oS30_ fi30 vS30); (try clear j425); (try clear j394); (try clear j230); (try clear hr_block); (try clear hf_block); grind -mbtc (splits := 20) (gen := 40) (ematch := 20) [SI, PT, WB_ad2, WB_nt, WB_on, WB_fi, WB_nf, LA_n, LA_p, OR1, B01, PTc_up, ix_int, ix_1, XI, PI, PJ, BU, LV, LA_i, q_zz, q_za, q_zga, q_fza, q_fx, q_fga, q_gza, q_gfa, q_gx, q_zf1, q_zg1, q_ff, q_fg1, q_gf1, q_gg, ti_link, in1000]) (by (try clear hC hA hO hP hk hE tS0 tf30 uS30 aS30 pin30 cS30 oS30_ fi30 vS30); (try clear j425); (try clear j394); (try clear j230); (try clear hr_block); (try clear hf_block); grind -mbtc (splits := 20) (gen := 40) (ematch := 20) [SI, PT, WB_ad2, WB_nt, WB_on, WB_fi, WB_nf, LA_n, LA_p, OR1, B01, PTc_up, ix_int, ix_1, XI, PI, PJ, BU, LV, LA_i, q_zz, q_za, q_zga, q_fza, q_fx, q_fga, q_gza, q_gfa, q_gx, q_zf1, q_zg1, q_ff, q_fg1, q_gf1, q_gg, ti_link, in1000]) (by (try clear hC hA hO hP hk hE tS0 tf30 uS30 aS30 pin30 cS30 oS30_ fi30 vS30); (try clear j425); (try clear j394); (try clear j230); (try clear hr_block); (try clear hf_block); grind -mbtc (splits := 20) (gen := 40) (ematch := 20) [SI, PT, WB_ad2, WB_nt, WB_on, WB_fi, WB_nf, LA_n, LA_p, OR1, B01, PTc_up, ix_int, ix_1, XI, PI, PJ, BU, LV, LA_i, q_zz, q_za, q_zga, q_fza, q_fx, q_fga, q_gza, q_gfa, q_gx, q_zf1, q_zg1, q_ff, q_fg1, q_gf1, q_gg, ti_link, in1000]) (by (try clear hC hA hO hP hk hE tS0 tf30 uS30 aS30 pin30 cS30 oS30_ fi30 vS30); (try clear j425); (try clear j394); (try clear j230); (try clear hr_block); (try clear hf_block); grind -mbtc (splits := 20) (gen := 40) (ematch := 20) [SI, PT, WB_ad2, WB_nt, WB_on, WB_fi, WB_nf, LA_n, LA_p, OR1, B01, PTc_up, ix_int, ix_1, XI, PI, PJ, BU, LV, LA_i, q_zz, q_za, q_zga, q_fza, q_fx, q_fga, q_gza, q_gfa, q_gx, q_zf1, q_zg1, q_ff, q_fg1, q_gf1, q_gg, ti_link, in1000]) (by (try clear j425); (try clear j394); (try clear j230); (try clear hr_block); (try clear hf_block); grind (ematch := 30) (gen := 40) (splits := 15) [→ CF_nc, → CS_nc, → AF_na, → OH_no, → CS_step, → CS_CF, AF_nf, AQ_o, CS_nf, q_zz, q_za, q_zga, q_fza, q_fx, q_fga, q_gza, q_gfa, q_gx, q_zf1, q_zg1, q_ff, q_fg1, q_gf1, q_gg, AV_i, → CD_nc, CD_nf, ← CD_CS, → PD_np, → TM_nt, → TM_tr, ti_link]) (by (try clear j425); (try clear j394); (try clear j230); (try clear hr_block); (try clear hf_block); grind (ematch := 30) (gen := 40) (splits := 15) [→ CF_nc, → CS_nc, → AF_na, → OH_no, → CS_step, → CS_CF, AF_nf, AQ_o, CS_nf, q_zz, q_za, q_zga, q_fza, q_fx, q_fga, q_gza, q_gfa, q_gx, q_zf1, q_zg1, q_ff, q_fg1, q_gf1, q_gg, AV_i, → CD_nc, CD_nf, ← CD_CS, → PD_np, → TM_nt, → TM_tr, ti_link]) (by (try clear j425); (try clear j394); (try clear j230); (try clear hr_block); (try clear hf_block); grind (ematch := 30) (gen := 40) (splits := 15) [→ CF_nc, → CS_nc, → AF_na, → OH_no, → CS_step, → CS_CF, AF_nf, AQ_o, CS_nf, q_zz, q_za, q_zga, q_fza, q_fx, q_fga, q_gza, q_gfa, q_gx, q_zf1, q_zg1, q_ff, q_fg1, q_gf1, q_gg, AV_i, → CD_nc, CD_nf, ← CD_CS, → PD_np, → TM_nt, → TM_tr, ti_link]) (by (try clear j425); (try clear j394); (try clear j230); (try clear hr_block); (try clear hf_block); grind (ematch := 30) (gen := 40) (splits := 15) [→ CF_nc, → CS_nc, → AF_na, → OH_no, → CS_step, → CS_CF, AF_nf, AQ_o, CS_nf, q_zz, q_za, q_zga, q_fza, q_fx, q_fga, q_gza, q_gfa, q_gx, q_zf1, q_zg1, q_ff, q_fg1, q_gf1, q_gg, AV_i, → CD_nc, CD_nf, ← CD_CS, → PD_np, → TM_nt, → TM_tr, ti_link]) (by (try clear j425); (try clear j394); (try clear j230); (try clear hr_block); (try clear hf_block); grind (ematch := 30) (gen := 40) (splits := 15) [→ CF_nc, → CS_nc, → AF_na, → OH_no, → CS_step, → CS_CF, AF_nf, AQ_o, CS_nf, q_zz, q_za, q_zga, q_fza, q_fx, q_fga, q_gza, q_gfa, q_gx, q_zf1, q_zg1, q_ff, q_fg1, q_gf1, q_gg, AV_i, → CD_nc, CD_nf, ← CD_CS, → PD_np, → TM_nt, → TM_tr, ti_link]))
    obtain ⟨pS31, qS31⟩ := pS31
    have z6_S31 := hF10.1 6 (by decide)
    have z12_S31 := hF10.1 12 (by decide)
    have f1_S31 := hF10.2.1 1 (by decide)
    have f1a_S31 := Fr_fa hF10 1 (by decide)
    have f2_S31 := hF10.2.1 2 (by decide)
    have f2a_S31 := Fr_fa hF10 2 (by decide)
    have g3_S31 := hF10.2.2 3 (by decide)
    have g3a_S31 := Fr_ga hF10 3 (by decide)
    have g4_S31 := hF10.2.2 4 (by decide)
    have g4a_S31 := Fr_ga hF10 4 (by decide)
    clear hF10
    have tf31 : TF nx S (S.1 9) S31 := TF_tm tf30 qS31.2.2.2
    have uS31 : TM S S31 := TM_tr uS30 qS31.2.2.2
    have fi31 : (S31.2.1 29) (ix (S.1 9)) = 0 := (qS31.2.2.2.2.2.1 (ix (S.1 9)) (by (try clear hC hA hO hP hk hE tS0 tf30 uS30 aS30 pin30 cS30 oS30_ fi30 vS30 qS31 tf31 uS31); (try clear j425); (try clear j394); (try clear j230); (try clear hr_block); (try clear hf_block); grind -mbtc (splits := 20) (gen := 40) (ematch := 20) [SI, PT, WB_ad2, WB_nt, WB_on, WB_fi, WB_nf, LA_n, LA_p, OR1, B01, PTc_up, ix_int, ix_1, XI, PI, PJ, BU, LV, LA_i, q_zz, q_za, q_zga, q_fza, q_fx, q_fga, q_gza, q_gfa, q_gx, q_zf1, q_zg1, q_ff, q_fg1, q_gf1, q_gg, ti_link, in1000])).2.2.2.trans fi30
    refine fm_emit _ _ _ _ _ _ (fun S32 r32 hF11 pS32 => ?_) (sg_emit (nx := nx) _ _ _ (by (try clear hC hA hO hP hk hE tS0 tf30 uS30 aS30 pin30 cS30 oS30_ fi30 vS30 qS31 tf31 uS31 fi31); (try clear j425); (try clear j394); (try clear j230); (try clear hr_block); (try clear hf_block); grind -mbtc (splits := 20) (gen := 40) (ematch := 20) [SI, PT, WB_ad2, WB_nt, WB_on, WB_fi, WB_nf, LA_n, LA_p, OR1, B01, PTc_up, ix_int, ix_1, XI, PI, PJ, BU, LV, LA_i, q_zz, q_za, q_zga, q_fza, q_fx, q_fga, q_gza, q_gfa, q_gx, q_zf1, q_zg1, q_ff, q_fg1, q_gf1, q_gg, ti_link, in1000]))
    obtain ⟨pS32, qS32⟩ := pS32
    have tS32 : NT S31 S32 := NT_fr hF11 (by decide) (by decide)
    have fS32 : S32.1 4 = 0 → S31.1 4 = 0 := fun q => (hF11.1 4 (by decide)).symm.trans q
    have dS32 : NP S31 S32 := NP_fr hF11 (by decide) (by decide) fS32
    have mS32 : NA S31 S32 := NA_fr hF11 (by decide) (by decide) fS32
    have z3_S32 := hF11.1 3 (by decide)
    have z4_S32 := hF11.1 4 (by decide)
    have z6_S32 := hF11.1 6 (by decide)
    have z8_S32 := hF11.1 8 (by decide)
    have z9_S32 := hF11.1 9 (by decide)
    have z10_S32 := hF11.1 10 (by decide)
    have z11_S32 := hF11.1 11 (by decide)
    have z12_S32 := hF11.1 12 (by decide)
    have z13_S32 := hF11.1 13 (by decide)
    have z15_S32 := hF11.1 15 (by decide)
    have z17_S32 := hF11.1 17 (by decide)
    have z18_S32 := hF11.1 18 (by decide)
    have z19_S32 := hF11.1 19 (by decide)
    have z20_S32 := hF11.1 20 (by decide)
    have z16_S32 := hF11.1 16 (by decide)
    have f1_S32 := hF11.2.1 1 (by decide)
    have f1a_S32 := Fr_fa hF11 1 (by decide)
    have f2_S32 := hF11.2.1 2 (by decide)
    have f2a_S32 := Fr_fa hF11 2 (by decide)
    have f8_S32 := hF11.2.1 8 (by decide)
    have f8a_S32 := Fr_fa hF11 8 (by decide)
    have f10_S32 := hF11.2.1 10 (by decide)
    have f10a_S32 := Fr_fa hF11 10 (by decide)
    have f25_S32 := hF11.2.1 25 (by decide)
    have f25a_S32 := Fr_fa hF11 25 (by decide)
    have f28_S32 := hF11.2.1 28 (by decide)
    have f28a_S32 := Fr_fa hF11 28 (by decide)
    have f35_S32 := hF11.2.1 35 (by decide)
    have f35a_S32 := Fr_fa hF11 35 (by decide)
    have f36_S32 := hF11.2.1 36 (by decide)
    have f36a_S32 := Fr_fa hF11 36 (by decide)
    have f45_S32 := hF11.2.1 45 (by decide)
    have f45a_S32 := Fr_fa hF11 45 (by decide)
    have f46_S32 := hF11.2.1 46 (by decide)
    have f46a_S32 := Fr_fa hF11 46 (by decide)
    have f48_S32 := hF11.2.1 48 (by decide)
    have f48a_S32 := Fr_fa hF11 48 (by decide)
    have f40_S32 := hF11.2.1 40 (by decide)
    have f40a_S32 := Fr_fa hF11 40 (by decide)
    have f41_S32 := hF11.2.1 41 (by decide)
    have f41a_S32 := Fr_fa hF11 41 (by decide)
    have f42_S32 := hF11.2.1 42 (by decide)
    have f42a_S32 := Fr_fa hF11 42 (by decide)
    have f44_S32 := hF11.2.1 44 (by decide)
    have f44a_S32 := Fr_fa hF11 44 (by decide)
    have f29_S32 := hF11.2.1 29 (by decide)
    have f29a_S32 := Fr_fa hF11 29 (by decide)
    have f27_S32 := hF11.2.1 27 (by decide)
    have f27a_S32 := Fr_fa hF11 27 (by decide)
    have f37_S32 := hF11.2.1 37 (by decide)
    have f37a_S32 := Fr_fa hF11 37 (by decide)
    have f38_S32 := hF11.2.1 38 (by decide)
    have f38a_S32 := Fr_fa hF11 38 (by decide)
    have g3_S32 := hF11.2.2 3 (by decide)
    have g3a_S32 := Fr_ga hF11 3 (by decide)
    have g4_S32 := hF11.2.2 4 (by decide)
    have g4a_S32 := Fr_ga hF11 4 (by decide)
    clear hF11
    have cS32 : CD nx ((ix (S.1 9), 2, (0 : Int32)) :: (ix (S.1 9), 3, (0 : Int32)) :: kL) (S31.1 9).toInt (S31.1 10).toInt S32 := CD_leave qS32.1 qS31.1 ⟨by (try clear hC hA hO hP hk hE tS0 tf30 uS30 aS30 pin30 cS30 oS30_ fi30 vS30 qS31 tf31 uS31 fi31 qS32 tS32 dS32 mS32); (try clear j425); (try clear j394); (try clear j230); (try clear hr_block); (try clear hf_block); grind -mbtc (splits := 20) (gen := 40) (ematch := 20) [SI, PT, WB_ad2, WB_nt, WB_on, WB_fi, WB_nf, LA_n, LA_p, OR1, B01, PTc_up, ix_int, ix_1, XI, PI, PJ, BU, LV, LA_i, q_zz, q_za, q_zga, q_fza, q_fx, q_fga, q_gza, q_gfa, q_gx, q_zf1, q_zg1, q_ff, q_fg1, q_gf1, q_gg, ti_link, in1000], tf31.2.2.2.2.2.2.1⟩ (List.mem_cons_self ..)
    have aS32 : AF nx ((S31.2.1 10) (ix (S31.1 12))).toInt S32 := AF_na mS32 qS31.2.1
    have tf32 : TF nx S (S.1 9) S32 := TF_tm tf31 tS32
    have fi32 : (S32.2.1 29) (ix (S.1 9)) = 0 := by (try clear j425); (try clear j394); (try clear j230); (try clear hr_block); (try clear hf_block); grind (ematch := 30) (gen := 40) (splits := 15) [→ CF_nc, → CS_nc, → AF_na, → OH_no, → CS_step, → CS_CF, AF_nf, AQ_o, CS_nf, q_zz, q_za, q_zga, q_fza, q_fx, q_fga, q_gza, q_gfa, q_gx, q_zf1, q_zg1, q_ff, q_fg1, q_gf1, q_gg, AV_i, → CD_nc, CD_nf, ← CD_CS, → PD_np, → TM_nt, → TM_tr, ti_link]
    have vS32 : (S19.1 19).toInt = -1 ∨ AV nx S32 (S19.1 19) := vS30.imp id (fun q => AV_m q (by (try clear hC hA hO hP hk hE tS0 tf30 uS30 aS30 pin30 cS30 oS30_ fi30 vS30 qS31 tf31 uS31 fi31 qS32 tS32 dS32 mS32 cS32 aS32 tf32 fi32); (try clear j425); (try clear j394); (try clear j230); (try clear hr_block); (try clear hf_block); grind -mbtc (splits := 20) (gen := 40) (ematch := 20) [SI, PT, WB_ad2, WB_nt, WB_on, WB_fi, WB_nf, LA_n, LA_p, OR1, B01, PTc_up, ix_int, ix_1, XI, PI, PJ, BU, LV, LA_i, q_zz, q_za, q_zga, q_fza, q_fx, q_fga, q_gza, q_gfa, q_gx, q_zf1, q_zg1, q_ff, q_fg1, q_gf1, q_gg, ti_link, in1000]) (by (try clear hC hA hO hP hk hE tS0 tf30 uS30 aS30 pin30 cS30 oS30_ fi30 vS30 qS31 tf31 uS31 fi31 qS32 tS32 dS32 mS32 cS32 aS32 tf32 fi32); (try clear j425); (try clear j394); (try clear j230); (try clear hr_block); (try clear hf_block); grind -mbtc (splits := 20) (gen := 40) (ematch := 20) [SI, PT, WB_ad2, WB_nt, WB_on, WB_fi, WB_nf, LA_n, LA_p, OR1, B01, PTc_up, ix_int, ix_1, XI, PI, PJ, BU, LV, LA_i, q_zz, q_za, q_zga, q_fza, q_fx, q_fga, q_gza, q_gfa, q_gx, q_zf1, q_zg1, q_ff, q_fg1, q_gf1, q_gg, ti_link, in1000]))
    have wS32 : (S32.1 19).toInt = -1 ∨ AV nx S32 (S32.1 19) := AV_last aS32
    exact j230 _ _ _ _ (⟨by refine ⟨⟨⟨?_, ?_, ?_, ?_⟩, ?_, ?_, ?_, ?_⟩, ?_, ?_, ?_, ?_, ?_, ?_, ?_, ?_, ?_, ?_, ?_, ?_, ?_, ?_⟩ <;> ((try clear hC hA hO hP hk hE tS0 tf30 uS30 aS30 pin30 cS30 oS30_ fi30 vS30 qS31 tf31 uS31 fi31 qS32 tS32 dS32 mS32 cS32 aS32 tf32 fi32 vS32 wS32); (try clear j425); (try clear j394); (try clear j230); (try clear hr_block); (try clear hf_block); grind -mbtc (splits := 20) (gen := 40) (ematch := 20) [SI, PT, WB_ad2, WB_nt, WB_on, WB_fi, WB_nf, LA_n, LA_p, OR1, B01, PTc_up, ix_int, ix_1, XI, PI, PJ, BU, LV, LA_i, q_zz, q_za, q_zga, q_fza, q_fx, q_fga, q_gza, q_gfa, q_gx, q_zf1, q_zg1, q_ff, q_fg1, q_gf1, q_gg, ti_link, in1000]), by refine ⟨?_, ?_, ?_, ?_, ?_, ?_, ?_, ?_⟩ <;> ((try clear j425); (try clear j394); (try clear j230); (try clear hr_block); (try clear hf_block); grind (ematch := 30) (gen := 40) (splits := 15) [→ CF_nc, → CS_nc, → AF_na, → OH_no, → CS_step, → CS_CF, AF_nf, AQ_o, CS_nf, q_zz, q_za, q_zga, q_fza, q_fx, q_fga, q_gza, q_gfa, q_gx, q_zf1, q_zg1, q_ff, q_fg1, q_gf1, q_gg, AV_i, → CD_nc, CD_nf, ← CD_CS, → PD_np, → TM_nt, → TM_tr, ti_link])⟩)
