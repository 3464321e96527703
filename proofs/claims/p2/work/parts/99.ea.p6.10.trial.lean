
set_option maxHeartbeats 4000000 in
theorem sg_trial {nx n : Nat} {so pl : Nat → Int32} {wo ws : Nat → Int64} {S0 : mS} {D d : Nat} {G GA X Y GW GT : Int} {kL : LT3} {kd : Int} {r_block : mS → (mS → Prop) → Prop} (hf_block : FmV [3, 4, 7, 8, 9, 10, 11, 13, 14, 15, 16, 17, 18, 19, 20] [8, 10, 12, 13, 14, 15, 16, 17, 18, 19, 20, 21, 24, 25, 26, 27, 28, 29, 30, 31, 32, 33, 34, 35, 36, 37, 38, 39, 40, 41, 42, 43, 44, 45, 46, 47, 48] [9] (r_block)) (hr_block : ∀ (d : Nat) (G GA X Y GW GT : Int) (kL : LT3) (kd : Int) (S : mS), D ≤ d → LV d G GA X Y → X ≤ 1800 ∧ Y ≤ 900 → GW ≤ (d : Int) - 10 ∧ GT ≤ 6 * (d : Int) + 6 → SI nx n so pl wo ws S0 d G GA X Y GW GT S → (CS nx kL (S.1 9).toInt (S.1 10).toInt (S.1 13) S) → (AF nx ((S.2.1 10) (ix (S.1 12))).toInt S) → (OH nx S0 S) → (PD nx kd S) → (kd ≤ (d : Int)) → r_block S (fun S1 => (SI nx n so pl wo ws S0 d (G - 10) (GA - 4) X Y (GW - 2) (GT - 2) S1 ∧ ((S1.1 4) = 0 → (S.1 4) = 0 ∧ (S.1 3).toInt + 2 ≤ (S1.1 3).toInt) ∧ (S.1 8).toInt ≤ (S1.1 8).toInt ∧ (S.1 9).toInt ≤ (S1.1 9).toInt ∧ (S.1 10).toInt ≤ (S1.1 10).toInt ∧ (S1.1 13) = (S.1 13) ∧ (S1.1 15) = (S.1 15) ∧ (S1.1 16) = (S.1 16)) ∧ (CS nx kL (S1.1 9).toInt (S1.1 10).toInt (S1.1 13) S1 ∧ AF nx ((S1.2.1 10) (ix (S1.1 12))).toInt S1 ∧ OH nx S0 S1 ∧ PD nx kd S1 ∧ TM S S1))) {S : mS} (hL : LV d G GA X Y) (h : SI nx n so pl wo ws S0 d G GA X Y GW GT S) (hX : X ≤ 1700 ∧ Y ≤ 850) (hD : D ≤ d) (hW : GW ≤ (d : Int) - 12 ∧ GT ≤ 6 * (d : Int) - 3) (hf : (S.1 4) = 0) (hG : G + 2 ≤ 100 + 20 * (d : Int) ∧ GA + 2 ≤ 40 + 4 * (d : Int)) (hC : CS nx kL (S.1 9).toInt (S.1 10).toInt (S.1 13) S) (hA : AF nx ((S.2.1 10) (ix (S.1 12))).toInt S) (hO : OH nx S0 S) (hP : PD nx kd S) (hk : kd + 1 ≤ (d : Int)) : wp_trial r_block S (fun S1 => (SI nx n so pl wo ws S0 d G GA (X + 18) (Y + 8) GW (GT + 3) S1 ∧ ((S1.1 4) = 0 → (S.1 4) = 0 ∧ (S.1 3).toInt < (S1.1 3).toInt) ∧ (S.1 8).toInt ≤ (S1.1 8).toInt ∧ (S.1 9).toInt ≤ (S1.1 9).toInt ∧ (S.1 10).toInt ≤ (S1.1 10).toInt ∧ (S1.1 13) = (S.1 13) ∧ (S1.1 15) = (S.1 15) ∧ (S1.1 16) = (S.1 16)) ∧ (CS nx kL (S1.1 9).toInt (S1.1 10).toInt (S1.1 13) S1 ∧ AF nx ((S1.2.1 10) (ix (S1.1 12))).toInt S1 ∧ OH nx S0 S1 ∧ PD nx kd S1 ∧ TM S S1)) := by
  have tS0 : TM S S := TM_rf
  have hwm : 8 * ((S.1 10).toInt - 500 * nx) ≤ 4000 + GW ∧ 9 * ((S.1 9).toInt - 500 * nx) ≤ 4000 + GT := by
    have q1 := h.2.2.2.1 hf
    have q2 := h.1.1
    have q3 := q2.2.2.2.2.2.2 hf
    have q4 := q2.1.2.2 (ix (S.1 3)) (by unfold ix; omega)
    omega
  unfold wp_trial
  have j425 : ∀ (x1 : Int32) (Sx : mS), (SI nx n so pl wo ws S0 d G GA (X + 18) (Y + 8) GW (GT + 3) Sx ∧ ((Sx.1 4) = 0 → (S.1 4) = 0 ∧ (S.1 3).toInt < (Sx.1 3).toInt) ∧ (S.1 8).toInt ≤ (Sx.1 8).toInt ∧ (S.1 9).toInt ≤ (Sx.1 9).toInt ∧ (S.1 10).toInt ≤ (Sx.1 10).toInt ∧ (Sx.1 13) = (S.1 13) ∧ (Sx.1 15) = (S.1 15) ∧ (Sx.1 16) = (S.1 16) + 1 ∧ x1 = (S.1 9) ∧ (S.1 9).toInt < (Sx.1 9).toInt) ∧ (CD nx ((ix x1, 3, (0 : Int32)) :: kL) (Sx.1 9).toInt (Sx.1 10).toInt Sx ∧ AF nx ((Sx.2.1 10) (ix (Sx.1 12))).toInt Sx ∧ OH nx S0 Sx ∧ TM S Sx ∧ TF nx S x1 Sx) → wp_trial_425 r_block (fun S1 => (SI nx n so pl wo ws S0 d G GA (X + 18) (Y + 8) GW (GT + 3) S1 ∧ ((S1.1 4) = 0 → (S.1 4) = 0 ∧ (S.1 3).toInt < (S1.1 3).toInt) ∧ (S.1 8).toInt ≤ (S1.1 8).toInt ∧ (S.1 9).toInt ≤ (S1.1 9).toInt ∧ (S.1 10).toInt ≤ (S1.1 10).toInt ∧ (S1.1 13) = (S.1 13) ∧ (S1.1 15) = (S.1 15) ∧ (S1.1 16) = (S.1 16)) ∧ (CS nx kL (S1.1 9).toInt (S1.1 10).toInt (S1.1 13) S1 ∧ AF nx ((S1.2.1 10) (ix (S1.1 12))).toInt S1 ∧ OH nx S0 S1 ∧ PD nx kd S1 ∧ TM S S1)) x1 Sx := by
    intro x1 Sx hJ425
    unfold wp_trial_425
    obtain ⟨hJ425, iJ425⟩ := hJ425
    intro z59 ez59
    intro S60 eS60
    have tS60 : NT Sx S60 := NT_z eS60 (by decide)
    have nS60 : NC Sx S60 := NC_z eS60 (by decide)
    have mS60 : NA Sx S60 := NA_z eS60 (by decide)
    have oS60 : NO nx Sx S60 := NO_z eS60
    refine ⟨by (try clear hC hA hO hP hk tS0 iJ425 tS60 nS60 mS60 oS60); (try clear j425); (try clear j394); (try clear j230); (try clear hr_block); (try clear hf_block); grind -mbtc (splits := 20) (gen := 30) (ematch := 15) [SI, PT, WB_ad2, WB_nt, WB_on, WB_fi, WB_nf, LA_n, LA_p, OR1, B01, PTc_up, ix_int, ix_1, XI, PI, PJ, BU, LV, LA_i, q_zz, q_za, q_zga, q_fza, q_fx, q_fga, q_gza, q_gfa, q_gx, q_zf1, q_zg1, q_ff, q_fg1, q_gf1, q_gg, ti_link, in1000], ?_⟩
    intro S61 eS61
    have dS61 : NP S60 S61 := NP_f eS61 (by decide)
    have tS61 : NT S60 S61 := NT_f eS61 (by decide)
    have mS61 : NA S60 S61 := NA_f eS61 (by decide)
    have oS61 : NO nx S60 S61 := NO_f eS61 (nH_t (by decide) (by (try clear hC hA hO hP hk tS0 iJ425 tS60 nS60 mS60 oS60 dS61 tS61 mS61); (try clear j425); (try clear j394); (try clear j230); (try clear hr_block); (try clear hf_block); grind -mbtc (splits := 20) (gen := 30) (ematch := 15) [SI, PT, WB_ad2, WB_nt, WB_on, WB_fi, WB_nf, LA_n, LA_p, OR1, B01, PTc_up, ix_int, ix_1, XI, PI, PJ, BU, LV, LA_i, q_zz, q_za, q_zga, q_fza, q_fx, q_fga, q_gza, q_gfa, q_gx, q_zf1, q_zg1, q_ff, q_fg1, q_gf1, q_gg, ti_link, in1000]))
    have cs61 : CS nx ((ix x1, 3, (0 : Int32)) :: kL) (Sx.1 9).toInt (Sx.1 10).toInt (S.1 13) S61 := CS_lift (by rw [eS61]; rfl) (fun _ _ _ q => CW_w33 eS61 (Or.inl (List.mem_cons_self ..)) q) (CS_nc nS60 (CD_CS _ iJ425.1))
    have tf61 : TF nx S x1 S61 := by
          have q9 := iJ425.2.2.2.2
          rw [eS61, eS60]
          exact q9
    have cS61 : CS nx kL (Sx.1 9).toInt (Sx.1 10).toInt (S.1 13) S61 := CS_bcl (by (try clear hC hA hO hP hk tS0 iJ425 tS60 nS60 mS60 oS60 dS61 tS61 mS61 oS61 cs61 tf61); (try clear j425); (try clear j394); (try clear j230); (try clear hr_block); (try clear hf_block); grind -mbtc (splits := 20) (gen := 30) (ematch := 15) [SI, PT, WB_ad2, WB_nt, WB_on, WB_fi, WB_nf, LA_n, LA_p, OR1, B01, PTc_up, ix_int, ix_1, XI, PI, PJ, BU, LV, LA_i, q_zz, q_za, q_zga, q_fza, q_fx, q_fga, q_gza, q_gfa, q_gx, q_zf1, q_zg1, q_ff, q_fg1, q_gf1, q_gg, ti_link, in1000]) (by (try clear hC hA hO hP hk tS0 iJ425 tS60 nS60 mS60 oS60 dS61 tS61 mS61 oS61 cs61 tf61); (try clear j425); (try clear j394); (try clear j230); (try clear hr_block); (try clear hf_block); grind -mbtc (splits := 20) (gen := 30) (ematch := 15) [SI, PT, WB_ad2, WB_nt, WB_on, WB_fi, WB_nf, LA_n, LA_p, OR1, B01, PTc_up, ix_int, ix_1, XI, PI, PJ, BU, LV, LA_i, q_zz, q_za, q_zga, q_fza, q_fx, q_fga, q_gza, q_gfa, q_gx, q_zf1, q_zg1, q_ff, q_fg1, q_gf1, q_gg, ti_link, in1000]) (by
          rw [eS61]
          show upd _ _ _ _ = _
          unfold upd
          rw [if_pos rfl]
          rfl) tf61.1 cs61
    have aS61 : AF nx ((Sx.2.1 10) (ix (Sx.1 12))).toInt S61 := AF_na mS61 (AF_na mS60 iJ425.2.1)
    refine ⟨by (try clear hC hA hO hP hk tS0 iJ425 tS60 nS60 mS60 oS60 dS61 tS61 mS61 oS61 cs61 tf61 cS61 aS61); (try clear j425); (try clear j394); (try clear j230); (try clear hr_block); (try clear hf_block); grind -mbtc (splits := 20) (gen := 30) (ematch := 15) [SI, PT, WB_ad2, WB_nt, WB_on, WB_fi, WB_nf, LA_n, LA_p, OR1, B01, PTc_up, ix_int, ix_1, XI, PI, PJ, BU, LV, LA_i, q_zz, q_za, q_zga, q_fza, q_fx, q_fga, q_gza, q_gfa, q_gx, q_zf1, q_zg1, q_ff, q_fg1, q_gf1, q_gg, ti_link, in1000], ?_⟩
    intro z62 ez62
    have  rz62 : 12000 * nx ≤ z62.toInt ∧ z62.toInt < 12000 * nx + 12000 := by
          rw [ez62]
          have q9 := PTc_in (x := x1) (w := (S61.1 9)) (tt := (S61.2.1 25)) (ba := (S61.2.1 36)) (fa := (S61.2.1 35)) (by (try clear hC hA hO hP hk tS0 iJ425 tS60 nS60 mS60 oS60 dS61 tS61 mS61 oS61 cs61 tf61 cS61 aS61); (try clear j425); (try clear j394); (try clear j230); (try clear hr_block); (try clear hf_block); grind -mbtc (splits := 20) (gen := 30) (ematch := 15) [SI, PT, WB_ad2, WB_nt, WB_on, WB_fi, WB_nf, LA_n, LA_p, OR1, B01, PTc_up, ix_int, ix_1, XI, PI, PJ, BU, LV, LA_i, q_zz, q_za, q_zga, q_fza, q_fx, q_fga, q_gza, q_gfa, q_gx, q_zf1, q_zg1, q_ff, q_fg1, q_gf1, q_gg, ti_link, in1000]) (by (try clear hC hA hO hP hk tS0 iJ425 tS60 nS60 mS60 oS60 dS61 tS61 mS61 oS61 cs61 tf61 cS61 aS61); (try clear j425); (try clear j394); (try clear j230); (try clear hr_block); (try clear hf_block); grind -mbtc (splits := 20) (gen := 30) (ematch := 15) [SI, PT, WB_ad2, WB_nt, WB_on, WB_fi, WB_nf, LA_n, LA_p, OR1, B01, PTc_up, ix_int, ix_1, XI, PI, PJ, BU, LV, LA_i, q_zz, q_za, q_zga, q_fza, q_fx, q_fga, q_gza, q_gfa, q_gx, q_zf1, q_zg1, q_ff, q_fg1, q_gf1, q_gg, ti_link, in1000]) (by (try clear hC hA hO hP hk tS0 iJ425 tS60 nS60 mS60 oS60 dS61 tS61 mS61 oS61 cs61 tf61 cS61 aS61); (try clear j425); (try clear j394); (try clear j230); (try clear hr_block); (try clear hf_block); grind -mbtc (splits := 20) (gen := 30) (ematch := 15) [SI, PT, WB_ad2, WB_nt, WB_on, WB_fi, WB_nf, LA_n, LA_p, OR1, B01, PTc_up, ix_int, ix_1, XI, PI, PJ, BU, LV, LA_i, q_zz, q_za, q_zga, q_fza, q_fx, q_fga, q_gza, q_gfa, q_gx, q_zf1, q_zg1, q_ff, q_fg1, q_gf1, q_gg, ti_link, in1000])
          exact ⟨q9.1, q9.2.1⟩
    have vz62 : AV nx S61 z62 := by
          rw [ez62]
          exact AV_tb (w := x1) aS61 (by (try clear hC hA hO hP hk tS0 iJ425 tS60 nS60 mS60 oS60 dS61 tS61 mS61 oS61 cs61 tf61 cS61 aS61); (try clear j425); (try clear j394); (try clear j230); (try clear hr_block); (try clear hf_block); grind -mbtc (splits := 20) (gen := 30) (ematch := 15) [SI, PT, WB_ad2, WB_nt, WB_on, WB_fi, WB_nf, LA_n, LA_p, OR1, B01, PTc_up, ix_int, ix_1, XI, PI, PJ, BU, LV, LA_i, q_zz, q_za, q_zga, q_fza, q_fx, q_fga, q_gza, q_gfa, q_gx, q_zf1, q_zg1, q_ff, q_fg1, q_gf1, q_gg, ti_link, in1000]) (by (try clear hC hA hO hP hk tS0 iJ425 tS60 nS60 mS60 oS60 dS61 tS61 mS61 oS61 cs61 tf61 cS61 aS61); (try clear j425); (try clear j394); (try clear j230); (try clear hr_block); (try clear hf_block); grind -mbtc (splits := 20) (gen := 30) (ematch := 15) [SI, PT, WB_ad2, WB_nt, WB_on, WB_fi, WB_nf, LA_n, LA_p, OR1, B01, PTc_up, ix_int, ix_1, XI, PI, PJ, BU, LV, LA_i, q_zz, q_za, q_zga, q_fza, q_fx, q_fga, q_gza, q_gfa, q_gx, q_zf1, q_zg1, q_ff, q_fg1, q_gf1, q_gg, ti_link, in1000])
    intro S63 eS63
    have lS63 : ∀ m : Int, AV nx S61 z62 → AF nx m S61 → AF nx m S63 := fun m h8 h9 => AF_lv eS63 h8 h9
    have dS63 : NP S61 S63 := NP_z eS63 (by decide)
    have tS63 : NT S61 S63 := NT_z eS63 (by decide)
    have nS63 : NC S61 S63 := NC_z eS63 (by decide)
    have oS63 : NO nx S61 S63 := NO_z eS63
    have aS63 : AF nx ((Sx.2.1 10) (ix (Sx.1 12))).toInt S63 := AF_lv eS63 vz62 aS61
    have uS63 : TM S S63 := TM_nt (TM_nt (TM_nt iJ425.2.2.2.1 tS60) tS61) tS63
    have pS63_ : PD nx kd S63 := PD_tm hA uS63 (by (try clear hC hA hO hP hk tS0 iJ425 tS60 nS60 mS60 oS60 dS61 tS61 mS61 oS61 cs61 tf61 cS61 aS61 vz62 lS63 dS63 tS63 nS63 oS63 aS63 uS63); (try clear j425); (try clear j394); (try clear j230); (try clear hr_block); (try clear hf_block); grind -mbtc (splits := 20) (gen := 30) (ematch := 15) [SI, PT, WB_ad2, WB_nt, WB_on, WB_fi, WB_nf, LA_n, LA_p, OR1, B01, PTc_up, ix_int, ix_1, XI, PI, PJ, BU, LV, LA_i, q_zz, q_za, q_zga, q_fza, q_fx, q_fga, q_gza, q_gfa, q_gx, q_zf1, q_zg1, q_ff, q_fg1, q_gf1, q_gg, ti_link, in1000]) (by (try clear hC hA hO hP hk tS0 iJ425 tS60 nS60 mS60 oS60 dS61 tS61 mS61 oS61 cs61 tf61 cS61 aS61 vz62 lS63 dS63 tS63 nS63 oS63 aS63 uS63); (try clear j425); (try clear j394); (try clear j230); (try clear hr_block); (try clear hf_block); grind -mbtc (splits := 20) (gen := 30) (ematch := 15) [SI, PT, WB_ad2, WB_nt, WB_on, WB_fi, WB_nf, LA_n, LA_p, OR1, B01, PTc_up, ix_int, ix_1, XI, PI, PJ, BU, LV, LA_i, q_zz, q_za, q_zga, q_fza, q_fx, q_fga, q_gza, q_gfa, q_gx, q_zf1, q_zg1, q_ff, q_fg1, q_gf1, q_gg, ti_link, in1000]) hP
    exact ⟨by (try clear hC hA hO hP hk tS0 iJ425 tS60 nS60 mS60 oS60 dS61 tS61 mS61 oS61 cs61 tf61 cS61 aS61 vz62 lS63 dS63 tS63 nS63 oS63 aS63 uS63 pS63_); (try clear j425); (try clear j394); (try clear j230); (try clear hr_block); (try clear hf_block); grind -mbtc (splits := 20) (gen := 30) (ematch := 15) [SI, PT, WB_ad2, WB_nt, WB_on, WB_fi, WB_nf, LA_n, LA_p, OR1, B01, PTc_up, ix_int, ix_1, XI, PI, PJ, BU, LV, LA_i, q_zz, q_za, q_zga, q_fza, q_fx, q_fga, q_gza, q_gfa, q_gx, q_zf1, q_zg1, q_ff, q_fg1, q_gf1, q_gg, ti_link, in1000], by refine ⟨?_, ?_, ?_, ?_, ?_⟩ <;> ((try clear j425); (try clear j394); (try clear j230); (try clear hr_block); (try clear hf_block); grind (ematch := 12) (gen := 12) (splits := 15) [→ CF_nc, → CS_nc, → AF_na, → OH_no, → CS_step, → CS_CF, AF_nf, AQ_o, CS_nf, q_zz, q_za, q_zga, q_fza, q_fx, q_fga, q_gza, q_gfa, q_gx, q_zf1, q_zg1, q_ff, q_fg1, q_gf1, q_gg, AV_i, → CD_nc, CD_nf, ← CD_CS, → PD_np, → TM_nt, → TM_tr, ti_link])⟩
  have j394 : ∀ (x1 : Int32) (x3 : Int32) (x4 : Int32) (Sx : mS), (SI nx n so pl wo ws S0 d G GA (X + 18) (Y + 8) GW (GT + 7) Sx ∧ ((Sx.1 4) = 0 → (S.1 4) = 0 ∧ (S.1 3).toInt < (Sx.1 3).toInt) ∧ (S.1 8).toInt ≤ (Sx.1 8).toInt ∧ (S.1 9).toInt ≤ (Sx.1 9).toInt ∧ (S.1 10).toInt ≤ (Sx.1 10).toInt ∧ (Sx.1 13) = (S.1 13) ∧ (Sx.1 15) = (S.1 15) ∧ (Sx.1 16) = (S.1 16) + 1 ∧ x1 = (S.1 9) ∧ (S.1 9).toInt < (Sx.1 9).toInt ∧ WB nx pl GW (GT + 3) Sx ∧ LA nx x3.toInt ∧ x3.toInt < 12000 * nx + 12000 ∧ LA nx x4.toInt ∧ x4.toInt < 12000 * nx + 12000) ∧ (CD nx ((ix x1, 3, (0 : Int32)) :: kL) (Sx.1 9).toInt (Sx.1 10).toInt Sx ∧ AF nx ((Sx.2.1 10) (ix (Sx.1 12))).toInt Sx ∧ OH nx S0 Sx ∧ TM S Sx ∧ TF nx S x1 Sx ∧ (x3.toInt = -1 ∨ AV nx Sx x3) ∧ (x4.toInt = -1 ∨ AV nx Sx x4)) → wp_trial_394 r_block (fun S1 => (SI nx n so pl wo ws S0 d G GA (X + 18) (Y + 8) GW (GT + 3) S1 ∧ ((S1.1 4) = 0 → (S.1 4) = 0 ∧ (S.1 3).toInt < (S1.1 3).toInt) ∧ (S.1 8).toInt ≤ (S1.1 8).toInt ∧ (S.1 9).toInt ≤ (S1.1 9).toInt ∧ (S.1 10).toInt ≤ (S1.1 10).toInt ∧ (S1.1 13) = (S.1 13) ∧ (S1.1 15) = (S.1 15) ∧ (S1.1 16) = (S.1 16)) ∧ (CS nx kL (S1.1 9).toInt (S1.1 10).toInt (S1.1 13) S1 ∧ AF nx ((S1.2.1 10) (ix (S1.1 12))).toInt S1 ∧ OH nx S0 S1 ∧ PD nx kd S1 ∧ TM S S1)) x1 x3 x4 Sx := by
    intro x1 x3 x4 Sx hJ394
    unfold wp_trial_394
    obtain ⟨hJ394, iJ394⟩ := hJ394
    intro S64 eS64
    have lS64 : ∀ m : Int, AV nx Sx x3 → AF nx m Sx → AF nx m S64 := fun m h8 h9 => AF_lv eS64 h8 h9
    have dS64 : NP Sx S64 := NP_z eS64 (by decide)
    have tS64 : NT Sx S64 := NT_z eS64 (by decide)
    have nS64 : NC Sx S64 := NC_z eS64 (by decide)
    have oS64 : NO nx Sx S64 := NO_z eS64
    have aS64 : AF nx ((Sx.2.1 10) (ix (Sx.1 12))).toInt S64 := AF_lx eS64 iJ394.2.2.2.2.2.1 iJ394.2.1
    refine ⟨by (try clear hC hA hO hP hk tS0 iJ394 lS64 dS64 tS64 nS64 oS64 aS64); (try clear j425); (try clear j394); (try clear j230); (try clear hr_block); (try clear hf_block); grind -mbtc (splits := 20) (gen := 30) (ematch := 15) [SI, PT, WB_ad2, WB_nt, WB_on, WB_fi, WB_nf, LA_n, LA_p, OR1, B01, PTc_up, ix_int, ix_1, XI, PI, PJ, BU, LV, LA_i, q_zz, q_za, q_zga, q_fza, q_fx, q_fga, q_gza, q_gfa, q_gx, q_zf1, q_zg1, q_ff, q_fg1, q_gf1, q_gg, ti_link, in1000], ?_⟩
    intro z65 ez65
    have vz65 : AV nx S64 z65 := by
          rw [ez65]
          exact AV_tb (w := x1) aS64 (by (try clear hC hA hO hP hk tS0 iJ394 lS64 dS64 tS64 nS64 oS64 aS64); (try clear j425); (try clear j394); (try clear j230); (try clear hr_block); (try clear hf_block); grind -mbtc (splits := 20) (gen := 30) (ematch := 15) [SI, PT, WB_ad2, WB_nt, WB_on, WB_fi, WB_nf, LA_n, LA_p, OR1, B01, PTc_up, ix_int, ix_1, XI, PI, PJ, BU, LV, LA_i, q_zz, q_za, q_zga, q_fza, q_fx, q_fga, q_gza, q_gfa, q_gx, q_zf1, q_zg1, q_ff, q_fg1, q_gf1, q_gg, ti_link, in1000]) (by (try clear hC hA hO hP hk tS0 iJ394 lS64 dS64 tS64 nS64 oS64 aS64); (try clear j425); (try clear j394); (try clear j230); (try clear hr_block); (try clear hf_block); grind -mbtc (splits := 20) (gen := 30) (ematch := 15) [SI, PT, WB_ad2, WB_nt, WB_on, WB_fi, WB_nf, LA_n, LA_p, OR1, B01, PTc_up, ix_int, ix_1, XI, PI, PJ, BU, LV, LA_i, q_zz, q_za, q_zga, q_fza, q_fx, q_fga, q_gza, q_gfa, q_gx, q_zf1, q_zg1, q_ff, q_fg1, q_gf1, q_gg, ti_link, in1000])
    refine fm_lead _ _ _ _ (fun S66 hF1 pS66 => ?_) (sgv_lead (nx := nx) _ (by (try clear hC hA hO hP hk tS0 iJ394 lS64 dS64 tS64 nS64 oS64 aS64 vz65); (try clear j425); (try clear j394); (try clear j230); (try clear hr_block); (try clear hf_block); grind -mbtc (splits := 20) (gen := 30) (ematch := 15) [SI, PT, WB_ad2, WB_nt, WB_on, WB_fi, WB_nf, LA_n, LA_p, OR1, B01, PTc_up, ix_int, ix_1, XI, PI, PJ, BU, LV, LA_i, q_zz, q_za, q_zga, q_fza, q_fx, q_fga, q_gza, q_gfa, q_gx, q_zf1, q_zg1, q_ff, q_fg1, q_gf1, q_gg, ti_link, in1000]))
    obtain ⟨pS66, qS66⟩ := pS66
    have tS66 : NT S64 S66 := NT_fr hF1 (by decide) (by decide)
    have fS66 : S66.1 4 = 0 → S64.1 4 = 0 := fun q => (hF1.1 4 (by decide)).symm.trans q
    have dS66 : NP S64 S66 := NP_fr hF1 (by decide) (by decide) fS66
    have nS66 : NC S64 S66 := NC_fr hF1 (by decide) (by decide) fS66
    have z3_S66 := hF1.1 3 (by decide)
    have z4_S66 := hF1.1 4 (by decide)
    have z6_S66 := hF1.1 6 (by decide)
    have z7_S66 := hF1.1 7 (by decide)
    have z8_S66 := hF1.1 8 (by decide)
    have z9_S66 := hF1.1 9 (by decide)
    have z10_S66 := hF1.1 10 (by decide)
    have z11_S66 := hF1.1 11 (by decide)
    have z12_S66 := hF1.1 12 (by decide)
    have z13_S66 := hF1.1 13 (by decide)
    have z15_S66 := hF1.1 15 (by decide)
    have z17_S66 := hF1.1 17 (by decide)
    have z18_S66 := hF1.1 18 (by decide)
    have z19_S66 := hF1.1 19 (by decide)
    have z20_S66 := hF1.1 20 (by decide)
    have z16_S66 := hF1.1 16 (by decide)
    have f1_S66 := hF1.2.1 1 (by decide)
    have f1a_S66 := Fr_fa hF1 1 (by decide)
    have f2_S66 := hF1.2.1 2 (by decide)
    have f2a_S66 := Fr_fa hF1 2 (by decide)
    have f8_S66 := hF1.2.1 8 (by decide)
    have f8a_S66 := Fr_fa hF1 8 (by decide)
    have f10_S66 := hF1.2.1 10 (by decide)
    have f10a_S66 := Fr_fa hF1 10 (by decide)
    have f25_S66 := hF1.2.1 25 (by decide)
    have f25a_S66 := Fr_fa hF1 25 (by decide)
    have f28_S66 := hF1.2.1 28 (by decide)
    have f28a_S66 := Fr_fa hF1 28 (by decide)
    have f35_S66 := hF1.2.1 35 (by decide)
    have f35a_S66 := Fr_fa hF1 35 (by decide)
    have f36_S66 := hF1.2.1 36 (by decide)
    have f36a_S66 := Fr_fa hF1 36 (by decide)
    have f45_S66 := hF1.2.1 45 (by decide)
    have f45a_S66 := Fr_fa hF1 45 (by decide)
    have f46_S66 := hF1.2.1 46 (by decide)
    have f46a_S66 := Fr_fa hF1 46 (by decide)
    have f48_S66 := hF1.2.1 48 (by decide)
    have f48a_S66 := Fr_fa hF1 48 (by decide)
    have f40_S66 := hF1.2.1 40 (by decide)
    have f40a_S66 := Fr_fa hF1 40 (by decide)
    have f41_S66 := hF1.2.1 41 (by decide)
    have f41a_S66 := Fr_fa hF1 41 (by decide)
    have f42_S66 := hF1.2.1 42 (by decide)
    have f42a_S66 := Fr_fa hF1 42 (by decide)
    have f44_S66 := hF1.2.1 44 (by decide)
    have f44a_S66 := Fr_fa hF1 44 (by decide)
    have f29_S66 := hF1.2.1 29 (by decide)
    have f29a_S66 := Fr_fa hF1 29 (by decide)
    have f27_S66 := hF1.2.1 27 (by decide)
    have f27a_S66 := Fr_fa hF1 27 (by decide)
    have f37_S66 := hF1.2.1 37 (by decide)
    have f37a_S66 := Fr_fa hF1 37 (by decide)
    have f38_S66 := hF1.2.1 38 (by decide)
    have f38a_S66 := Fr_fa hF1 38 (by decide)
    have g3_S66 := hF1.2.2 3 (by decide)
    have g3a_S66 := Fr_ga hF1 3 (by decide)
    have g4_S66 := hF1.2.2 4 (by decide)
    have g4a_S66 := Fr_ga hF1 4 (by decide)
    clear hF1
    have aS66 : AF nx ((Sx.2.1 10) (ix (Sx.1 12))).toInt S66 := qS66.2.1 _ aS64 vz65
    have wS66 : x4.toInt = -1 ∨ AV nx S66 x4 := iJ394.2.2.2.2.2.2.imp id (fun q => AV_m q (by (try clear hC hA hO hP hk tS0 iJ394 lS64 dS64 tS64 nS64 oS64 aS64 vz65 qS66 tS66 dS66 nS66 aS66); (try clear j425); (try clear j394); (try clear j230); (try clear hr_block); (try clear hf_block); grind -mbtc (splits := 20) (gen := 30) (ematch := 15) [SI, PT, WB_ad2, WB_nt, WB_on, WB_fi, WB_nf, LA_n, LA_p, OR1, B01, PTc_up, ix_int, ix_1, XI, PI, PJ, BU, LV, LA_i, q_zz, q_za, q_zga, q_fza, q_fx, q_fga, q_gza, q_gfa, q_gx, q_zf1, q_zg1, q_ff, q_fg1, q_gf1, q_gg, ti_link, in1000]) (by (try clear hC hA hO hP hk tS0 iJ394 lS64 dS64 tS64 nS64 oS64 aS64 vz65 qS66 tS66 dS66 nS66 aS66); (try clear j425); (try clear j394); (try clear j230); (try clear hr_block); (try clear hf_block); grind -mbtc (splits := 20) (gen := 30) (ematch := 15) [SI, PT, WB_ad2, WB_nt, WB_on, WB_fi, WB_nf, LA_n, LA_p, OR1, B01, PTc_up, ix_int, ix_1, XI, PI, PJ, BU, LV, LA_i, q_zz, q_za, q_zga, q_fza, q_fx, q_fga, q_gza, q_gfa, q_gx, q_zf1, q_zg1, q_ff, q_fg1, q_gf1, q_gg, ti_link, in1000]))
    intro S67 eS67
    have lS67 : ∀ m : Int, AV nx S66 x4 → AF nx m S66 → AF nx m S67 := fun m h8 h9 => AF_lv eS67 h8 h9
    have dS67 : NP S66 S67 := NP_z eS67 (by decide)
    have tS67 : NT S66 S67 := NT_z eS67 (by decide)
    have nS67 : NC S66 S67 := NC_z eS67 (by decide)
    have oS67 : NO nx S66 S67 := NO_z eS67
    have aS67 : AF nx ((Sx.2.1 10) (ix (Sx.1 12))).toInt S67 := AF_lx eS67 wS66 aS66
    refine ⟨by (try clear hC hA hO hP hk tS0 iJ394 lS64 dS64 tS64 nS64 oS64 aS64 vz65 qS66 tS66 dS66 nS66 aS66 wS66 lS67 dS67 tS67 nS67 oS67 aS67); (try clear j425); (try clear j394); (try clear j230); (try clear hr_block); (try clear hf_block); grind -mbtc (splits := 20) (gen := 30) (ematch := 15) [SI, PT, WB_ad2, WB_nt, WB_on, WB_fi, WB_nf, LA_n, LA_p, OR1, B01, PTc_up, ix_int, ix_1, XI, PI, PJ, BU, LV, LA_i, q_zz, q_za, q_zga, q_fza, q_fx, q_fga, q_gza, q_gfa, q_gx, q_zf1, q_zg1, q_ff, q_fg1, q_gf1, q_gg, ti_link, in1000], ?_⟩
    intro z68 ez68
    have vz68 : AV nx S67 z68 := by
          rw [ez68]
          exact AV_tb (w := x1) aS67 (by (try clear hC hA hO hP hk tS0 iJ394 lS64 dS64 tS64 nS64 oS64 aS64 vz65 qS66 tS66 dS66 nS66 aS66 wS66 lS67 dS67 tS67 nS67 oS67 aS67); (try clear j425); (try clear j394); (try clear j230); (try clear hr_block); (try clear hf_block); grind -mbtc (splits := 20) (gen := 30) (ematch := 15) [SI, PT, WB_ad2, WB_nt, WB_on, WB_fi, WB_nf, LA_n, LA_p, OR1, B01, PTc_up, ix_int, ix_1, XI, PI, PJ, BU, LV, LA_i, q_zz, q_za, q_zga, q_fza, q_fx, q_fga, q_gza, q_gfa, q_gx, q_zf1, q_zg1, q_ff, q_fg1, q_gf1, q_gg, ti_link, in1000]) (by (try clear hC hA hO hP hk tS0 iJ394 lS64 dS64 tS64 nS64 oS64 aS64 vz65 qS66 tS66 dS66 nS66 aS66 wS66 lS67 dS67 tS67 nS67 oS67 aS67); (try clear j425); (try clear j394); (try clear j230); (try clear hr_block); (try clear hf_block); grind -mbtc (splits := 20) (gen := 30) (ematch := 15) [SI, PT, WB_ad2, WB_nt, WB_on, WB_fi, WB_nf, LA_n, LA_p, OR1, B01, PTc_up, ix_int, ix_1, XI, PI, PJ, BU, LV, LA_i, q_zz, q_za, q_zga, q_fza, q_fx, q_fga, q_gza, q_gfa, q_gx, q_zf1, q_zg1, q_ff, q_fg1, q_gf1, q_gg, ti_link, in1000])
    refine fm_lead _ _ _ _ (fun S69 hF2 pS69 => ?_) (sgv_lead (nx := nx) _ (by (try clear hC hA hO hP hk tS0 iJ394 lS64 dS64 tS64 nS64 oS64 aS64 vz65 qS66 tS66 dS66 nS66 aS66 wS66 lS67 dS67 tS67 nS67 oS67 aS67 vz68); (try clear j425); (try clear j394); (try clear j230); (try clear hr_block); (try clear hf_block); grind -mbtc (splits := 20) (gen := 30) (ematch := 15) [SI, PT, WB_ad2, WB_nt, WB_on, WB_fi, WB_nf, LA_n, LA_p, OR1, B01, PTc_up, ix_int, ix_1, XI, PI, PJ, BU, LV, LA_i, q_zz, q_za, q_zga, q_fza, q_fx, q_fga, q_gza, q_gfa, q_gx, q_zf1, q_zg1, q_ff, q_fg1, q_gf1, q_gg, ti_link, in1000]))
    obtain ⟨pS69, qS69⟩ := pS69
    have tS69 : NT S67 S69 := NT_fr hF2 (by decide) (by decide)
    have fS69 : S69.1 4 = 0 → S67.1 4 = 0 := fun q => (hF2.1 4 (by decide)).symm.trans q
    have dS69 : NP S67 S69 := NP_fr hF2 (by decide) (by decide) fS69
    have nS69 : NC S67 S69 := NC_fr hF2 (by decide) (by decide) fS69
    have z3_S69 := hF2.1 3 (by decide)
    have z4_S69 := hF2.1 4 (by decide)
    have z6_S69 := hF2.1 6 (by decide)
    have z7_S69 := hF2.1 7 (by decide)
    have z8_S69 := hF2.1 8 (by decide)
    have z9_S69 := hF2.1 9 (by decide)
    have z10_S69 := hF2.1 10 (by decide)
    have z11_S69 := hF2.1 11 (by decide)
    have z12_S69 := hF2.1 12 (by decide)
    have z13_S69 := hF2.1 13 (by decide)
    have z15_S69 := hF2.1 15 (by decide)
    have z17_S69 := hF2.1 17 (by decide)
    have z18_S69 := hF2.1 18 (by decide)
    have z19_S69 := hF2.1 19 (by decide)
    have z20_S69 := hF2.1 20 (by decide)
    have z16_S69 := hF2.1 16 (by decide)
    have f1_S69 := hF2.2.1 1 (by decide)
    have f1a_S69 := Fr_fa hF2 1 (by decide)
    have f2_S69 := hF2.2.1 2 (by decide)
    have f2a_S69 := Fr_fa hF2 2 (by decide)
    have f8_S69 := hF2.2.1 8 (by decide)
    have f8a_S69 := Fr_fa hF2 8 (by decide)
    have f10_S69 := hF2.2.1 10 (by decide)
    have f10a_S69 := Fr_fa hF2 10 (by decide)
    have f25_S69 := hF2.2.1 25 (by decide)
    have f25a_S69 := Fr_fa hF2 25 (by decide)
    have f28_S69 := hF2.2.1 28 (by decide)
    have f28a_S69 := Fr_fa hF2 28 (by decide)
    have f35_S69 := hF2.2.1 35 (by decide)
    have f35a_S69 := Fr_fa hF2 35 (by decide)
    have f36_S69 := hF2.2.1 36 (by decide)
    have f36a_S69 := Fr_fa hF2 36 (by decide)
    have f45_S69 := hF2.2.1 45 (by decide)
    have f45a_S69 := Fr_fa hF2 45 (by decide)
    have f46_S69 := hF2.2.1 46 (by decide)
    have f46a_S69 := Fr_fa hF2 46 (by decide)
    have f48_S69 := hF2.2.1 48 (by decide)
    have f48a_S69 := Fr_fa hF2 48 (by decide)
    have f40_S69 := hF2.2.1 40 (by decide)
    have f40a_S69 := Fr_fa hF2 40 (by decide)
    have f41_S69 := hF2.2.1 41 (by decide)
    have f41a_S69 := Fr_fa hF2 41 (by decide)
    have f42_S69 := hF2.2.1 42 (by decide)
    have f42a_S69 := Fr_fa hF2 42 (by decide)
    have f44_S69 := hF2.2.1 44 (by decide)
    have f44a_S69 := Fr_fa hF2 44 (by decide)
    have f29_S69 := hF2.2.1 29 (by decide)
    have f29a_S69 := Fr_fa hF2 29 (by decide)
    have f27_S69 := hF2.2.1 27 (by decide)
    have f27a_S69 := Fr_fa hF2 27 (by decide)
    have f37_S69 := hF2.2.1 37 (by decide)
    have f37a_S69 := Fr_fa hF2 37 (by decide)
    have f38_S69 := hF2.2.1 38 (by decide)
    have f38a_S69 := Fr_fa hF2 38 (by decide)
    have g3_S69 := hF2.2.2 3 (by decide)
    have g3a_S69 := Fr_ga hF2 3 (by decide)
    have g4_S69 := hF2.2.2 4 (by decide)
    have g4a_S69 := Fr_ga hF2 4 (by decide)
    clear hF2
    have aS69 : AF nx ((Sx.2.1 10) (ix (Sx.1 12))).toInt S69 := qS69.2.1 _ aS67 vz68
    have tf69 : TF nx S x1 S69 := TF_np (TF_np (TF_np (TF_np iJ394.2.2.2.2.1 dS64) dS66) dS67) dS69
    have uS69 : TM S S69 := by (try clear j425); (try clear j394); (try clear j230); (try clear hr_block); (try clear hf_block); grind (ematch := 12) (gen := 12) (splits := 15) [→ CF_nc, → CS_nc, → AF_na, → OH_no, → CS_step, → CS_CF, AF_nf, AQ_o, CS_nf, q_zz, q_za, q_zga, q_fza, q_fx, q_fga, q_gza, q_gfa, q_gx, q_zf1, q_zg1, q_ff, q_fg1, q_gf1, q_gg, AV_i, → CD_nc, CD_nf, ← CD_CS, → PD_np, → TM_nt, → TM_tr, ti_link]
    have cS69 : CD nx ((ix x1, 3, (0 : Int32)) :: kL) (S69.1 9).toInt (S69.1 10).toInt S69 := by (try clear j425); (try clear j394); (try clear j230); (try clear hr_block); (try clear hf_block); grind (ematch := 12) (gen := 12) (splits := 15) [→ CF_nc, → CS_nc, → AF_na, → OH_no, → CS_step, → CS_CF, AF_nf, AQ_o, CS_nf, q_zz, q_za, q_zga, q_fza, q_fx, q_fga, q_gza, q_gfa, q_gx, q_zf1, q_zg1, q_ff, q_fg1, q_gf1, q_gg, AV_i, → CD_nc, CD_nf, ← CD_CS, → PD_np, → TM_nt, → TM_tr, ti_link]
    exact j425 _ _ (⟨by (try clear hC hA hO hP hk tS0 iJ394 lS64 dS64 tS64 nS64 oS64 aS64 vz65 qS66 tS66 dS66 nS66 aS66 wS66 lS67 dS67 tS67 nS67 oS67 aS67 vz68 qS69 tS69 dS69 nS69 aS69 tf69 uS69 cS69); (try clear j425); (try clear j394); (try clear j230); (try clear hr_block); (try clear hf_block); grind -mbtc (splits := 20) (gen := 30) (ematch := 15) [SI, PT, WB_ad2, WB_nt, WB_on, WB_fi, WB_nf, LA_n, LA_p, OR1, B01, PTc_up, ix_int, ix_1, XI, PI, PJ, BU, LV, LA_i, q_zz, q_za, q_zga, q_fza, q_fx, q_fga, q_gza, q_gfa, q_gx, q_zf1, q_zg1, q_ff, q_fg1, q_gf1, q_gg, ti_link, in1000], by refine ⟨?_, ?_, ?_, ?_, ?_⟩ <;> ((try clear j425); (try clear j394); (try clear j230); (try clear hr_block); (try clear hf_block); grind (ematch := 12) (gen := 12) (splits := 15) [→ CF_nc, → CS_nc, → AF_na, → OH_no, → CS_step, → CS_CF, AF_nf, AQ_o, CS_nf, q_zz, q_za, q_zga, q_fza, q_fx, q_fga, q_gza, q_gfa, q_gx, q_zf1, q_zg1, q_ff, q_fg1, q_gf1, q_gg, AV_i, → CD_nc, CD_nf, ← CD_CS, → PD_np, → TM_nt, → TM_tr, ti_link])⟩)
  have j230 : ∀ (x1 : Int32) (x3 : Int32) (x4 : Int32) (Sx : mS), (SI nx n so pl wo ws S0 d (G - 4) (GA - 2) (X + 8) (Y + 4) GW (GT + 7) Sx ∧ ((Sx.1 4) = 0 → (S.1 4) = 0 ∧ (S.1 3).toInt < (Sx.1 3).toInt) ∧ (S.1 8).toInt ≤ (Sx.1 8).toInt ∧ (S.1 9).toInt ≤ (Sx.1 9).toInt ∧ (S.1 10).toInt ≤ (Sx.1 10).toInt ∧ (Sx.1 13) = (S.1 13) ∧ (Sx.1 15) = (S.1 15) ∧ (Sx.1 16) = (S.1 16) + 1 ∧ x1 = (S.1 9) ∧ (S.1 9).toInt < (Sx.1 9).toInt ∧ (¬ (Sx.2.1 28) (ix x1) = 0 → WB nx pl GW (GT + 3) Sx) ∧ LA nx x3.toInt ∧ x3.toInt < 12000 * nx + 12000 ∧ LA nx x4.toInt ∧ x4.toInt < 12000 * nx + 12000) ∧ (CD nx ((ix x1, 2, (0 : Int32)) :: (ix x1, 3, (0 : Int32)) :: kL) (Sx.1 9).toInt (Sx.1 10).toInt Sx ∧ AF nx ((Sx.2.1 10) (ix (Sx.1 12))).toInt Sx ∧ OH nx S0 Sx ∧ TM S Sx ∧ TF nx S x1 Sx ∧ (Sx.2.1 29) (ix x1) = 0 ∧ (x3.toInt = -1 ∨ AV nx Sx x3) ∧ (x4.toInt = -1 ∨ AV nx Sx x4)) → wp_trial_230 r_block (fun S1 => (SI nx n so pl wo ws S0 d G GA (X + 18) (Y + 8) GW (GT + 3) S1 ∧ ((S1.1 4) = 0 → (S.1 4) = 0 ∧ (S.1 3).toInt < (S1.1 3).toInt) ∧ (S.1 8).toInt ≤ (S1.1 8).toInt ∧ (S.1 9).toInt ≤ (S1.1 9).toInt ∧ (S.1 10).toInt ≤ (S1.1 10).toInt ∧ (S1.1 13) = (S.1 13) ∧ (S1.1 15) = (S.1 15) ∧ (S1.1 16) = (S.1 16)) ∧ (CS nx kL (S1.1 9).toInt (S1.1 10).toInt (S1.1 13) S1 ∧ AF nx ((S1.2.1 10) (ix (S1.1 12))).toInt S1 ∧ OH nx S0 S1 ∧ PD nx kd S1 ∧ TM S S1)) x1 x3 x4 Sx := by
    intro x1 x3 x4 Sx hJ230
    unfold wp_trial_230
    obtain ⟨hJ230, iJ230⟩ := hJ230
    refine fm_hasWord _ _ _ _ (fun S33 r33 hF3 pS33 => ?_) (sg_hasWord (nx := nx) (n := n) (so := so) (pl := pl) (wo := wo) (ws := ws) _ (by (try clear hC hA hO hP hk tS0 iJ230); (try clear j425); (try clear j394); (try clear j230); (try clear hr_block); (try clear hf_block); grind -mbtc (splits := 20) (gen := 30) (ematch := 15) [SI, PT, WB_ad2, WB_nt, WB_on, WB_fi, WB_nf, LA_n, LA_p, OR1, B01, PTc_up, ix_int, ix_1, XI, PI, PJ, BU, LV, LA_i, q_zz, q_za, q_zga, q_fza, q_fx, q_fga, q_gza, q_gfa, q_gx, q_zf1, q_zg1, q_ff, q_fg1, q_gf1, q_gg, ti_link, in1000]) (by (try clear hC hA hO hP hk tS0 iJ230); (try clear j425); (try clear j394); (try clear j230); (try clear hr_block); (try clear hf_block); grind -mbtc (splits := 20) (gen := 30) (ematch := 15) [SI, PT, WB_ad2, WB_nt, WB_on, WB_fi, WB_nf, LA_n, LA_p, OR1, B01, PTc_up, ix_int, ix_1, XI, PI, PJ, BU, LV, LA_i, q_zz, q_za, q_zga, q_fza, q_fx, q_fga, q_gza, q_gfa, q_gx, q_zf1, q_zg1, q_ff, q_fg1, q_gf1, q_gg, ti_link, in1000]))
    have tS33 : NT Sx S33 := NT_fr hF3 (by decide) (by decide)
    have fS33 : S33.1 4 = 0 → Sx.1 4 = 0 := fun q => (hF3.1 4 (by decide)).symm.trans q
    have dS33 : NP Sx S33 := NP_fr hF3 (by decide) (by decide) fS33
    have nS33 : NC Sx S33 := NC_fr hF3 (by decide) (by decide) fS33
    have mS33 : NA Sx S33 := NA_fr hF3 (by decide) (by decide) fS33
    have oS33 : NO nx Sx S33 := NO_fr hF3 (by decide) (by decide)
    have z4_S33 := hF3.1 4 (by decide)
    have z6_S33 := hF3.1 6 (by decide)
    have z7_S33 := hF3.1 7 (by decide)
    have z8_S33 := hF3.1 8 (by decide)
    have z9_S33 := hF3.1 9 (by decide)
    have z10_S33 := hF3.1 10 (by decide)
    have z11_S33 := hF3.1 11 (by decide)
    have z12_S33 := hF3.1 12 (by decide)
    have z13_S33 := hF3.1 13 (by decide)
    have z15_S33 := hF3.1 15 (by decide)
    have z17_S33 := hF3.1 17 (by decide)
    have z18_S33 := hF3.1 18 (by decide)
    have z19_S33 := hF3.1 19 (by decide)
    have z20_S33 := hF3.1 20 (by decide)
    have z16_S33 := hF3.1 16 (by decide)
    have f1_S33 := hF3.2.1 1 (by decide)
    have f1a_S33 := Fr_fa hF3 1 (by decide)
    have f2_S33 := hF3.2.1 2 (by decide)
    have f2a_S33 := Fr_fa hF3 2 (by decide)
    have f8_S33 := hF3.2.1 8 (by decide)
    have f8a_S33 := Fr_fa hF3 8 (by decide)
    have f10_S33 := hF3.2.1 10 (by decide)
    have f10a_S33 := Fr_fa hF3 10 (by decide)
    have f25_S33 := hF3.2.1 25 (by decide)
    have f25a_S33 := Fr_fa hF3 25 (by decide)
    have f28_S33 := hF3.2.1 28 (by decide)
    have f28a_S33 := Fr_fa hF3 28 (by decide)
    have f35_S33 := hF3.2.1 35 (by decide)
    have f35a_S33 := Fr_fa hF3 35 (by decide)
    have f36_S33 := hF3.2.1 36 (by decide)
    have f36a_S33 := Fr_fa hF3 36 (by decide)
    have f45_S33 := hF3.2.1 45 (by decide)
    have f45a_S33 := Fr_fa hF3 45 (by decide)
    have f46_S33 := hF3.2.1 46 (by decide)
    have f46a_S33 := Fr_fa hF3 46 (by decide)
    have f48_S33 := hF3.2.1 48 (by decide)
    have f48a_S33 := Fr_fa hF3 48 (by decide)
    have f40_S33 := hF3.2.1 40 (by decide)
    have f40a_S33 := Fr_fa hF3 40 (by decide)
    have f41_S33 := hF3.2.1 41 (by decide)
    have f41a_S33 := Fr_fa hF3 41 (by decide)
    have f42_S33 := hF3.2.1 42 (by decide)
    have f42a_S33 := Fr_fa hF3 42 (by decide)
    have f44_S33 := hF3.2.1 44 (by decide)
    have f44a_S33 := Fr_fa hF3 44 (by decide)
    have f29_S33 := hF3.2.1 29 (by decide)
    have f29a_S33 := Fr_fa hF3 29 (by decide)
    have f27_S33 := hF3.2.1 27 (by decide)
    have f27a_S33 := Fr_fa hF3 27 (by decide)
    have f37_S33 := hF3.2.1 37 (by decide)
    have f37a_S33 := Fr_fa hF3 37 (by decide)
    have f38_S33 := hF3.2.1 38 (by decide)
    have f38a_S33 := Fr_fa hF3 38 (by decide)
    have g3_S33 := hF3.2.2 3 (by decide)
    have g3a_S33 := Fr_ga hF3 3 (by decide)
    have g4_S33 := hF3.2.2 4 (by decide)
    have g4a_S33 := Fr_ga hF3 4 (by decide)
    clear hF3
    have tf33 : TF nx S x1 S33 := TF_np iJ230.2.2.2.2.1 dS33
    have uS33 : TM S S33 := TM_nt iJ230.2.2.2.1 tS33
    have cS33 : CD nx ((ix x1, 2, (0 : Int32)) :: (ix x1, 3, (0 : Int32)) :: kL) (S33.1 9).toInt (S33.1 10).toInt S33 := by (try clear j425); (try clear j394); (try clear j230); (try clear hr_block); (try clear hf_block); grind (ematch := 12) (gen := 12) (splits := 15) [→ CF_nc, → CS_nc, → AF_na, → OH_no, → CS_step, → CS_CF, AF_nf, AQ_o, CS_nf, q_zz, q_za, q_zga, q_fza, q_fx, q_fga, q_gza, q_gfa, q_gx, q_zf1, q_zg1, q_ff, q_fg1, q_gf1, q_gg, AV_i, → CD_nc, CD_nf, ← CD_CS, → PD_np, → TM_nt, → TM_tr, ti_link]
    have fi33 : (S33.2.1 29) (ix x1) = 0 := by (try clear j425); (try clear j394); (try clear j230); (try clear hr_block); (try clear hf_block); grind (ematch := 12) (gen := 12) (splits := 15) [→ CF_nc, → CS_nc, → AF_na, → OH_no, → CS_step, → CS_CF, AF_nf, AQ_o, CS_nf, q_zz, q_za, q_zga, q_fza, q_fx, q_fga, q_gza, q_gfa, q_gx, q_zf1, q_zg1, q_ff, q_fg1, q_gf1, q_gg, AV_i, → CD_nc, CD_nf, ← CD_CS, → PD_np, → TM_nt, → TM_tr, ti_link]
    have cc33 : CD nx ((ix x1, 3, (0 : Int32)) :: kL) (S33.1 9).toInt (S33.1 10).toInt S33 := CD_fcl (by (try clear hC hA hO hP hk tS0 iJ230 tS33 dS33 nS33 mS33 oS33 tf33 uS33 cS33 fi33); (try clear j425); (try clear j394); (try clear j230); (try clear hr_block); (try clear hf_block); grind -mbtc (splits := 20) (gen := 30) (ematch := 15) [SI, PT, WB_ad2, WB_nt, WB_on, WB_fi, WB_nf, LA_n, LA_p, OR1, B01, PTc_up, ix_int, ix_1, XI, PI, PJ, BU, LV, LA_i, q_zz, q_za, q_zga, q_fza, q_fx, q_fga, q_gza, q_gfa, q_gx, q_zf1, q_zg1, q_ff, q_fg1, q_gf1, q_gg, ti_link, in1000]) (fun _ => fi33) cS33
    have aS33 : AF nx ((Sx.2.1 10) (ix (Sx.1 12))).toInt S33 := AF_na mS33 iJ230.2.1
    have vS33 : x3.toInt = -1 ∨ AV nx S33 x3 := iJ230.2.2.2.2.2.2.1.imp id (fun q => AV_m q (by (try clear hC hA hO hP hk tS0 iJ230 tS33 dS33 nS33 mS33 oS33 tf33 uS33 cS33 fi33 cc33 aS33); (try clear j425); (try clear j394); (try clear j230); (try clear hr_block); (try clear hf_block); grind -mbtc (splits := 20) (gen := 30) (ematch := 15) [SI, PT, WB_ad2, WB_nt, WB_on, WB_fi, WB_nf, LA_n, LA_p, OR1, B01, PTc_up, ix_int, ix_1, XI, PI, PJ, BU, LV, LA_i, q_zz, q_za, q_zga, q_fza, q_fx, q_fga, q_gza, q_gfa, q_gx, q_zf1, q_zg1, q_ff, q_fg1, q_gf1, q_gg, ti_link, in1000]) (by (try clear hC hA hO hP hk tS0 iJ230 tS33 dS33 nS33 mS33 oS33 tf33 uS33 cS33 fi33 cc33 aS33); (try clear j425); (try clear j394); (try clear j230); (try clear hr_block); (try clear hf_block); grind -mbtc (splits := 20) (gen := 30) (ematch := 15) [SI, PT, WB_ad2, WB_nt, WB_on, WB_fi, WB_nf, LA_n, LA_p, OR1, B01, PTc_up, ix_int, ix_1, XI, PI, PJ, BU, LV, LA_i, q_zz, q_za, q_zga, q_fza, q_fx, q_fga, q_gza, q_gfa, q_gx, q_zf1, q_zg1, q_ff, q_fg1, q_gf1, q_gg, ti_link, in1000]))
    have wS33 : x4.toInt = -1 ∨ AV nx S33 x4 := iJ230.2.2.2.2.2.2.2.imp id (fun q => AV_m q (by (try clear hC hA hO hP hk tS0 iJ230 tS33 dS33 nS33 mS33 oS33 tf33 uS33 cS33 fi33 cc33 aS33 vS33); (try clear j425); (try clear j394); (try clear j230); (try clear hr_block); (try clear hf_block); grind -mbtc (splits := 20) (gen := 30) (ematch := 15) [SI, PT, WB_ad2, WB_nt, WB_on, WB_fi, WB_nf, LA_n, LA_p, OR1, B01, PTc_up, ix_int, ix_1, XI, PI, PJ, BU, LV, LA_i, q_zz, q_za, q_zga, q_fza, q_fx, q_fga, q_gza, q_gfa, q_gx, q_zf1, q_zg1, q_ff, q_fg1, q_gf1, q_gg, ti_link, in1000]) (by (try clear hC hA hO hP hk tS0 iJ230 tS33 dS33 nS33 mS33 oS33 tf33 uS33 cS33 fi33 cc33 aS33 vS33); (try clear j425); (try clear j394); (try clear j230); (try clear hr_block); (try clear hf_block); grind -mbtc (splits := 20) (gen := 30) (ematch := 15) [SI, PT, WB_ad2, WB_nt, WB_on, WB_fi, WB_nf, LA_n, LA_p, OR1, B01, PTc_up, ix_int, ix_1, XI, PI, PJ, BU, LV, LA_i, q_zz, q_za, q_zga, q_fza, q_fx, q_fga, q_gza, q_gfa, q_gx, q_zf1, q_zg1, q_ff, q_fg1, q_gf1, q_gg, ti_link, in1000]))
    refine ⟨fun c4 => ?_, fun c4 => ?_⟩
    · refine ⟨by (try clear hC hA hO hP hk tS0 iJ230 tS33 dS33 nS33 mS33 oS33 tf33 uS33 cS33 fi33 cc33 aS33 vS33 wS33); (try clear j425); (try clear j394); (try clear j230); (try clear hr_block); (try clear hf_block); grind -mbtc (splits := 20) (gen := 30) (ematch := 15) [SI, PT, WB_ad2, WB_nt, WB_on, WB_fi, WB_nf, LA_n, LA_p, OR1, B01, PTc_up, ix_int, ix_1, XI, PI, PJ, BU, LV, LA_i, q_zz, q_za, q_zga, q_fza, q_fx, q_fga, q_gza, q_gfa, q_gx, q_zf1, q_zg1, q_ff, q_fg1, q_gf1, q_gg, ti_link, in1000], ?_⟩
      intro z35 ez35
      refine ⟨fun c5 => ?_, fun c5 => ?_⟩
      · exact j394 _ _ _ _ (⟨by (try clear hC hA hO hP hk tS0 iJ230 tS33 dS33 nS33 mS33 oS33 tf33 uS33 cS33 fi33 cc33 aS33 vS33 wS33); (try clear j425); (try clear j394); (try clear j230); (try clear hr_block); (try clear hf_block); grind -mbtc (splits := 20) (gen := 30) (ematch := 15) [SI, PT, WB_ad2, WB_nt, WB_on, WB_fi, WB_nf, LA_n, LA_p, OR1, B01, PTc_up, ix_int, ix_1, XI, PI, PJ, BU, LV, LA_i, q_zz, q_za, q_zga, q_fza, q_fx, q_fga, q_gza, q_gfa, q_gx, q_zf1, q_zg1, q_ff, q_fg1, q_gf1, q_gg, ti_link, in1000], by refine ⟨?_, ?_, ?_, ?_, ?_, ?_, ?_⟩ <;> ((try clear j425); (try clear j394); (try clear j230); (try clear hr_block); (try clear hf_block); grind (ematch := 12) (gen := 12) (splits := 15) [→ CF_nc, → CS_nc, → AF_na, → OH_no, → CS_step, → CS_CF, AF_nf, AQ_o, CS_nf, q_zz, q_za, q_zga, q_fza, q_fx, q_fga, q_gza, q_gfa, q_gx, q_zf1, q_zg1, q_ff, q_fg1, q_gf1, q_gg, AV_i, → CD_nc, CD_nf, ← CD_CS, → PD_np, → TM_nt, → TM_tr, ti_link])⟩)
      · refine fm_wrong _ _ _ _ (fun S37 hF6 pS37 => ?_) (sg_wrong (nx := nx) (n := n) (so := so) (pl := pl) (wo := wo) (ws := ws) _ (by (try clear hC hA hO hP hk tS0 iJ230 tS33 dS33 nS33 mS33 oS33 tf33 uS33 cS33 fi33 cc33 aS33 vS33 wS33); (try clear j425); (try clear j394); (try clear j230); (try clear hr_block); (try clear hf_block); grind -mbtc (splits := 20) (gen := 30) (ematch := 15) [SI, PT, WB_ad2, WB_nt, WB_on, WB_fi, WB_nf, LA_n, LA_p, OR1, B01, PTc_up, ix_int, ix_1, XI, PI, PJ, BU, LV, LA_i, q_zz, q_za, q_zga, q_fza, q_fx, q_fga, q_gza, q_gfa, q_gx, q_zf1, q_zg1, q_ff, q_fg1, q_gf1, q_gg, ti_link, in1000]) (by (try clear hC hA hO hP hk tS0 iJ230 tS33 dS33 nS33 mS33 oS33 tf33 uS33 cS33 fi33 cc33 aS33 vS33 wS33); (try clear j425); (try clear j394); (try clear j230); (try clear hr_block); (try clear hf_block); grind -mbtc (splits := 20) (gen := 30) (ematch := 15) [SI, PT, WB_ad2, WB_nt, WB_on, WB_fi, WB_nf, LA_n, LA_p, OR1, B01, PTc_up, ix_int, ix_1, XI, PI, PJ, BU, LV, LA_i, q_zz, q_za, q_zga, q_fza, q_fx, q_fga, q_gza, q_gfa, q_gx, q_zf1, q_zg1, q_ff, q_fg1, q_gf1, q_gg, ti_link, in1000]))
        have tS37 : NT S33 S37 := NT_fr hF6 (by decide) (by decide)
        have fS37 : S37.1 4 = 0 → S33.1 4 = 0 := by (try clear hC hA hO hP hk tS0 iJ230 tS33 dS33 nS33 mS33 oS33 tf33 uS33 cS33 fi33 cc33 aS33 vS33 wS33 tS37); (try clear j425); (try clear j394); (try clear j230); (try clear hr_block); (try clear hf_block); grind [ti_link]
        have dS37 : NP S33 S37 := NP_fr hF6 (by decide) (by decide) fS37
        have nS37 : NC S33 S37 := NC_fr hF6 (by decide) (by decide) fS37
        have mS37 : NA S33 S37 := NA_fr hF6 (by decide) (by decide) fS37
        have oS37 : NO nx S33 S37 := NO_fr hF6 (by decide) (by decide)
        have z3_S37 := hF6.1 3 (by decide)
        have z6_S37 := hF6.1 6 (by decide)
        have z7_S37 := hF6.1 7 (by decide)
        have z8_S37 := hF6.1 8 (by decide)
        have z9_S37 := hF6.1 9 (by decide)
        have z10_S37 := hF6.1 10 (by decide)
        have z11_S37 := hF6.1 11 (by decide)
        have z12_S37 := hF6.1 12 (by decide)
        have z13_S37 := hF6.1 13 (by decide)
        have z15_S37 := hF6.1 15 (by decide)
        have z17_S37 := hF6.1 17 (by decide)
        have z18_S37 := hF6.1 18 (by decide)
        have z19_S37 := hF6.1 19 (by decide)
        have z20_S37 := hF6.1 20 (by decide)
        have z16_S37 := hF6.1 16 (by decide)
        have f1_S37 := hF6.2.1 1 (by decide)
        have f1a_S37 := Fr_fa hF6 1 (by decide)
        have f2_S37 := hF6.2.1 2 (by decide)
        have f2a_S37 := Fr_fa hF6 2 (by decide)
        have f8_S37 := hF6.2.1 8 (by decide)
        have f8a_S37 := Fr_fa hF6 8 (by decide)
        have f10_S37 := hF6.2.1 10 (by decide)
        have f10a_S37 := Fr_fa hF6 10 (by decide)
        have f25_S37 := hF6.2.1 25 (by decide)
        have f25a_S37 := Fr_fa hF6 25 (by decide)
        have f28_S37 := hF6.2.1 28 (by decide)
        have f28a_S37 := Fr_fa hF6 28 (by decide)
        have f35_S37 := hF6.2.1 35 (by decide)
        have f35a_S37 := Fr_fa hF6 35 (by decide)
        have f36_S37 := hF6.2.1 36 (by decide)
        have f36a_S37 := Fr_fa hF6 36 (by decide)
        have f45_S37 := hF6.2.1 45 (by decide)
        have f45a_S37 := Fr_fa hF6 45 (by decide)
        have f46_S37 := hF6.2.1 46 (by decide)
        have f46a_S37 := Fr_fa hF6 46 (by decide)
        have f48_S37 := hF6.2.1 48 (by decide)
        have f48a_S37 := Fr_fa hF6 48 (by decide)
        have f40_S37 := hF6.2.1 40 (by decide)
        have f40a_S37 := Fr_fa hF6 40 (by decide)
        have f41_S37 := hF6.2.1 41 (by decide)
        have f41a_S37 := Fr_fa hF6 41 (by decide)
        have f42_S37 := hF6.2.1 42 (by decide)
        have f42a_S37 := Fr_fa hF6 42 (by decide)
        have f44_S37 := hF6.2.1 44 (by decide)
        have f44a_S37 := Fr_fa hF6 44 (by decide)
        have f29_S37 := hF6.2.1 29 (by decide)
        have f29a_S37 := Fr_fa hF6 29 (by decide)
        have f27_S37 := hF6.2.1 27 (by decide)
        have f27a_S37 := Fr_fa hF6 27 (by decide)
        have f37_S37 := hF6.2.1 37 (by decide)
        have f37a_S37 := Fr_fa hF6 37 (by decide)
        have f38_S37 := hF6.2.1 38 (by decide)
        have f38a_S37 := Fr_fa hF6 38 (by decide)
        have g3_S37 := hF6.2.2 3 (by decide)
        have g3a_S37 := Fr_ga hF6 3 (by decide)
        have g4_S37 := hF6.2.2 4 (by decide)
        have g4a_S37 := Fr_ga hF6 4 (by decide)
        clear hF6
        have vS37 : x3.toInt = -1 ∨ AV nx S37 x3 := vS33.imp id (fun q => AV_m q (by (try clear hC hA hO hP hk tS0 iJ230 tS33 dS33 nS33 mS33 oS33 tf33 uS33 cS33 fi33 cc33 aS33 vS33 wS33 tS37 dS37 nS37 mS37 oS37); (try clear j425); (try clear j394); (try clear j230); (try clear hr_block); (try clear hf_block); grind -mbtc (splits := 20) (gen := 30) (ematch := 15) [SI, PT, WB_ad2, WB_nt, WB_on, WB_fi, WB_nf, LA_n, LA_p, OR1, B01, PTc_up, ix_int, ix_1, XI, PI, PJ, BU, LV, LA_i, q_zz, q_za, q_zga, q_fza, q_fx, q_fga, q_gza, q_gfa, q_gx, q_zf1, q_zg1, q_ff, q_fg1, q_gf1, q_gg, ti_link, in1000]) (by (try clear hC hA hO hP hk tS0 iJ230 tS33 dS33 nS33 mS33 oS33 tf33 uS33 cS33 fi33 cc33 aS33 vS33 wS33 tS37 dS37 nS37 mS37 oS37); (try clear j425); (try clear j394); (try clear j230); (try clear hr_block); (try clear hf_block); grind -mbtc (splits := 20) (gen := 30) (ematch := 15) [SI, PT, WB_ad2, WB_nt, WB_on, WB_fi, WB_nf, LA_n, LA_p, OR1, B01, PTc_up, ix_int, ix_1, XI, PI, PJ, BU, LV, LA_i, q_zz, q_za, q_zga, q_fza, q_fx, q_fga, q_gza, q_gfa, q_gx, q_zf1, q_zg1, q_ff, q_fg1, q_gf1, q_gg, ti_link, in1000]))
        have wS37 : x4.toInt = -1 ∨ AV nx S37 x4 := wS33.imp id (fun q => AV_m q (by (try clear hC hA hO hP hk tS0 iJ230 tS33 dS33 nS33 mS33 oS33 tf33 uS33 cS33 fi33 cc33 aS33 vS33 wS33 tS37 dS37 nS37 mS37 oS37 vS37); (try clear j425); (try clear j394); (try clear j230); (try clear hr_block); (try clear hf_block); grind -mbtc (splits := 20) (gen := 30) (ematch := 15) [SI, PT, WB_ad2, WB_nt, WB_on, WB_fi, WB_nf, LA_n, LA_p, OR1, B01, PTc_up, ix_int, ix_1, XI, PI, PJ, BU, LV, LA_i, q_zz, q_za, q_zga, q_fza, q_fx, q_fga, q_gza, q_gfa, q_gx, q_zf1, q_zg1, q_ff, q_fg1, q_gf1, q_gg, ti_link, in1000]) (by (try clear hC hA hO hP hk tS0 iJ230 tS33 dS33 nS33 mS33 oS33 tf33 uS33 cS33 fi33 cc33 aS33 vS33 wS33 tS37 dS37 nS37 mS37 oS37 vS37); (try clear j425); (try clear j394); (try clear j230); (try clear hr_block); (try clear hf_block); grind -mbtc (splits := 20) (gen := 30) (ematch := 15) [SI, PT, WB_ad2, WB_nt, WB_on, WB_fi, WB_nf, LA_n, LA_p, OR1, B01, PTc_up, ix_int, ix_1, XI, PI, PJ, BU, LV, LA_i, q_zz, q_za, q_zga, q_fza, q_fx, q_fga, q_gza, q_gfa, q_gx, q_zf1, q_zg1, q_ff, q_fg1, q_gf1, q_gg, ti_link, in1000]))
        have tf37 : TF nx S x1 S37 := TF_np tf33 dS37
        exact j394 _ _ _ _ (⟨by (try clear hC hA hO hP hk tS0 iJ230 tS33 dS33 nS33 mS33 oS33 tf33 uS33 cS33 fi33 cc33 aS33 vS33 wS33 tS37 dS37 nS37 mS37 oS37 vS37 wS37 tf37); (try clear j425); (try clear j394); (try clear j230); (try clear hr_block); (try clear hf_block); grind -mbtc (splits := 20) (gen := 30) (ematch := 15) [SI, PT, WB_ad2, WB_nt, WB_on, WB_fi, WB_nf, LA_n, LA_p, OR1, B01, PTc_up, ix_int, ix_1, XI, PI, PJ, BU, LV, LA_i, q_zz, q_za, q_zga, q_fza, q_fx, q_fga, q_gza, q_gfa, q_gx, q_zf1, q_zg1, q_ff, q_fg1, q_gf1, q_gg, ti_link, in1000], by refine ⟨?_, ?_, ?_, ?_, ?_, ?_, ?_⟩ <;> ((try clear j425); (try clear j394); (try clear j230); (try clear hr_block); (try clear hf_block); grind (ematch := 12) (gen := 12) (splits := 15) [→ CF_nc, → CS_nc, → AF_na, → OH_no, → CS_step, → CS_CF, AF_nf, AQ_o, CS_nf, q_zz, q_za, q_zga, q_fza, q_fx, q_fga, q_gza, q_gfa, q_gx, q_zf1, q_zg1, q_ff, q_fg1, q_gf1, q_gg, AV_i, → CD_nc, CD_nf, ← CD_CS, → PD_np, → TM_nt, → TM_tr, ti_link])⟩)
    · refine ⟨by (try clear hC hA hO hP hk tS0 iJ230 tS33 dS33 nS33 mS33 oS33 tf33 uS33 cS33 fi33 cc33 aS33 vS33 wS33); (try clear j425); (try clear j394); (try clear j230); (try clear hr_block); (try clear hf_block); grind -mbtc (splits := 20) (gen := 30) (ematch := 15) [SI, PT, WB_ad2, WB_nt, WB_on, WB_fi, WB_nf, LA_n, LA_p, OR1, B01, PTc_up, ix_int, ix_1, XI, PI, PJ, BU, LV, LA_i, q_zz, q_za, q_zga, q_fza, q_fx, q_fga, q_gza, q_gfa, q_gx, q_zf1, q_zg1, q_ff, q_fg1, q_gf1, q_gg, ti_link, in1000], ?_⟩
      intro S38 eS38
      have dS38 : NP S33 S38 := NP_f eS38 (by decide)
      have mS38 : NA S33 S38 := NA_f eS38 (by decide)
      have oS38 : NO nx S33 S38 := NO_f eS38 (nH_t (by decide) (by (try clear hC hA hO hP hk tS0 iJ230 tS33 dS33 nS33 mS33 oS33 tf33 uS33 cS33 fi33 cc33 aS33 vS33 wS33 dS38 mS38); (try clear j425); (try clear j394); (try clear j230); (try clear hr_block); (try clear hf_block); grind -mbtc (splits := 20) (gen := 30) (ematch := 15) [SI, PT, WB_ad2, WB_nt, WB_on, WB_fi, WB_nf, LA_n, LA_p, OR1, B01, PTc_up, ix_int, ix_1, XI, PI, PJ, BU, LV, LA_i, q_zz, q_za, q_zga, q_fza, q_fx, q_fga, q_gza, q_gfa, q_gx, q_zf1, q_zg1, q_ff, q_fg1, q_gf1, q_gg, ti_link, in1000]))
      have aS38 : AF nx ((Sx.2.1 10) (ix (Sx.1 12))).toInt S38 := AF_na mS38 aS33
      have cS38 : CS nx ((ix x1, 2, (0 : Int32)) :: (ix x1, 3, (0 : Int32)) :: kL) (S33.1 9).toInt (S33.1 10).toInt x1 S38 := CS_lift (by rw [eS38]; rfl) (fun _ _ _ q => CW_w29 eS38 (Or.inl (List.mem_cons_self ..)) q) (CD_CS _ cS33)
      have uS38 : TM S S38 := TM_fi eS38 (Or.inr ⟨by decide, by (try clear hC hA hO hP hk tS0 iJ230 tS33 dS33 nS33 mS33 oS33 tf33 uS33 cS33 fi33 cc33 aS33 vS33 wS33 dS38 mS38 oS38 aS38 cS38); (try clear j425); (try clear j394); (try clear j230); (try clear hr_block); (try clear hf_block); grind -mbtc (splits := 20) (gen := 30) (ematch := 15) [SI, PT, WB_ad2, WB_nt, WB_on, WB_fi, WB_nf, LA_n, LA_p, OR1, B01, PTc_up, ix_int, ix_1, XI, PI, PJ, BU, LV, LA_i, q_zz, q_za, q_zga, q_fza, q_fx, q_fga, q_gza, q_gfa, q_gx, q_zf1, q_zg1, q_ff, q_fg1, q_gf1, q_gg, ti_link, in1000]⟩) uS33
      have tf38 : TF nx S x1 S38 := TF_np tf33 dS38
      have vS38 : x3.toInt = -1 ∨ AV nx S38 x3 := vS33.imp id (fun q => AV_m q (by (try clear hC hA hO hP hk tS0 iJ230 tS33 dS33 nS33 mS33 oS33 tf33 uS33 cS33 fi33 cc33 aS33 vS33 wS33 dS38 mS38 oS38 aS38 cS38 uS38 tf38); (try clear j425); (try clear j394); (try clear j230); (try clear hr_block); (try clear hf_block); grind -mbtc (splits := 20) (gen := 30) (ematch := 15) [SI, PT, WB_ad2, WB_nt, WB_on, WB_fi, WB_nf, LA_n, LA_p, OR1, B01, PTc_up, ix_int, ix_1, XI, PI, PJ, BU, LV, LA_i, q_zz, q_za, q_zga, q_fza, q_fx, q_fga, q_gza, q_gfa, q_gx, q_zf1, q_zg1, q_ff, q_fg1, q_gf1, q_gg, ti_link, in1000]) (by (try clear hC hA hO hP hk tS0 iJ230 tS33 dS33 nS33 mS33 oS33 tf33 uS33 cS33 fi33 cc33 aS33 vS33 wS33 dS38 mS38 oS38 aS38 cS38 uS38 tf38); (try clear j425); (try clear j394); (try clear j230); (try clear hr_block); (try clear hf_block); grind -mbtc (splits := 20) (gen := 30) (ematch := 15) [SI, PT, WB_ad2, WB_nt, WB_on, WB_fi, WB_nf, LA_n, LA_p, OR1, B01, PTc_up, ix_int, ix_1, XI, PI, PJ, BU, LV, LA_i, q_zz, q_za, q_zga, q_fza, q_fx, q_fga, q_gza, q_gfa, q_gx, q_zf1, q_zg1, q_ff, q_fg1, q_gf1, q_gg, ti_link, in1000]))
      intro S39 eS39
      have lS39 : ∀ m : Int, AV nx S38 x3 → AF nx m S38 → AF nx m S39 := fun m h8 h9 => AF_lv eS39 h8 h9
      have dS39 : NP S38 S39 := NP_z eS39 (by decide)
      have tS39 : NT S38 S39 := NT_z eS39 (by decide)
      have nS39 : NC S38 S39 := NC_z eS39 (by decide)
      have oS39 : NO nx S38 S39 := NO_z eS39
      have aS39 : AF nx ((Sx.2.1 10) (ix (Sx.1 12))).toInt S39 := AF_lx eS39 vS38 aS38
      refine ⟨by (try clear hC hA hO hP hk tS0 iJ230 tS33 dS33 nS33 mS33 oS33 tf33 uS33 cS33 fi33 cc33 aS33 vS33 wS33 dS38 mS38 oS38 aS38 cS38 uS38 tf38 vS38 lS39 dS39 tS39 nS39 oS39 aS39); (try clear j425); (try clear j394); (try clear j230); (try clear hr_block); (try clear hf_block); grind -mbtc (splits := 20) (gen := 30) (ematch := 15) [SI, PT, WB_ad2, WB_nt, WB_on, WB_fi, WB_nf, LA_n, LA_p, OR1, B01, PTc_up, ix_int, ix_1, XI, PI, PJ, BU, LV, LA_i, q_zz, q_za, q_zga, q_fza, q_fx, q_fga, q_gza, q_gfa, q_gx, q_zf1, q_zg1, q_ff, q_fg1, q_gf1, q_gg, ti_link, in1000], ?_⟩
      intro z40 ez40
      have vz40 : AV nx S39 z40 := by
            rw [ez40]
            exact AV_tf (w := x1) aS39 (by (try clear hC hA hO hP hk tS0 iJ230 tS33 dS33 nS33 mS33 oS33 tf33 uS33 cS33 fi33 cc33 aS33 vS33 wS33 dS38 mS38 oS38 aS38 cS38 uS38 tf38 vS38 lS39 dS39 tS39 nS39 oS39 aS39); (try clear j425); (try clear j394); (try clear j230); (try clear hr_block); (try clear hf_block); grind -mbtc (splits := 20) (gen := 30) (ematch := 15) [SI, PT, WB_ad2, WB_nt, WB_on, WB_fi, WB_nf, LA_n, LA_p, OR1, B01, PTc_up, ix_int, ix_1, XI, PI, PJ, BU, LV, LA_i, q_zz, q_za, q_zga, q_fza, q_fx, q_fga, q_gza, q_gfa, q_gx, q_zf1, q_zg1, q_ff, q_fg1, q_gf1, q_gg, ti_link, in1000]) (by (try clear hC hA hO hP hk tS0 iJ230 tS33 dS33 nS33 mS33 oS33 tf33 uS33 cS33 fi33 cc33 aS33 vS33 wS33 dS38 mS38 oS38 aS38 cS38 uS38 tf38 vS38 lS39 dS39 tS39 nS39 oS39 aS39); (try clear j425); (try clear j394); (try clear j230); (try clear hr_block); (try clear hf_block); grind -mbtc (splits := 20) (gen := 30) (ematch := 15) [SI, PT, WB_ad2, WB_nt, WB_on, WB_fi, WB_nf, LA_n, LA_p, OR1, B01, PTc_up, ix_int, ix_1, XI, PI, PJ, BU, LV, LA_i, q_zz, q_za, q_zga, q_fza, q_fx, q_fga, q_gza, q_gfa, q_gx, q_zf1, q_zg1, q_ff, q_fg1, q_gf1, q_gg, ti_link, in1000])
      refine fm_lead _ _ _ _ (fun S41 hF7 pS41 => ?_) (sgv_lead (nx := nx) _ (by (try clear hC hA hO hP hk tS0 iJ230 tS33 dS33 nS33 mS33 oS33 tf33 uS33 cS33 fi33 cc33 aS33 vS33 wS33 dS38 mS38 oS38 aS38 cS38 uS38 tf38 vS38 lS39 dS39 tS39 nS39 oS39 aS39 vz40); (try clear j425); (try clear j394); (try clear j230); (try clear hr_block); (try clear hf_block); grind -mbtc (splits := 20) (gen := 30) (ematch := 15) [SI, PT, WB_ad2, WB_nt, WB_on, WB_fi, WB_nf, LA_n, LA_p, OR1, B01, PTc_up, ix_int, ix_1, XI, PI, PJ, BU, LV, LA_i, q_zz, q_za, q_zga, q_fza, q_fx, q_fga, q_gza, q_gfa, q_gx, q_zf1, q_zg1, q_ff, q_fg1, q_gf1, q_gg, ti_link, in1000]))
      obtain ⟨pS41, qS41⟩ := pS41
      have tS41 : NT S39 S41 := NT_fr hF7 (by decide) (by decide)
      have fS41 : S41.1 4 = 0 → S39.1 4 = 0 := fun q => (hF7.1 4 (by decide)).symm.trans q
      have dS41 : NP S39 S41 := NP_fr hF7 (by decide) (by decide) fS41
      have nS41 : NC S39 S41 := NC_fr hF7 (by decide) (by decide) fS41
      have z3_S41 := hF7.1 3 (by decide)
      have z4_S41 := hF7.1 4 (by decide)
      have z6_S41 := hF7.1 6 (by decide)
      have z7_S41 := hF7.1 7 (by decide)
      have z8_S41 := hF7.1 8 (by decide)
      have z9_S41 := hF7.1 9 (by decide)
      have z10_S41 := hF7.1 10 (by decide)
      have z11_S41 := hF7.1 11 (by decide)
      have z12_S41 := hF7.1 12 (by decide)
      have z13_S41 := hF7.1 13 (by decide)
      have z15_S41 := hF7.1 15 (by decide)
      have z17_S41 := hF7.1 17 (by decide)
      have z18_S41 := hF7.1 18 (by decide)
      have z19_S41 := hF7.1 19 (by decide)
      have z20_S41 := hF7.1 20 (by decide)
      have z16_S41 := hF7.1 16 (by decide)
      have f1_S41 := hF7.2.1 1 (by decide)
      have f1a_S41 := Fr_fa hF7 1 (by decide)
      have f2_S41 := hF7.2.1 2 (by decide)
      have f2a_S41 := Fr_fa hF7 2 (by decide)
      have f8_S41 := hF7.2.1 8 (by decide)
      have f8a_S41 := Fr_fa hF7 8 (by decide)
      have f10_S41 := hF7.2.1 10 (by decide)
      have f10a_S41 := Fr_fa hF7 10 (by decide)
      have f25_S41 := hF7.2.1 25 (by decide)
      have f25a_S41 := Fr_fa hF7 25 (by decide)
      have f28_S41 := hF7.2.1 28 (by decide)
      have f28a_S41 := Fr_fa hF7 28 (by decide)
      have f35_S41 := hF7.2.1 35 (by decide)
      have f35a_S41 := Fr_fa hF7 35 (by decide)
      have f36_S41 := hF7.2.1 36 (by decide)
      have f36a_S41 := Fr_fa hF7 36 (by decide)
      have f45_S41 := hF7.2.1 45 (by decide)
      have f45a_S41 := Fr_fa hF7 45 (by decide)
      have f46_S41 := hF7.2.1 46 (by decide)
      have f46a_S41 := Fr_fa hF7 46 (by decide)
      have f48_S41 := hF7.2.1 48 (by decide)
      have f48a_S41 := Fr_fa hF7 48 (by decide)
      have f40_S41 := hF7.2.1 40 (by decide)
      have f40a_S41 := Fr_fa hF7 40 (by decide)
      have f41_S41 := hF7.2.1 41 (by decide)
      have f41a_S41 := Fr_fa hF7 41 (by decide)
      have f42_S41 := hF7.2.1 42 (by decide)
      have f42a_S41 := Fr_fa hF7 42 (by decide)
      have f44_S41 := hF7.2.1 44 (by decide)
      have f44a_S41 := Fr_fa hF7 44 (by decide)
      have f29_S41 := hF7.2.1 29 (by decide)
      have f29a_S41 := Fr_fa hF7 29 (by decide)
      have f27_S41 := hF7.2.1 27 (by decide)
      have f27a_S41 := Fr_fa hF7 27 (by decide)
      have f37_S41 := hF7.2.1 37 (by decide)
      have f37a_S41 := Fr_fa hF7 37 (by decide)
      have f38_S41 := hF7.2.1 38 (by decide)
      have f38a_S41 := Fr_fa hF7 38 (by decide)
      have g3_S41 := hF7.2.2 3 (by decide)
      have g3a_S41 := Fr_ga hF7 3 (by decide)
      have g4_S41 := hF7.2.2 4 (by decide)
      have g4a_S41 := Fr_ga hF7 4 (by decide)
      clear hF7
      have aS41 : AF nx ((Sx.2.1 10) (ix (Sx.1 12))).toInt S41 := qS41.2.1 _ aS39 vz40
      have wS41 : x4.toInt = -1 ∨ AV nx S41 x4 := wS33.imp id (fun q => AV_m q (by (try clear hC hA hO hP hk tS0 iJ230 tS33 dS33 nS33 mS33 oS33 tf33 uS33 cS33 fi33 cc33 aS33 vS33 wS33 dS38 mS38 oS38 aS38 cS38 uS38 tf38 vS38 lS39 dS39 tS39 nS39 oS39 aS39 vz40 qS41 tS41 dS41 nS41 aS41); (try clear j425); (try clear j394); (try clear j230); (try clear hr_block); (try clear hf_block); grind -mbtc (splits := 20) (gen := 30) (ematch := 15) [SI, PT, WB_ad2, WB_nt, WB_on, WB_fi, WB_nf, LA_n, LA_p, OR1, B01, PTc_up, ix_int, ix_1, XI, PI, PJ, BU, LV, LA_i, q_zz, q_za, q_zga, q_fza, q_fx, q_fga, q_gza, q_gfa, q_gx, q_zf1, q_zg1, q_ff, q_fg1, q_gf1, q_gg, ti_link, in1000]) (by (try clear hC hA hO hP hk tS0 iJ230 tS33 dS33 nS33 mS33 oS33 tf33 uS33 cS33 fi33 cc33 aS33 vS33 wS33 dS38 mS38 oS38 aS38 cS38 uS38 tf38 vS38 lS39 dS39 tS39 nS39 oS39 aS39 vz40 qS41 tS41 dS41 nS41 aS41); (try clear j425); (try clear j394); (try clear j230); (try clear hr_block); (try clear hf_block); grind -mbtc (splits := 20) (gen := 30) (ematch := 15) [SI, PT, WB_ad2, WB_nt, WB_on, WB_fi, WB_nf, LA_n, LA_p, OR1, B01, PTc_up, ix_int, ix_1, XI, PI, PJ, BU, LV, LA_i, q_zz, q_za, q_zga, q_fza, q_fx, q_fga, q_gza, q_gfa, q_gx, q_zf1, q_zg1, q_ff, q_fg1, q_gf1, q_gg, ti_link, in1000]))
      intro S42 eS42
      have lS42 : ∀ m : Int, AV nx S41 x4 → AF nx m S41 → AF nx m S42 := fun m h8 h9 => AF_lv eS42 h8 h9
      have dS42 : NP S41 S42 := NP_z eS42 (by decide)
      have tS42 : NT S41 S42 := NT_z eS42 (by decide)
      have nS42 : NC S41 S42 := NC_z eS42 (by decide)
      have oS42 : NO nx S41 S42 := NO_z eS42
      have aS42 : AF nx ((Sx.2.1 10) (ix (Sx.1 12))).toInt S42 := AF_lx eS42 wS41 aS41
      refine ⟨by (try clear hC hA hO hP hk tS0 iJ230 tS33 dS33 nS33 mS33 oS33 tf33 uS33 cS33 fi33 cc33 aS33 vS33 wS33 dS38 mS38 oS38 aS38 cS38 uS38 tf38 vS38 lS39 dS39 tS39 nS39 oS39 aS39 vz40 qS41 tS41 dS41 nS41 aS41 wS41 lS42 dS42 tS42 nS42 oS42 aS42); (try clear j425); (try clear j394); (try clear j230); (try clear hr_block); (try clear hf_block); grind -mbtc (splits := 20) (gen := 30) (ematch := 15) [SI, PT, WB_ad2, WB_nt, WB_on, WB_fi, WB_nf, LA_n, LA_p, OR1, B01, PTc_up, ix_int, ix_1, XI, PI, PJ, BU, LV, LA_i, q_zz, q_za, q_zga, q_fza, q_fx, q_fga, q_gza, q_gfa, q_gx, q_zf1, q_zg1, q_ff, q_fg1, q_gf1, q_gg, ti_link, in1000], ?_⟩
      intro z43 ez43
      have vz43 : AV nx S42 z43 := by
            rw [ez43]
            exact AV_tf (w := x1) aS42 (by (try clear hC hA hO hP hk tS0 iJ230 tS33 dS33 nS33 mS33 oS33 tf33 uS33 cS33 fi33 cc33 aS33 vS33 wS33 dS38 mS38 oS38 aS38 cS38 uS38 tf38 vS38 lS39 dS39 tS39 nS39 oS39 aS39 vz40 qS41 tS41 dS41 nS41 aS41 wS41 lS42 dS42 tS42 nS42 oS42 aS42); (try clear j425); (try clear j394); (try clear j230); (try clear hr_block); (try clear hf_block); grind -mbtc (splits := 20) (gen := 30) (ematch := 15) [SI, PT, WB_ad2, WB_nt, WB_on, WB_fi, WB_nf, LA_n, LA_p, OR1, B01, PTc_up, ix_int, ix_1, XI, PI, PJ, BU, LV, LA_i, q_zz, q_za, q_zga, q_fza, q_fx, q_fga, q_gza, q_gfa, q_gx, q_zf1, q_zg1, q_ff, q_fg1, q_gf1, q_gg, ti_link, in1000]) (by (try clear hC hA hO hP hk tS0 iJ230 tS33 dS33 nS33 mS33 oS33 tf33 uS33 cS33 fi33 cc33 aS33 vS33 wS33 dS38 mS38 oS38 aS38 cS38 uS38 tf38 vS38 lS39 dS39 tS39 nS39 oS39 aS39 vz40 qS41 tS41 dS41 nS41 aS41 wS41 lS42 dS42 tS42 nS42 oS42 aS42); (try clear j425); (try clear j394); (try clear j230); (try clear hr_block); (try clear hf_block); grind -mbtc (splits := 20) (gen := 30) (ematch := 15) [SI, PT, WB_ad2, WB_nt, WB_on, WB_fi, WB_nf, LA_n, LA_p, OR1, B01, PTc_up, ix_int, ix_1, XI, PI, PJ, BU, LV, LA_i, q_zz, q_za, q_zga, q_fza, q_fx, q_fga, q_gza, q_gfa, q_gx, q_zf1, q_zg1, q_ff, q_fg1, q_gf1, q_gg, ti_link, in1000])
      refine fm_lead _ _ _ _ (fun S44 hF8 pS44 => ?_) (sgv_lead (nx := nx) _ (by (try clear hC hA hO hP hk tS0 iJ230 tS33 dS33 nS33 mS33 oS33 tf33 uS33 cS33 fi33 cc33 aS33 vS33 wS33 dS38 mS38 oS38 aS38 cS38 uS38 tf38 vS38 lS39 dS39 tS39 nS39 oS39 aS39 vz40 qS41 tS41 dS41 nS41 aS41 wS41 lS42 dS42 tS42 nS42 oS42 aS42 vz43); (try clear j425); (try clear j394); (try clear j230); (try clear hr_block); (try clear hf_block); grind -mbtc (splits := 20) (gen := 30) (ematch := 15) [SI, PT, WB_ad2, WB_nt, WB_on, WB_fi, WB_nf, LA_n, LA_p, OR1, B01, PTc_up, ix_int, ix_1, XI, PI, PJ, BU, LV, LA_i, q_zz, q_za, q_zga, q_fza, q_fx, q_fga, q_gza, q_gfa, q_gx, q_zf1, q_zg1, q_ff, q_fg1, q_gf1, q_gg, ti_link, in1000]))
      obtain ⟨pS44, qS44⟩ := pS44
      have tS44 : NT S42 S44 := NT_fr hF8 (by decide) (by decide)
      have fS44 : S44.1 4 = 0 → S42.1 4 = 0 := fun q => (hF8.1 4 (by decide)).symm.trans q
      have dS44 : NP S42 S44 := NP_fr hF8 (by decide) (by decide) fS44
      have nS44 : NC S42 S44 := NC_fr hF8 (by decide) (by decide) fS44
      have z3_S44 := hF8.1 3 (by decide)
      have z4_S44 := hF8.1 4 (by decide)
      have z6_S44 := hF8.1 6 (by decide)
      have z7_S44 := hF8.1 7 (by decide)
      have z8_S44 := hF8.1 8 (by decide)
      have z9_S44 := hF8.1 9 (by decide)
      have z10_S44 := hF8.1 10 (by decide)
      have z11_S44 := hF8.1 11 (by decide)
      have z12_S44 := hF8.1 12 (by decide)
      have z13_S44 := hF8.1 13 (by decide)
      have z15_S44 := hF8.1 15 (by decide)
      have z17_S44 := hF8.1 17 (by decide)
      have z18_S44 := hF8.1 18 (by decide)
      have z19_S44 := hF8.1 19 (by decide)
      have z20_S44 := hF8.1 20 (by decide)
      have z16_S44 := hF8.1 16 (by decide)
      have f1_S44 := hF8.2.1 1 (by decide)
      have f1a_S44 := Fr_fa hF8 1 (by decide)
      have f2_S44 := hF8.2.1 2 (by decide)
      have f2a_S44 := Fr_fa hF8 2 (by decide)
      have f8_S44 := hF8.2.1 8 (by decide)
      have f8a_S44 := Fr_fa hF8 8 (by decide)
      have f10_S44 := hF8.2.1 10 (by decide)
      have f10a_S44 := Fr_fa hF8 10 (by decide)
      have f25_S44 := hF8.2.1 25 (by decide)
      have f25a_S44 := Fr_fa hF8 25 (by decide)
      have f28_S44 := hF8.2.1 28 (by decide)
      have f28a_S44 := Fr_fa hF8 28 (by decide)
      have f35_S44 := hF8.2.1 35 (by decide)
      have f35a_S44 := Fr_fa hF8 35 (by decide)
      have f36_S44 := hF8.2.1 36 (by decide)
      have f36a_S44 := Fr_fa hF8 36 (by decide)
      have f45_S44 := hF8.2.1 45 (by decide)
      have f45a_S44 := Fr_fa hF8 45 (by decide)
      have f46_S44 := hF8.2.1 46 (by decide)
      have f46a_S44 := Fr_fa hF8 46 (by decide)
      have f48_S44 := hF8.2.1 48 (by decide)
      have f48a_S44 := Fr_fa hF8 48 (by decide)
      have f40_S44 := hF8.2.1 40 (by decide)
      have f40a_S44 := Fr_fa hF8 40 (by decide)
      have f41_S44 := hF8.2.1 41 (by decide)
      have f41a_S44 := Fr_fa hF8 41 (by decide)
      have f42_S44 := hF8.2.1 42 (by decide)
      have f42a_S44 := Fr_fa hF8 42 (by decide)
      have f44_S44 := hF8.2.1 44 (by decide)
      have f44a_S44 := Fr_fa hF8 44 (by decide)
      have f29_S44 := hF8.2.1 29 (by decide)
      have f29a_S44 := Fr_fa hF8 29 (by decide)
      have f27_S44 := hF8.2.1 27 (by decide)
      have f27a_S44 := Fr_fa hF8 27 (by decide)
      have f37_S44 := hF8.2.1 37 (by decide)
      have f37a_S44 := Fr_fa hF8 37 (by decide)
      have f38_S44 := hF8.2.1 38 (by decide)
      have f38a_S44 := Fr_fa hF8 38 (by decide)
      have g3_S44 := hF8.2.2 3 (by decide)
      have g3a_S44 := Fr_ga hF8 3 (by decide)
      have g4_S44 := hF8.2.2 4 (by decide)
      have g4a_S44 := Fr_ga hF8 4 (by decide)
      clear hF8
      have aS44 : AF nx ((Sx.2.1 10) (ix (Sx.1 12))).toInt S44 := qS44.2.1 _ aS42 vz43
      refine ⟨by (try clear hC hA hO hP hk tS0 iJ230 tS33 dS33 nS33 mS33 oS33 tf33 uS33 cS33 fi33 cc33 aS33 vS33 wS33 dS38 mS38 oS38 aS38 cS38 uS38 tf38 vS38 lS39 dS39 tS39 nS39 oS39 aS39 vz40 qS41 tS41 dS41 nS41 aS41 wS41 lS42 dS42 tS42 nS42 oS42 aS42 vz43 qS44 tS44 dS44 nS44 aS44); (try clear j425); (try clear j394); (try clear j230); (try clear hr_block); (try clear hf_block); grind -mbtc (splits := 20) (gen := 30) (ematch := 15) [SI, PT, WB_ad2, WB_nt, WB_on, WB_fi, WB_nf, LA_n, LA_p, OR1, B01, PTc_up, ix_int, ix_1, XI, PI, PJ, BU, LV, LA_i, q_zz, q_za, q_zga, q_fza, q_fx, q_fga, q_gza, q_gfa, q_gx, q_zf1, q_zg1, q_ff, q_fg1, q_gf1, q_gg, ti_link, in1000], ?_⟩
      intro z45 ez45
      have  rz45 : 12000 * nx ≤ z45.toInt ∧ z45.toInt < 12000 * nx + 12000 := by
            rw [ez45]
            have q9 := PTc_in (x := x1) (w := (S44.1 9)) (tt := (S44.2.1 25)) (ba := (S44.2.1 36)) (fa := (S44.2.1 35)) (by (try clear hC hA hO hP hk tS0 iJ230 tS33 dS33 nS33 mS33 oS33 tf33 uS33 cS33 fi33 cc33 aS33 vS33 wS33 dS38 mS38 oS38 aS38 cS38 uS38 tf38 vS38 lS39 dS39 tS39 nS39 oS39 aS39 vz40 qS41 tS41 dS41 nS41 aS41 wS41 lS42 dS42 tS42 nS42 oS42 aS42 vz43 qS44 tS44 dS44 nS44 aS44); (try clear j425); (try clear j394); (try clear j230); (try clear hr_block); (try clear hf_block); grind -mbtc (splits := 20) (gen := 30) (ematch := 15) [SI, PT, WB_ad2, WB_nt, WB_on, WB_fi, WB_nf, LA_n, LA_p, OR1, B01, PTc_up, ix_int, ix_1, XI, PI, PJ, BU, LV, LA_i, q_zz, q_za, q_zga, q_fza, q_fx, q_fga, q_gza, q_gfa, q_gx, q_zf1, q_zg1, q_ff, q_fg1, q_gf1, q_gg, ti_link, in1000]) (by (try clear hC hA hO hP hk tS0 iJ230 tS33 dS33 nS33 mS33 oS33 tf33 uS33 cS33 fi33 cc33 aS33 vS33 wS33 dS38 mS38 oS38 aS38 cS38 uS38 tf38 vS38 lS39 dS39 tS39 nS39 oS39 aS39 vz40 qS41 tS41 dS41 nS41 aS41 wS41 lS42 dS42 tS42 nS42 oS42 aS42 vz43 qS44 tS44 dS44 nS44 aS44); (try clear j425); (try clear j394); (try clear j230); (try clear hr_block); (try clear hf_block); grind -mbtc (splits := 20) (gen := 30) (ematch := 15) [SI, PT, WB_ad2, WB_nt, WB_on, WB_fi, WB_nf, LA_n, LA_p, OR1, B01, PTc_up, ix_int, ix_1, XI, PI, PJ, BU, LV, LA_i, q_zz, q_za, q_zga, q_fza, q_fx, q_fga, q_gza, q_gfa, q_gx, q_zf1, q_zg1, q_ff, q_fg1, q_gf1, q_gg, ti_link, in1000]) (by (try clear hC hA hO hP hk tS0 iJ230 tS33 dS33 nS33 mS33 oS33 tf33 uS33 cS33 fi33 cc33 aS33 vS33 wS33 dS38 mS38 oS38 aS38 cS38 uS38 tf38 vS38 lS39 dS39 tS39 nS39 oS39 aS39 vz40 qS41 tS41 dS41 nS41 aS41 wS41 lS42 dS42 tS42 nS42 oS42 aS42 vz43 qS44 tS44 dS44 nS44 aS44); (try clear j425); (try clear j394); (try clear j230); (try clear hr_block); (try clear hf_block); grind -mbtc (splits := 20) (gen := 30) (ematch := 15) [SI, PT, WB_ad2, WB_nt, WB_on, WB_fi, WB_nf, LA_n, LA_p, OR1, B01, PTc_up, ix_int, ix_1, XI, PI, PJ, BU, LV, LA_i, q_zz, q_za, q_zga, q_fza, q_fx, q_fga, q_gza, q_gfa, q_gx, q_zf1, q_zg1, q_ff, q_fg1, q_gf1, q_gg, ti_link, in1000])
            exact ⟨q9.2.2.1, q9.2.2.2⟩
      have vz45 : AV nx S44 z45 := by
            rw [ez45]
            exact AV_tf (w := x1) aS44 (by (try clear hC hA hO hP hk tS0 iJ230 tS33 dS33 nS33 mS33 oS33 tf33 uS33 cS33 fi33 cc33 aS33 vS33 wS33 dS38 mS38 oS38 aS38 cS38 uS38 tf38 vS38 lS39 dS39 tS39 nS39 oS39 aS39 vz40 qS41 tS41 dS41 nS41 aS41 wS41 lS42 dS42 tS42 nS42 oS42 aS42 vz43 qS44 tS44 dS44 nS44 aS44); (try clear j425); (try clear j394); (try clear j230); (try clear hr_block); (try clear hf_block); grind -mbtc (splits := 20) (gen := 30) (ematch := 15) [SI, PT, WB_ad2, WB_nt, WB_on, WB_fi, WB_nf, LA_n, LA_p, OR1, B01, PTc_up, ix_int, ix_1, XI, PI, PJ, BU, LV, LA_i, q_zz, q_za, q_zga, q_fza, q_fx, q_fga, q_gza, q_gfa, q_gx, q_zf1, q_zg1, q_ff, q_fg1, q_gf1, q_gg, ti_link, in1000]) (by (try clear hC hA hO hP hk tS0 iJ230 tS33 dS33 nS33 mS33 oS33 tf33 uS33 cS33 fi33 cc33 aS33 vS33 wS33 dS38 mS38 oS38 aS38 cS38 uS38 tf38 vS38 lS39 dS39 tS39 nS39 oS39 aS39 vz40 qS41 tS41 dS41 nS41 aS41 wS41 lS42 dS42 tS42 nS42 oS42 aS42 vz43 qS44 tS44 dS44 nS44 aS44); (try clear j425); (try clear j394); (try clear j230); (try clear hr_block); (try clear hf_block); grind -mbtc (splits := 20) (gen := 30) (ematch := 15) [SI, PT, WB_ad2, WB_nt, WB_on, WB_fi, WB_nf, LA_n, LA_p, OR1, B01, PTc_up, ix_int, ix_1, XI, PI, PJ, BU, LV, LA_i, q_zz, q_za, q_zga, q_fza, q_fx, q_fga, q_gza, q_gfa, q_gx, q_zf1, q_zg1, q_ff, q_fg1, q_gf1, q_gg, ti_link, in1000])
      intro S46 eS46
      have lS46 : ∀ m : Int, AV nx S44 z45 → AF nx m S44 → AF nx m S46 := fun m h8 h9 => AF_lv eS46 h8 h9
      have dS46 : NP S44 S46 := NP_z eS46 (by decide)
      have tS46 : NT S44 S46 := NT_z eS46 (by decide)
      have nS46 : NC S44 S46 := NC_z eS46 (by decide)
      have oS46 : NO nx S44 S46 := NO_z eS46
      have aS46 : AF nx ((Sx.2.1 10) (ix (Sx.1 12))).toInt S46 := AF_lv eS46 vz45 aS44
      have cS46 : CS nx ((ix x1, 2, (0 : Int32)) :: (ix x1, 3, (0 : Int32)) :: kL) (S33.1 9).toInt (S33.1 10).toInt x1 S46 := by (try clear j425); (try clear j394); (try clear j230); (try clear hr_block); (try clear hf_block); grind (ematch := 12) (gen := 12) (splits := 15) [→ CF_nc, → CS_nc, → AF_na, → OH_no, → CS_step, → CS_CF, AF_nf, AQ_o, CS_nf, q_zz, q_za, q_zga, q_fza, q_fx, q_fga, q_gza, q_gfa, q_gx, q_zf1, q_zg1, q_ff, q_fg1, q_gf1, q_gg, AV_i, → CD_nc, CD_nf, ← CD_CS, → PD_np, → TM_nt, → TM_tr, ti_link]
      refine ⟨by (try clear hC hA hO hP hk tS0 iJ230 tS33 dS33 nS33 mS33 oS33 tf33 uS33 cS33 fi33 cc33 aS33 vS33 wS33 dS38 mS38 oS38 aS38 cS38 uS38 tf38 vS38 lS39 dS39 tS39 nS39 oS39 aS39 vz40 qS41 tS41 dS41 nS41 aS41 wS41 lS42 dS42 tS42 nS42 oS42 aS42 vz43 qS44 tS44 dS44 nS44 aS44 vz45 lS46 dS46 tS46 nS46 oS46 aS46 cS46); (try clear j425); (try clear j394); (try clear j230); (try clear hr_block); (try clear hf_block); grind -mbtc (splits := 20) (gen := 30) (ematch := 15) [SI, PT, WB_ad2, WB_nt, WB_on, WB_fi, WB_nf, LA_n, LA_p, OR1, B01, PTc_up, ix_int, ix_1, XI, PI, PJ, BU, LV, LA_i, q_zz, q_za, q_zga, q_fza, q_fx, q_fga, q_gza, q_gfa, q_gx, q_zf1, q_zg1, q_ff, q_fg1, q_gf1, q_gg, ti_link, in1000], ?_⟩
      intro S47 eS47
      have dS47 : NP S46 S47 := NP_f eS47 (by decide)
      have tS47 : NT S46 S47 := NT_f eS47 (by decide)
      have mS47 : NA S46 S47 := NA_f eS47 (by decide)
      have oS47 : NO nx S46 S47 := NO_f eS47 (nH_t (by decide) (by (try clear hC hA hO hP hk tS0 iJ230 tS33 dS33 nS33 mS33 oS33 tf33 uS33 cS33 fi33 cc33 aS33 vS33 wS33 dS38 mS38 oS38 aS38 cS38 uS38 tf38 vS38 lS39 dS39 tS39 nS39 oS39 aS39 vz40 qS41 tS41 dS41 nS41 aS41 wS41 lS42 dS42 tS42 nS42 oS42 aS42 vz43 qS44 tS44 dS44 nS44 aS44 vz45 lS46 dS46 tS46 nS46 oS46 aS46 cS46 dS47 tS47 mS47); (try clear j425); (try clear j394); (try clear j230); (try clear hr_block); (try clear hf_block); grind -mbtc (splits := 20) (gen := 30) (ematch := 15) [SI, PT, WB_ad2, WB_nt, WB_on, WB_fi, WB_nf, LA_n, LA_p, OR1, B01, PTc_up, ix_int, ix_1, XI, PI, PJ, BU, LV, LA_i, q_zz, q_za, q_zga, q_fza, q_fx, q_fga, q_gza, q_gfa, q_gx, q_zf1, q_zg1, q_ff, q_fg1, q_gf1, q_gg, ti_link, in1000]))
      have cs47 : CS nx ((ix x1, 2, (0 : Int32)) :: (ix x1, 3, (0 : Int32)) :: kL) (S33.1 9).toInt (S33.1 10).toInt x1 S47 := CS_lift (by rw [eS47]; rfl) (fun _ _ _ q => CW_w32 eS47 (Or.inl (List.mem_cons_self ..)) q) cS46
      have cS47 : CS nx ((ix x1, 3, (0 : Int32)) :: kL) (S33.1 9).toInt (S33.1 10).toInt x1 S47 := CS_fcl (by (try clear hC hA hO hP hk tS0 iJ230 tS33 dS33 nS33 mS33 oS33 tf33 uS33 cS33 fi33 cc33 aS33 vS33 wS33 dS38 mS38 oS38 aS38 cS38 uS38 tf38 vS38 lS39 dS39 tS39 nS39 oS39 aS39 vz40 qS41 tS41 dS41 nS41 aS41 wS41 lS42 dS42 tS42 nS42 oS42 aS42 vz43 qS44 tS44 dS44 nS44 aS44 vz45 lS46 dS46 tS46 nS46 oS46 aS46 cS46 dS47 tS47 mS47 oS47 cs47); (try clear j425); (try clear j394); (try clear j230); (try clear hr_block); (try clear hf_block); grind -mbtc (splits := 20) (gen := 30) (ematch := 15) [SI, PT, WB_ad2, WB_nt, WB_on, WB_fi, WB_nf, LA_n, LA_p, OR1, B01, PTc_up, ix_int, ix_1, XI, PI, PJ, BU, LV, LA_i, q_zz, q_za, q_zga, q_fza, q_fx, q_fga, q_gza, q_gfa, q_gx, q_zf1, q_zg1, q_ff, q_fg1, q_gf1, q_gg, ti_link, in1000]) (by (try clear hC hA hO hP hk tS0 iJ230 tS33 dS33 nS33 mS33 oS33 tf33 uS33 cS33 fi33 cc33 aS33 vS33 wS33 dS38 mS38 oS38 aS38 cS38 uS38 tf38 vS38 lS39 dS39 tS39 nS39 oS39 aS39 vz40 qS41 tS41 dS41 nS41 aS41 wS41 lS42 dS42 tS42 nS42 oS42 aS42 vz43 qS44 tS44 dS44 nS44 aS44 vz45 lS46 dS46 tS46 nS46 oS46 aS46 cS46 dS47 tS47 mS47 oS47 cs47); (try clear j425); (try clear j394); (try clear j230); (try clear hr_block); (try clear hf_block); grind -mbtc (splits := 20) (gen := 30) (ematch := 15) [SI, PT, WB_ad2, WB_nt, WB_on, WB_fi, WB_nf, LA_n, LA_p, OR1, B01, PTc_up, ix_int, ix_1, XI, PI, PJ, BU, LV, LA_i, q_zz, q_za, q_zga, q_fza, q_fx, q_fga, q_gza, q_gfa, q_gx, q_zf1, q_zg1, q_ff, q_fg1, q_gf1, q_gg, ti_link, in1000]) (by
            rw [eS47]
            show upd _ _ _ _ = _
            unfold upd
            rw [if_pos rfl]
            rfl) cs47
      intro S48 eS48
      have dS48 : NP S47 S48 := NP_z eS48 (by decide)
      have tS48 : NT S47 S48 := NT_z eS48 (by decide)
      have nS48 : NC S47 S48 := NC_z eS48 (by decide)
      have mS48 : NA S47 S48 := NA_z eS48 (by decide)
      have oS48 : NO nx S47 S48 := NO_z eS48
      intro S49 eS49
      have dS49 : NP S48 S49 := NP_z eS49 (by decide)
      have tS49 : NT S48 S49 := NT_z eS49 (by decide)
      have nS49 : NC S48 S49 := NC_z eS49 (by decide)
      have mS49 : NA S48 S49 := NA_z eS49 (by decide)
      have oS49 : NO nx S48 S49 := NO_z eS49
      have aS49 : AF nx ((Sx.2.1 10) (ix (Sx.1 12))).toInt S49 := by (try clear j425); (try clear j394); (try clear j230); (try clear hr_block); (try clear hf_block); grind (ematch := 12) (gen := 12) (splits := 15) [→ CF_nc, → CS_nc, → AF_na, → OH_no, → CS_step, → CS_CF, AF_nf, AQ_o, CS_nf, q_zz, q_za, q_zga, q_fza, q_fx, q_fga, q_gza, q_gfa, q_gx, q_zf1, q_zg1, q_ff, q_fg1, q_gf1, q_gg, AV_i, → CD_nc, CD_nf, ← CD_CS, → PD_np, → TM_nt, → TM_tr, ti_link]
      have uS49 : TM S S49 := by (try clear j425); (try clear j394); (try clear j230); (try clear hr_block); (try clear hf_block); grind (ematch := 12) (gen := 12) (splits := 15) [→ CF_nc, → CS_nc, → AF_na, → OH_no, → CS_step, → CS_CF, AF_nf, AQ_o, CS_nf, q_zz, q_za, q_zga, q_fza, q_fx, q_fga, q_gza, q_gfa, q_gx, q_zf1, q_zg1, q_ff, q_fg1, q_gf1, q_gg, AV_i, → CD_nc, CD_nf, ← CD_CS, → PD_np, → TM_nt, → TM_tr, ti_link]
      have tf49 : TF nx S x1 S49 := TF_np (TF_np (TF_np (TF_np (TF_np (TF_np (TF_np (TF_np tf38 dS39) dS41) dS42) dS44) dS46) dS47) dS48) dS49
      have cS49 : CS nx ((ix x1, 3, (0 : Int32)) :: kL) (S49.1 9).toInt (S49.1 10).toInt x1 S49 := by (try clear j425); (try clear j394); (try clear j230); (try clear hr_block); (try clear hf_block); grind (ematch := 12) (gen := 12) (splits := 15) [→ CF_nc, → CS_nc, → AF_na, → OH_no, → CS_step, → CS_CF, AF_nf, AQ_o, CS_nf, q_zz, q_za, q_zga, q_fza, q_fx, q_fga, q_gza, q_gfa, q_gx, q_zf1, q_zg1, q_ff, q_fg1, q_gf1, q_gg, AV_i, → CD_nc, CD_nf, ← CD_CS, → PD_np, → TM_nt, → TM_tr, ti_link]
      have pin49 : PD nx (kd + 1) (sZ (sZ S49 13 x1) 14 2) := PD_in hA hf hP tf49 (by (try clear hC hA hO hP hk tS0 iJ230 tS33 dS33 nS33 mS33 oS33 tf33 uS33 cS33 fi33 cc33 aS33 vS33 wS33 dS38 mS38 oS38 aS38 cS38 uS38 tf38 vS38 lS39 dS39 tS39 nS39 oS39 aS39 vz40 qS41 tS41 dS41 nS41 aS41 wS41 lS42 dS42 tS42 nS42 oS42 aS42 vz43 qS44 tS44 dS44 nS44 aS44 vz45 lS46 dS46 tS46 nS46 oS46 aS46 cS46 dS47 tS47 mS47 oS47 cs47 cS47 dS48 tS48 nS48 mS48 oS48 dS49 tS49 nS49 mS49 oS49 aS49 uS49 tf49 cS49); (try clear j425); (try clear j394); (try clear j230); (try clear hr_block); (try clear hf_block); grind -mbtc (splits := 20) (gen := 30) (ematch := 15) [SI, PT, WB_ad2, WB_nt, WB_on, WB_fi, WB_nf, LA_n, LA_p, OR1, B01, PTc_up, ix_int, ix_1, XI, PI, PJ, BU, LV, LA_i, q_zz, q_za, q_zga, q_fza, q_fx, q_fga, q_gza, q_gfa, q_gx, q_zf1, q_zg1, q_ff, q_fg1, q_gf1, q_gg, ti_link, in1000]) (by (try clear hC hA hO hP hk tS0 iJ230 tS33 dS33 nS33 mS33 oS33 tf33 uS33 cS33 fi33 cc33 aS33 vS33 wS33 dS38 mS38 oS38 aS38 cS38 uS38 tf38 vS38 lS39 dS39 tS39 nS39 oS39 aS39 vz40 qS41 tS41 dS41 nS41 aS41 wS41 lS42 dS42 tS42 nS42 oS42 aS42 vz43 qS44 tS44 dS44 nS44 aS44 vz45 lS46 dS46 tS46 nS46 oS46 aS46 cS46 dS47 tS47 mS47 oS47 cs47 cS47 dS48 tS48 nS48 mS48 oS48 dS49 tS49 nS49 mS49 oS49 aS49 uS49 tf49 cS49); (try clear j425); (try clear j394); (try clear j230); (try clear hr_block); (try clear hf_block); grind -mbtc (splits := 20) (gen := 30) (ematch := 15) [SI, PT, WB_ad2, WB_nt, WB_on, WB_fi, WB_nf, LA_n, LA_p, OR1, B01, PTc_up, ix_int, ix_1, XI, PI, PJ, BU, LV, LA_i, q_zz, q_za, q_zga, q_fza, q_fx, q_fga, q_gza, q_gfa, q_gx, q_zf1, q_zg1, q_ff, q_fg1, q_gf1, q_gg, ti_link, in1000])
      have oS49_ : OH nx S0 S49 := by (try clear j425); (try clear j394); (try clear j230); (try clear hr_block); (try clear hf_block); grind (ematch := 12) (gen := 12) (splits := 15) [→ CF_nc, → CS_nc, → AF_na, → OH_no, → CS_step, → CS_CF, AF_nf, AQ_o, CS_nf, q_zz, q_za, q_zga, q_fza, q_fx, q_fga, q_gza, q_gfa, q_gx, q_zf1, q_zg1, q_ff, q_fg1, q_gf1, q_gg, AV_i, → CD_nc, CD_nf, ← CD_CS, → PD_np, → TM_nt, → TM_tr, ti_link]
      have hs49 : SI nx n so pl wo ws S0 d (G - 6) (GA - 2) (X + 6) (Y + 4) GW (GT + 1) S49 ∧ ((S49.1 4) = 0 → (S.1 3).toInt < (S49.1 3).toInt) ∧ (S.1 8).toInt ≤ (S49.1 8).toInt ∧ (S.1 10).toInt ≤ (S49.1 10).toInt ∧ x1.toInt < (S49.1 9).toInt ∧ 500 * nx ≤ x1.toInt ∧ (S49.1 13) = (S.1 13) ∧ (S49.1 15) = (S.1 15) ∧ (S49.1 16) = (S.1 16) + 1 ∧ (S49.2.1 10) (ix (S49.1 12)) = (Sx.2.1 10) (ix (Sx.1 12)) ∧ x1 = (S.1 9) ∧ B01 (S47.1 17) ∧ B01 (S47.1 20) := by (try clear hC hA hO hP hk tS0 iJ230 tS33 dS33 nS33 mS33 oS33 tf33 uS33 cS33 fi33 cc33 aS33 vS33 wS33 dS38 mS38 oS38 aS38 cS38 uS38 tf38 vS38 lS39 dS39 tS39 nS39 oS39 aS39 vz40 qS41 tS41 dS41 nS41 aS41 wS41 lS42 dS42 tS42 nS42 oS42 aS42 vz43 qS44 tS44 dS44 nS44 aS44 vz45 lS46 dS46 tS46 nS46 oS46 aS46 cS46 dS47 tS47 mS47 oS47 cs47 cS47 dS48 tS48 nS48 mS48 oS48 dS49 tS49 nS49 mS49 oS49 aS49 uS49 tf49 cS49 pin49 oS49_); (try clear j425); (try clear j394); (try clear j230); (try clear hr_block); (try clear hf_block); grind -mbtc (splits := 20) (gen := 30) (ematch := 15) [SI, PT, WB_ad2, WB_nt, WB_on, WB_fi, WB_nf, LA_n, LA_p, OR1, B01, PTc_up, ix_int, ix_1, XI, PI, PJ, BU, LV, LA_i, q_zz, q_za, q_zga, q_fza, q_fx, q_fga, q_gza, q_gfa, q_gx, q_zf1, q_zg1, q_ff, q_fg1, q_gf1, q_gg, ti_link, in1000]
      (try clear eS49); (try clear eS48); (try clear eS47); (try clear eS46); (try clear ez45); (try clear fS44); (try clear ez43); (try clear eS42); (try clear fS41); (try clear ez40); (try clear eS39); (try clear eS38); (try clear fS33); (try clear oS49); (try clear mS49); (try clear nS49); (try clear tS49); (try clear dS49); (try clear oS48); (try clear mS48); (try clear nS48); (try clear tS48); (try clear dS48); (try clear cS47); (try clear cs47); (try clear oS47); (try clear mS47); (try clear tS47); (try clear dS47); (try clear cS46); (try clear aS46); (try clear oS46); (try clear nS46); (try clear tS46); (try clear dS46); (try clear lS46); (try clear vz45); (try clear aS44); (try clear nS44); (try clear dS44); (try clear tS44); (try clear qS44); (try clear vz43); (try clear aS42); (try clear oS42); (try clear nS42); (try clear tS42); (try clear dS42); (try clear lS42); (try clear wS41); (try clear aS41); (try clear nS41); (try clear dS41); (try clear tS41); (try clear qS41); (try clear vz40); (try clear aS39); (try clear oS39); (try clear nS39); (try clear tS39); (try clear dS39); (try clear lS39); (try clear vS38); (try clear tf38); (try clear uS38); (try clear cS38); (try clear aS38); (try clear oS38); (try clear mS38); (try clear dS38); (try clear wS33); (try clear vS33); (try clear aS33); (try clear cc33); (try clear fi33); (try clear cS33); (try clear uS33); (try clear tf33); (try clear oS33); (try clear mS33); (try clear nS33); (try clear dS33); (try clear tS33); (try clear iJ230); (try clear g4a_S44); (try clear g4_S44); (try clear g3a_S44); (try clear g3_S44); (try clear f38a_S44); (try clear f38_S44); (try clear f37a_S44); (try clear f37_S44); (try clear f27a_S44); (try clear f27_S44); (try clear f29a_S44); (try clear f29_S44); (try clear f44a_S44); (try clear f44_S44); (try clear f42a_S44); (try clear f42_S44); (try clear f41a_S44); (try clear f41_S44); (try clear f40a_S44); (try clear f40_S44); (try clear f48a_S44); (try clear f48_S44); (try clear f46a_S44); (try clear f46_S44); (try clear f45a_S44); (try clear f45_S44); (try clear f36a_S44); (try clear f36_S44); (try clear f35a_S44); (try clear f35_S44); (try clear f28a_S44); (try clear f28_S44); (try clear f25a_S44); (try clear f25_S44); (try clear f10a_S44); (try clear f10_S44); (try clear f8a_S44); (try clear f8_S44); (try clear f2a_S44); (try clear f2_S44); (try clear f1a_S44); (try clear f1_S44); (try clear z16_S44); (try clear z20_S44); (try clear z19_S44); (try clear z18_S44); (try clear z17_S44); (try clear z15_S44); (try clear z13_S44); (try clear z12_S44); (try clear z11_S44); (try clear z10_S44); (try clear z9_S44); (try clear z8_S44); (try clear z7_S44); (try clear z6_S44); (try clear z4_S44); (try clear z3_S44); (try clear pS44); (try clear g4a_S41); (try clear g4_S41); (try clear g3a_S41); (try clear g3_S41); (try clear f38a_S41); (try clear f38_S41); (try clear f37a_S41); (try clear f37_S41); (try clear f27a_S41); (try clear f27_S41); (try clear f29a_S41); (try clear f29_S41); (try clear f44a_S41); (try clear f44_S41); (try clear f42a_S41); (try clear f42_S41); (try clear f41a_S41); (try clear f41_S41); (try clear f40a_S41); (try clear f40_S41); (try clear f48a_S41); (try clear f48_S41); (try clear f46a_S41); (try clear f46_S41); (try clear f45a_S41); (try clear f45_S41); (try clear f36a_S41); (try clear f36_S41); (try clear f35a_S41); (try clear f35_S41); (try clear f28a_S41); (try clear f28_S41); (try clear f25a_S41); (try clear f25_S41); (try clear f10a_S41); (try clear f10_S41); (try clear f8a_S41); (try clear f8_S41); (try clear f2a_S41); (try clear f2_S41); (try clear f1a_S41); (try clear f1_S41); (try clear z16_S41); (try clear z20_S41); (try clear z19_S41); (try clear z18_S41); (try clear z17_S41); (try clear z15_S41); (try clear z13_S41); (try clear z12_S41); (try clear z11_S41); (try clear z10_S41); (try clear z9_S41); (try clear z8_S41); (try clear z7_S41); (try clear z6_S41); (try clear z4_S41); (try clear z3_S41); (try clear pS41); (try clear g4a_S33); (try clear g4_S33); (try clear g3a_S33); (try clear g3_S33); (try clear f38a_S33); (try clear f38_S33); (try clear f37a_S33); (try clear f37_S33); (try clear f27a_S33); (try clear f27_S33); (try clear f29a_S33); (try clear f29_S33); (try clear f44a_S33); (try clear f44_S33); (try clear f42a_S33); (try clear f42_S33); (try clear f41a_S33); (try clear f41_S33); (try clear f40a_S33); (try clear f40_S33); (try clear f48a_S33); (try clear f48_S33); (try clear f46a_S33); (try clear f46_S33); (try clear f45a_S33); (try clear f45_S33); (try clear f36a_S33); (try clear f36_S33); (try clear f35a_S33); (try clear f35_S33); (try clear f28a_S33); (try clear f28_S33); (try clear f25a_S33); (try clear f25_S33); (try clear f10a_S33); (try clear f10_S33); (try clear f8a_S33); (try clear f8_S33); (try clear f2a_S33); (try clear f2_S33); (try clear f1a_S33); (try clear f1_S33); (try clear z16_S33); (try clear z20_S33); (try clear z19_S33); (try clear z18_S33); (try clear z17_S33); (try clear z15_S33); (try clear z13_S33); (try clear z12_S33); (try clear z11_S33); (try clear z10_S33); (try clear z9_S33); (try clear z8_S33); (try clear z7_S33); (try clear z6_S33); (try clear z4_S33); (try clear pS33); (try clear hJ230)
      refine fm_inBlock hf_block _ _ _ _ _ (fun S50 hF9 pS50 => ?_) (sg_inBlock hf_block hr_block (nx := nx) (n := n) (so := so) (pl := pl) (wo := wo) (ws := ws) (S0 := S0) (d := d) (G := (G - 6)) (GA := (GA - 2)) (X := (X + 6)) (Y := (Y + 4)) (GW := GW) (GT := (GT + 1)) (D := D) (kL := ((ix x1, 3, (0 : Int32)) :: kL)) (kd := (kd + 1)) _ _ (by (try clear hC hA hO hP hk tS0 aS49 uS49 tf49 cS49 pin49 oS49_ h); (try clear j425); (try clear j394); (try clear j230); (try clear hr_block); (try clear hf_block); grind -mbtc (splits := 20) (gen := 30) (ematch := 15) [SI, PT, WB_ad2, WB_nt, WB_on, WB_fi, WB_nf, LA_n, LA_p, OR1, B01, PTc_up, ix_int, ix_1, XI, PI, PJ, BU, LV, LA_i, q_zz, q_za, q_zga, q_fza, q_fx, q_fga, q_gza, q_gfa, q_gx, q_zf1, q_zg1, q_ff, q_fg1, q_gf1, q_gg, ti_link, in1000]) (by (try clear hC hA hO hP hk tS0 aS49 uS49 tf49 cS49 pin49 oS49_ h); (try clear j425); (try clear j394); (try clear j230); (try clear hr_block); (try clear hf_block); grind -mbtc (splits := 20) (gen := 30) (ematch := 15) [SI, PT, WB_ad2, WB_nt, WB_on, WB_fi, WB_nf, LA_n, LA_p, OR1, B01, PTc_up, ix_int, ix_1, XI, PI, PJ, BU, LV, LA_i, q_zz, q_za, q_zga, q_fza, q_fx, q_fga, q_gza, q_gfa, q_gx, q_zf1, q_zg1, q_ff, q_fg1, q_gf1, q_gg, ti_link, in1000]) (by (try clear hC hA hO hP hk tS0 aS49 uS49 tf49 cS49 pin49 oS49_ h); (try clear j425); (try clear j394); (try clear j230); (try clear hr_block); (try clear hf_block); grind -mbtc (splits := 20) (gen := 30) (ematch := 15) [SI, PT, WB_ad2, WB_nt, WB_on, WB_fi, WB_nf, LA_n, LA_p, OR1, B01, PTc_up, ix_int, ix_1, XI, PI, PJ, BU, LV, LA_i, q_zz, q_za, q_zga, q_fza, q_fx, q_fga, q_gza, q_gfa, q_gx, q_zf1, q_zg1, q_ff, q_fg1, q_gf1, q_gg, ti_link, in1000]) (by (try clear hC hA hO hP hk tS0 aS49 uS49 tf49 cS49 pin49 oS49_ h); (try clear j425); (try clear j394); (try clear j230); (try clear hr_block); (try clear hf_block); grind -mbtc (splits := 20) (gen := 30) (ematch := 15) [SI, PT, WB_ad2, WB_nt, WB_on, WB_fi, WB_nf, LA_n, LA_p, OR1, B01, PTc_up, ix_int, ix_1, XI, PI, PJ, BU, LV, LA_i, q_zz, q_za, q_zga, q_fza, q_fx, q_fga, q_gza, q_gfa, q_gx, q_zf1, q_zg1, q_ff, q_fg1, q_gf1, q_gg, ti_link, in1000]) (by (try clear hC hA hO hP hk tS0 aS49 uS49 tf49 cS49 pin49 oS49_ h); (try clear j425); (try clear j394); (try clear j230); (try clear hr_block); (try clear hf_block); grind -mbtc (splits := 20) (gen := 30) (ematch := 15) [SI, PT, WB_ad2, WB_nt, WB_on, WB_fi, WB_nf, LA_n, LA_p, OR1, B01, PTc_up, ix_int, ix_1, XI, PI, PJ, BU, LV, LA_i, q_zz, q_za, q_zga, q_fza, q_fx, q_fga, q_gza, q_gfa, q_gx, q_zf1, q_zg1, q_ff, q_fg1, q_gf1, q_gg, ti_link, in1000]) (by (try clear hC hA hO hP hk tS0 aS49 uS49 tf49 cS49 pin49 oS49_ h); (try clear j425); (try clear j394); (try clear j230); (try clear hr_block); (try clear hf_block); grind -mbtc (splits := 20) (gen := 30) (ematch := 15) [SI, PT, WB_ad2, WB_nt, WB_on, WB_fi, WB_nf, LA_n, LA_p, OR1, B01, PTc_up, ix_int, ix_1, XI, PI, PJ, BU, LV, LA_i, q_zz, q_za, q_zga, q_fza, q_fx, q_fga, q_gza, q_gfa, q_gx, q_zf1, q_zg1, q_ff, q_fg1, q_gf1, q_gg, ti_link, in1000]) (by (try clear j425); (try clear j394); (try clear j230); (try clear hr_block); (try clear hf_block); grind (ematch := 12) (gen := 12) (splits := 15) [→ CF_nc, → CS_nc, → AF_na, → OH_no, → CS_step, → CS_CF, AF_nf, AQ_o, CS_nf, q_zz, q_za, q_zga, q_fza, q_fx, q_fga, q_gza, q_gfa, q_gx, q_zf1, q_zg1, q_ff, q_fg1, q_gf1, q_gg, AV_i, → CD_nc, CD_nf, ← CD_CS, → PD_np, → TM_nt, → TM_tr, ti_link]) (by (try clear j425); (try clear j394); (try clear j230); (try clear hr_block); (try clear hf_block); grind (ematch := 12) (gen := 12) (splits := 15) [→ CF_nc, → CS_nc, → AF_na, → OH_no, → CS_step, → CS_CF, AF_nf, AQ_o, CS_nf, q_zz, q_za, q_zga, q_fza, q_fx, q_fga, q_gza, q_gfa, q_gx, q_zf1, q_zg1, q_ff, q_fg1, q_gf1, q_gg, AV_i, → CD_nc, CD_nf, ← CD_CS, → PD_np, → TM_nt, → TM_tr, ti_link]) (by (try clear j425); (try clear j394); (try clear j230); (try clear hr_block); (try clear hf_block); grind (ematch := 12) (gen := 12) (splits := 15) [→ CF_nc, → CS_nc, → AF_na, → OH_no, → CS_step, → CS_CF, AF_nf, AQ_o, CS_nf, q_zz, q_za, q_zga, q_fza, q_fx, q_fga, q_gza, q_gfa, q_gx, q_zf1, q_zg1, q_ff, q_fg1, q_gf1, q_gg, AV_i, → CD_nc, CD_nf, ← CD_CS, → PD_np, → TM_nt, → TM_tr, ti_link]) (by (try clear j425); (try clear j394); (try clear j230); (try clear hr_block); (try clear hf_block); grind (ematch := 12) (gen := 12) (splits := 15) [→ CF_nc, → CS_nc, → AF_na, → OH_no, → CS_step, → CS_CF, AF_nf, AQ_o, CS_nf, q_zz, q_za, q_zga, q_fza, q_fx, q_fga, q_gza, q_gfa, q_gx, q_zf1, q_zg1, q_ff, q_fg1, q_gf1, q_gg, AV_i, → CD_nc, CD_nf, ← CD_CS, → PD_np, → TM_nt, → TM_tr, ti_link]) (by (try clear j425); (try clear j394); (try clear j230); (try clear hr_block); (try clear hf_block); grind (ematch := 12) (gen := 12) (splits := 15) [→ CF_nc, → CS_nc, → AF_na, → OH_no, → CS_step, → CS_CF, AF_nf, AQ_o, CS_nf, q_zz, q_za, q_zga, q_fza, q_fx, q_fga, q_gza, q_gfa, q_gx, q_zf1, q_zg1, q_ff, q_fg1, q_gf1, q_gg, AV_i, → CD_nc, CD_nf, ← CD_CS, → PD_np, → TM_nt, → TM_tr, ti_link]))
      obtain ⟨pS50, qS50⟩ := pS50
      have z6_S50 := hF9.1 6 (by decide)
      have z12_S50 := hF9.1 12 (by decide)
      have f1_S50 := hF9.2.1 1 (by decide)
      have f1a_S50 := Fr_fa hF9 1 (by decide)
      have f2_S50 := hF9.2.1 2 (by decide)
      have f2a_S50 := Fr_fa hF9 2 (by decide)
      have g3_S50 := hF9.2.2 3 (by decide)
      have g3a_S50 := Fr_ga hF9 3 (by decide)
      have g4_S50 := hF9.2.2 4 (by decide)
      have g4a_S50 := Fr_ga hF9 4 (by decide)
      clear hF9
      have tf50 : TF nx S x1 S50 := TF_tm tf49 qS50.2.2.2
      have uS50 : TM S S50 := TM_tr uS49 qS50.2.2.2
      refine ⟨by (try clear hC hA hO hP hk tS0 aS49 uS49 tf49 cS49 pin49 oS49_ h qS50 tf50 uS50); (try clear j425); (try clear j394); (try clear j230); (try clear hr_block); (try clear hf_block); grind -mbtc (splits := 20) (gen := 30) (ematch := 15) [SI, PT, WB_ad2, WB_nt, WB_on, WB_fi, WB_nf, LA_n, LA_p, OR1, B01, PTc_up, ix_int, ix_1, XI, PI, PJ, BU, LV, LA_i, q_zz, q_za, q_zga, q_fza, q_fx, q_fga, q_gza, q_gfa, q_gx, q_zf1, q_zg1, q_ff, q_fg1, q_gf1, q_gg, ti_link, in1000], ?_⟩
      intro S51 eS51
      have dS51 : NP S50 S51 := NP_z eS51 (by decide)
      have tS51 : NT S50 S51 := NT_z eS51 (by decide)
      have nS51 : NC S50 S51 := NC_z eS51 (by decide)
      have mS51 : NA S50 S51 := NA_z eS51 (by decide)
      have oS51 : NO nx S50 S51 := NO_z eS51
      refine ⟨by (try clear hC hA hO hP hk tS0 aS49 uS49 tf49 cS49 pin49 oS49_ h qS50 tf50 uS50 dS51 tS51 nS51 mS51 oS51); (try clear j425); (try clear j394); (try clear j230); (try clear hr_block); (try clear hf_block); grind -mbtc (splits := 20) (gen := 30) (ematch := 15) [SI, PT, WB_ad2, WB_nt, WB_on, WB_fi, WB_nf, LA_n, LA_p, OR1, B01, PTc_up, ix_int, ix_1, XI, PI, PJ, BU, LV, LA_i, q_zz, q_za, q_zga, q_fza, q_fx, q_fga, q_gza, q_gfa, q_gx, q_zf1, q_zg1, q_ff, q_fg1, q_gf1, q_gg, ti_link, in1000], ?_⟩
      intro S52 eS52
      have dS52 : NP S51 S52 := NP_z eS52 (by decide)
      have tS52 : NT S51 S52 := NT_z eS52 (by decide)
      have nS52 : NC S51 S52 := NC_z eS52 (by decide)
      have mS52 : NA S51 S52 := NA_z eS52 (by decide)
      have oS52 : NO nx S51 S52 := NO_z eS52
      have tf52 : TF nx S x1 S52 := TF_np (TF_np tf50 dS51) dS52
      have cS52 : CS nx ((ix x1, 3, (0 : Int32)) :: kL) (S52.1 9).toInt (S52.1 10).toInt x1 S52 := by (try clear j425); (try clear j394); (try clear j230); (try clear hr_block); (try clear hf_block); grind (ematch := 12) (gen := 12) (splits := 15) [→ CF_nc, → CS_nc, → AF_na, → OH_no, → CS_step, → CS_CF, AF_nf, AQ_o, CS_nf, q_zz, q_za, q_zga, q_fza, q_fx, q_fga, q_gza, q_gfa, q_gx, q_zf1, q_zg1, q_ff, q_fg1, q_gf1, q_gg, AV_i, → CD_nc, CD_nf, ← CD_CS, → PD_np, → TM_nt, → TM_tr, ti_link]
      have aS52 : AF nx ((S50.2.1 10) (ix (S50.1 12))).toInt S52 := by (try clear j425); (try clear j394); (try clear j230); (try clear hr_block); (try clear hf_block); grind (ematch := 12) (gen := 12) (splits := 15) [→ CF_nc, → CS_nc, → AF_na, → OH_no, → CS_step, → CS_CF, AF_nf, AQ_o, CS_nf, q_zz, q_za, q_zga, q_fza, q_fx, q_fga, q_gza, q_gfa, q_gx, q_zf1, q_zg1, q_ff, q_fg1, q_gf1, q_gg, AV_i, → CD_nc, CD_nf, ← CD_CS, → PD_np, → TM_nt, → TM_tr, ti_link]
      refine fm_emit _ _ _ _ _ _ (fun S53 r53 hF10 pS53 => ?_) (sg_emit (nx := nx) _ _ _ (by (try clear hC hA hO hP hk tS0 aS49 uS49 tf49 cS49 pin49 oS49_ h qS50 tf50 uS50 dS51 tS51 nS51 mS51 oS51 dS52 tS52 nS52 mS52 oS52 tf52 cS52 aS52); (try clear j425); (try clear j394); (try clear j230); (try clear hr_block); (try clear hf_block); grind -mbtc (splits := 20) (gen := 30) (ematch := 15) [SI, PT, WB_ad2, WB_nt, WB_on, WB_fi, WB_nf, LA_n, LA_p, OR1, B01, PTc_up, ix_int, ix_1, XI, PI, PJ, BU, LV, LA_i, q_zz, q_za, q_zga, q_fza, q_fx, q_fga, q_gza, q_gfa, q_gx, q_zf1, q_zg1, q_ff, q_fg1, q_gf1, q_gg, ti_link, in1000]))
      obtain ⟨pS53, qS53⟩ := pS53
      have tS53 : NT S52 S53 := NT_fr hF10 (by decide) (by decide)
      have fS53 : S53.1 4 = 0 → S52.1 4 = 0 := fun q => (hF10.1 4 (by decide)).symm.trans q
      have dS53 : NP S52 S53 := NP_fr hF10 (by decide) (by decide) fS53
      have mS53 : NA S52 S53 := NA_fr hF10 (by decide) (by decide) fS53
      have z3_S53 := hF10.1 3 (by decide)
      have z4_S53 := hF10.1 4 (by decide)
      have z6_S53 := hF10.1 6 (by decide)
      have z8_S53 := hF10.1 8 (by decide)
      have z9_S53 := hF10.1 9 (by decide)
      have z10_S53 := hF10.1 10 (by decide)
      have z11_S53 := hF10.1 11 (by decide)
      have z12_S53 := hF10.1 12 (by decide)
      have z13_S53 := hF10.1 13 (by decide)
      have z15_S53 := hF10.1 15 (by decide)
      have z17_S53 := hF10.1 17 (by decide)
      have z18_S53 := hF10.1 18 (by decide)
      have z19_S53 := hF10.1 19 (by decide)
      have z20_S53 := hF10.1 20 (by decide)
      have z16_S53 := hF10.1 16 (by decide)
      have f1_S53 := hF10.2.1 1 (by decide)
      have f1a_S53 := Fr_fa hF10 1 (by decide)
      have f2_S53 := hF10.2.1 2 (by decide)
      have f2a_S53 := Fr_fa hF10 2 (by decide)
      have f8_S53 := hF10.2.1 8 (by decide)
      have f8a_S53 := Fr_fa hF10 8 (by decide)
      have f10_S53 := hF10.2.1 10 (by decide)
      have f10a_S53 := Fr_fa hF10 10 (by decide)
      have f25_S53 := hF10.2.1 25 (by decide)
      have f25a_S53 := Fr_fa hF10 25 (by decide)
      have f28_S53 := hF10.2.1 28 (by decide)
      have f28a_S53 := Fr_fa hF10 28 (by decide)
      have f35_S53 := hF10.2.1 35 (by decide)
      have f35a_S53 := Fr_fa hF10 35 (by decide)
      have f36_S53 := hF10.2.1 36 (by decide)
      have f36a_S53 := Fr_fa hF10 36 (by decide)
      have f45_S53 := hF10.2.1 45 (by decide)
      have f45a_S53 := Fr_fa hF10 45 (by decide)
      have f46_S53 := hF10.2.1 46 (by decide)
      have f46a_S53 := Fr_fa hF10 46 (by decide)
      have f48_S53 := hF10.2.1 48 (by decide)
      have f48a_S53 := Fr_fa hF10 48 (by decide)
      have f40_S53 := hF10.2.1 40 (by decide)
      have f40a_S53 := Fr_fa hF10 40 (by decide)
      have f41_S53 := hF10.2.1 41 (by decide)
      have f41a_S53 := Fr_fa hF10 41 (by decide)
      have f42_S53 := hF10.2.1 42 (by decide)
      have f42a_S53 := Fr_fa hF10 42 (by decide)
      have f44_S53 := hF10.2.1 44 (by decide)
      have f44a_S53 := Fr_fa hF10 44 (by decide)
      have f29_S53 := hF10.2.1 29 (by decide)
      have f29a_S53 := Fr_fa hF10 29 (by decide)
      have f27_S53 := hF10.2.1 27 (by decide)
      have f27a_S53 := Fr_fa hF10 27 (by decide)
      have f37_S53 := hF10.2.1 37 (by decide)
      have f37a_S53 := Fr_fa hF10 37 (by decide)
      have f38_S53 := hF10.2.1 38 (by decide)
      have f38a_S53 := Fr_fa hF10 38 (by decide)
      have g3_S53 := hF10.2.2 3 (by decide)
      have g3a_S53 := Fr_ga hF10 3 (by decide)
      have g4_S53 := hF10.2.2 4 (by decide)
      have g4a_S53 := Fr_ga hF10 4 (by decide)
      clear hF10
      have cS53 : CD nx ((ix x1, 3, (0 : Int32)) :: kL) (S52.1 9).toInt (S52.1 10).toInt S53 := CD_fin qS53.1 cS52 ⟨by (try clear hC hA hO hP hk tS0 aS49 uS49 tf49 cS49 pin49 oS49_ h qS50 tf50 uS50 dS51 tS51 nS51 mS51 oS51 dS52 tS52 nS52 mS52 oS52 tf52 cS52 aS52 qS53 tS53 dS53 mS53); (try clear j425); (try clear j394); (try clear j230); (try clear hr_block); (try clear hf_block); grind -mbtc (splits := 20) (gen := 30) (ematch := 15) [SI, PT, WB_ad2, WB_nt, WB_on, WB_fi, WB_nf, LA_n, LA_p, OR1, B01, PTc_up, ix_int, ix_1, XI, PI, PJ, BU, LV, LA_i, q_zz, q_za, q_zga, q_fza, q_fx, q_fga, q_gza, q_gfa, q_gx, q_zf1, q_zg1, q_ff, q_fg1, q_gf1, q_gg, ti_link, in1000], tf52.2.2.2.2.2.2.1⟩
      have aS53 : AF nx ((S50.2.1 10) (ix (S50.1 12))).toInt S53 := AF_na mS53 aS52
      have tf53 : TF nx S x1 S53 := TF_np tf52 dS53
      refine fm_act _ _ _ _ _ (fun S54 r54 hF11 pS54 => ?_) (sgv_act (nx := nx) _ _ (by (try clear hC hA hO hP hk tS0 aS49 uS49 tf49 cS49 pin49 oS49_ h qS50 tf50 uS50 dS51 tS51 nS51 mS51 oS51 dS52 tS52 nS52 mS52 oS52 tf52 cS52 aS52 qS53 tS53 dS53 mS53 cS53 aS53 tf53); (try clear j425); (try clear j394); (try clear j230); (try clear hr_block); (try clear hf_block); grind -mbtc (splits := 20) (gen := 30) (ematch := 15) [SI, PT, WB_ad2, WB_nt, WB_on, WB_fi, WB_nf, LA_n, LA_p, OR1, B01, PTc_up, ix_int, ix_1, XI, PI, PJ, BU, LV, LA_i, q_zz, q_za, q_zga, q_fza, q_fx, q_fga, q_gza, q_gfa, q_gx, q_zf1, q_zg1, q_ff, q_fg1, q_gf1, q_gg, ti_link, in1000]))
      obtain ⟨pS54, qS54⟩ := pS54
      have tS54 : NT S53 S54 := NT_fr hF11 (by decide) (by decide)
      have fS54 : S54.1 4 = 0 → S53.1 4 = 0 := fun q => (hF11.1 4 (by decide)).symm.trans q
      have dS54 : NP S53 S54 := NP_fr hF11 (by decide) (by decide) fS54
      have nS54 : NC S53 S54 := NC_fr hF11 (by decide) (by decide) fS54
      have z3_S54 := hF11.1 3 (by decide)
      have z4_S54 := hF11.1 4 (by decide)
      have z6_S54 := hF11.1 6 (by decide)
      have z7_S54 := hF11.1 7 (by decide)
      have z9_S54 := hF11.1 9 (by decide)
      have z10_S54 := hF11.1 10 (by decide)
      have z11_S54 := hF11.1 11 (by decide)
      have z12_S54 := hF11.1 12 (by decide)
      have z13_S54 := hF11.1 13 (by decide)
      have z15_S54 := hF11.1 15 (by decide)
      have z17_S54 := hF11.1 17 (by decide)
      have z18_S54 := hF11.1 18 (by decide)
      have z19_S54 := hF11.1 19 (by decide)
      have z20_S54 := hF11.1 20 (by decide)
      have z16_S54 := hF11.1 16 (by decide)
      have f1_S54 := hF11.2.1 1 (by decide)
      have f1a_S54 := Fr_fa hF11 1 (by decide)
      have f2_S54 := hF11.2.1 2 (by decide)
      have f2a_S54 := Fr_fa hF11 2 (by decide)
      have f8_S54 := hF11.2.1 8 (by decide)
      have f8a_S54 := Fr_fa hF11 8 (by decide)
      have f10_S54 := hF11.2.1 10 (by decide)
      have f10a_S54 := Fr_fa hF11 10 (by decide)
      have f25_S54 := hF11.2.1 25 (by decide)
      have f25a_S54 := Fr_fa hF11 25 (by decide)
      have f28_S54 := hF11.2.1 28 (by decide)
      have f28a_S54 := Fr_fa hF11 28 (by decide)
      have f35_S54 := hF11.2.1 35 (by decide)
      have f35a_S54 := Fr_fa hF11 35 (by decide)
      have f36_S54 := hF11.2.1 36 (by decide)
      have f36a_S54 := Fr_fa hF11 36 (by decide)
      have f45_S54 := hF11.2.1 45 (by decide)
      have f45a_S54 := Fr_fa hF11 45 (by decide)
      have f46_S54 := hF11.2.1 46 (by decide)
      have f46a_S54 := Fr_fa hF11 46 (by decide)
      have f48_S54 := hF11.2.1 48 (by decide)
      have f48a_S54 := Fr_fa hF11 48 (by decide)
      have f40_S54 := hF11.2.1 40 (by decide)
      have f40a_S54 := Fr_fa hF11 40 (by decide)
      have f41_S54 := hF11.2.1 41 (by decide)
      have f41a_S54 := Fr_fa hF11 41 (by decide)
      have f42_S54 := hF11.2.1 42 (by decide)
      have f42a_S54 := Fr_fa hF11 42 (by decide)
      have f44_S54 := hF11.2.1 44 (by decide)
      have f44a_S54 := Fr_fa hF11 44 (by decide)
      have f29_S54 := hF11.2.1 29 (by decide)
      have f29a_S54 := Fr_fa hF11 29 (by decide)
      have f27_S54 := hF11.2.1 27 (by decide)
      have f27a_S54 := Fr_fa hF11 27 (by decide)
      have f37_S54 := hF11.2.1 37 (by decide)
      have f37a_S54 := Fr_fa hF11 37 (by decide)
      have f38_S54 := hF11.2.1 38 (by decide)
      have f38a_S54 := Fr_fa hF11 38 (by decide)
      have g3_S54 := hF11.2.2 3 (by decide)
      have g3a_S54 := Fr_ga hF11 3 (by decide)
      have g4_S54 := hF11.2.2 4 (by decide)
      have g4a_S54 := Fr_ga hF11 4 (by decide)
      clear hF11
      have aS54 : AF nx ((S50.2.1 10) (ix (S50.1 12))).toInt S54 := qS54.2.1 _ aS53 (AQ_t ⟨by (try clear hC hA hO hP hk tS0 aS49 uS49 tf49 cS49 pin49 oS49_ h qS50 tf50 uS50 dS51 tS51 nS51 mS51 oS51 dS52 tS52 nS52 mS52 oS52 tf52 cS52 aS52 qS53 tS53 dS53 mS53 cS53 aS53 tf53 qS54 tS54 dS54 nS54); (try clear j425); (try clear j394); (try clear j230); (try clear hr_block); (try clear hf_block); grind -mbtc (splits := 20) (gen := 30) (ematch := 15) [SI, PT, WB_ad2, WB_nt, WB_on, WB_fi, WB_nf, LA_n, LA_p, OR1, B01, PTc_up, ix_int, ix_1, XI, PI, PJ, BU, LV, LA_i, q_zz, q_za, q_zga, q_fza, q_fx, q_fga, q_gza, q_gfa, q_gx, q_zf1, q_zg1, q_ff, q_fg1, q_gf1, q_gg, ti_link, in1000], tf53.2.2.2.2.2.2.1⟩)
      have vS54 : AV nx S54 r54 := AV_i (by (try clear hC hA hO hP hk tS0 aS49 uS49 tf49 cS49 pin49 oS49_ h qS50 tf50 uS50 dS51 tS51 nS51 mS51 oS51 dS52 tS52 nS52 mS52 oS52 tf52 cS52 aS52 qS53 tS53 dS53 mS53 cS53 aS53 tf53 qS54 tS54 dS54 nS54 aS54); (try clear j425); (try clear j394); (try clear j230); (try clear hr_block); (try clear hf_block); grind -mbtc (splits := 20) (gen := 30) (ematch := 15) [SI, PT, WB_ad2, WB_nt, WB_on, WB_fi, WB_nf, LA_n, LA_p, OR1, B01, PTc_up, ix_int, ix_1, XI, PI, PJ, BU, LV, LA_i, q_zz, q_za, q_zga, q_fza, q_fx, q_fga, q_gza, q_gfa, q_gx, q_zf1, q_zg1, q_ff, q_fg1, q_gf1, q_gg, ti_link, in1000]) (by (try clear hC hA hO hP hk tS0 aS49 uS49 tf49 cS49 pin49 oS49_ h qS50 tf50 uS50 dS51 tS51 nS51 mS51 oS51 dS52 tS52 nS52 mS52 oS52 tf52 cS52 aS52 qS53 tS53 dS53 mS53 cS53 aS53 tf53 qS54 tS54 dS54 nS54 aS54); (try clear j425); (try clear j394); (try clear j230); (try clear hr_block); (try clear hf_block); grind -mbtc (splits := 20) (gen := 30) (ematch := 15) [SI, PT, WB_ad2, WB_nt, WB_on, WB_fi, WB_nf, LA_n, LA_p, OR1, B01, PTc_up, ix_int, ix_1, XI, PI, PJ, BU, LV, LA_i, q_zz, q_za, q_zga, q_fza, q_fx, q_fga, q_gza, q_gfa, q_gx, q_zf1, q_zg1, q_ff, q_fg1, q_gf1, q_gg, ti_link, in1000])
      have tf54 : TF nx S x1 S54 := TF_np tf53 dS54
      have uS54 : TM S S54 := by (try clear j425); (try clear j394); (try clear j230); (try clear hr_block); (try clear hf_block); grind (ematch := 12) (gen := 12) (splits := 15) [→ CF_nc, → CS_nc, → AF_na, → OH_no, → CS_step, → CS_CF, AF_nf, AQ_o, CS_nf, q_zz, q_za, q_zga, q_fza, q_fx, q_fga, q_gza, q_gfa, q_gx, q_zf1, q_zg1, q_ff, q_fg1, q_gf1, q_gg, AV_i, → CD_nc, CD_nf, ← CD_CS, → PD_np, → TM_nt, → TM_tr, ti_link]
      have cS54 : CD nx ((ix x1, 3, (0 : Int32)) :: kL) (S54.1 9).toInt (S54.1 10).toInt S54 := by (try clear j425); (try clear j394); (try clear j230); (try clear hr_block); (try clear hf_block); grind (ematch := 12) (gen := 12) (splits := 15) [→ CF_nc, → CS_nc, → AF_na, → OH_no, → CS_step, → CS_CF, AF_nf, AQ_o, CS_nf, q_zz, q_za, q_zga, q_fza, q_fx, q_fga, q_gza, q_gfa, q_gx, q_zf1, q_zg1, q_ff, q_fg1, q_gf1, q_gg, AV_i, → CD_nc, CD_nf, ← CD_CS, → PD_np, → TM_nt, → TM_tr, ti_link]
      have oS54_ : OH nx S0 S54 := by (try clear j425); (try clear j394); (try clear j230); (try clear hr_block); (try clear hf_block); grind (ematch := 12) (gen := 12) (splits := 15) [→ CF_nc, → CS_nc, → AF_na, → OH_no, → CS_step, → CS_CF, AF_nf, AQ_o, CS_nf, q_zz, q_za, q_zga, q_fza, q_fx, q_fga, q_gza, q_gfa, q_gx, q_zf1, q_zg1, q_ff, q_fg1, q_gf1, q_gg, AV_i, → CD_nc, CD_nf, ← CD_CS, → PD_np, → TM_nt, → TM_tr, ti_link]
      have hs54 : SI nx n so pl wo ws S0 d (G - 10) (GA - 4) (X + 10) (Y + 6) GW GT S54 ∧ ((S54.1 4) = 0 → (S.1 3).toInt < (S54.1 3).toInt) ∧ (S.1 8).toInt ≤ (S54.1 8).toInt ∧ (S.1 10).toInt ≤ (S54.1 10).toInt ∧ x1.toInt < (S54.1 9).toInt ∧ 500 * nx ≤ x1.toInt ∧ (S54.1 13) = (S.1 13) ∧ (S54.1 15) = (S.1 15) ∧ (S54.1 16) = (S.1 16) + 1 ∧ (S54.2.1 10) (ix (S54.1 12)) = (S50.2.1 10) (ix (S50.1 12)) ∧ x1 = (S.1 9) ∧ 12000 * nx ≤ r54.toInt ∧ r54.toInt < 12000 * nx + 12000 := by (try clear hC hA hO hP hk tS0 aS49 uS49 tf49 cS49 pin49 oS49_ h qS50 tf50 uS50 dS51 tS51 nS51 mS51 oS51 dS52 tS52 nS52 mS52 oS52 tf52 cS52 aS52 qS53 tS53 dS53 mS53 cS53 aS53 tf53 qS54 tS54 dS54 nS54 aS54 vS54 tf54 uS54 cS54 oS54_); (try clear j425); (try clear j394); (try clear j230); (try clear hr_block); (try clear hf_block); grind -mbtc (splits := 20) (gen := 30) (ematch := 15) [SI, PT, WB_ad2, WB_nt, WB_on, WB_fi, WB_nf, LA_n, LA_p, OR1, B01, PTc_up, ix_int, ix_1, XI, PI, PJ, BU, LV, LA_i, q_zz, q_za, q_zga, q_fza, q_fx, q_fga, q_gza, q_gfa, q_gx, q_zf1, q_zg1, q_ff, q_fg1, q_gf1, q_gg, ti_link, in1000]
      (try clear fS54); (try clear fS53); (try clear eS52); (try clear eS51); (try clear nS54); (try clear dS54); (try clear tS54); (try clear qS54); (try clear tf53); (try clear aS53); (try clear cS53); (try clear mS53); (try clear dS53); (try clear tS53); (try clear qS53); (try clear aS52); (try clear cS52); (try clear tf52); (try clear oS52); (try clear mS52); (try clear nS52); (try clear tS52); (try clear dS52); (try clear oS51); (try clear mS51); (try clear nS51); (try clear tS51); (try clear dS51); (try clear uS50); (try clear tf50); (try clear qS50); (try clear oS49_); (try clear pin49); (try clear cS49); (try clear tf49); (try clear uS49); (try clear aS49); (try clear g4a_S54); (try clear g4_S54); (try clear g3a_S54); (try clear g3_S54); (try clear f38a_S54); (try clear f38_S54); (try clear f37a_S54); (try clear f37_S54); (try clear f27a_S54); (try clear f27_S54); (try clear f29a_S54); (try clear f29_S54); (try clear f44a_S54); (try clear f44_S54); (try clear f42a_S54); (try clear f42_S54); (try clear f41a_S54); (try clear f41_S54); (try clear f40a_S54); (try clear f40_S54); (try clear f48a_S54); (try clear f48_S54); (try clear f46a_S54); (try clear f46_S54); (try clear f45a_S54); (try clear f45_S54); (try clear f36a_S54); (try clear f36_S54); (try clear f35a_S54); (try clear f35_S54); (try clear f28a_S54); (try clear f28_S54); (try clear f25a_S54); (try clear f25_S54); (try clear f10a_S54); (try clear f10_S54); (try clear f8a_S54); (try clear f8_S54); (try clear f2a_S54); (try clear f2_S54); (try clear f1a_S54); (try clear f1_S54); (try clear z16_S54); (try clear z20_S54); (try clear z19_S54); (try clear z18_S54); (try clear z17_S54); (try clear z15_S54); (try clear z13_S54); (try clear z12_S54); (try clear z11_S54); (try clear z10_S54); (try clear z9_S54); (try clear z7_S54); (try clear z6_S54); (try clear z4_S54); (try clear z3_S54); (try clear pS54); (try clear g4a_S53); (try clear g4_S53); (try clear g3a_S53); (try clear g3_S53); (try clear f38a_S53); (try clear f38_S53); (try clear f37a_S53); (try clear f37_S53); (try clear f27a_S53); (try clear f27_S53); (try clear f29a_S53); (try clear f29_S53); (try clear f44a_S53); (try clear f44_S53); (try clear f42a_S53); (try clear f42_S53); (try clear f41a_S53); (try clear f41_S53); (try clear f40a_S53); (try clear f40_S53); (try clear f48a_S53); (try clear f48_S53); (try clear f46a_S53); (try clear f46_S53); (try clear f45a_S53); (try clear f45_S53); (try clear f36a_S53); (try clear f36_S53); (try clear f35a_S53); (try clear f35_S53); (try clear f28a_S53); (try clear f28_S53); (try clear f25a_S53); (try clear f25_S53); (try clear f10a_S53); (try clear f10_S53); (try clear f8a_S53); (try clear f8_S53); (try clear f2a_S53); (try clear f2_S53); (try clear f1a_S53); (try clear f1_S53); (try clear z16_S53); (try clear z20_S53); (try clear z19_S53); (try clear z18_S53); (try clear z17_S53); (try clear z15_S53); (try clear z13_S53); (try clear z12_S53); (try clear z11_S53); (try clear z10_S53); (try clear z9_S53); (try clear z8_S53); (try clear z6_S53); (try clear z4_S53); (try clear z3_S53); (try clear pS53); (try clear g4a_S50); (try clear g4_S50); (try clear g3a_S50); (try clear g3_S50); (try clear f2a_S50); (try clear f2_S50); (try clear f1a_S50); (try clear f1_S50); (try clear z12_S50); (try clear z6_S50); (try clear pS50); (try clear hs49)
      refine fm_lead _ _ _ _ (fun S55 hF12 pS55 => ?_) (sgv_lead (nx := nx) _ (by (try clear hC hA hO hP hk tS0 aS54 vS54 tf54 uS54 cS54 oS54_); (try clear j425); (try clear j394); (try clear j230); (try clear hr_block); (try clear hf_block); grind -mbtc (splits := 20) (gen := 30) (ematch := 15) [SI, PT, WB_ad2, WB_nt, WB_on, WB_fi, WB_nf, LA_n, LA_p, OR1, B01, PTc_up, ix_int, ix_1, XI, PI, PJ, BU, LV, LA_i, q_zz, q_za, q_zga, q_fza, q_fx, q_fga, q_gza, q_gfa, q_gx, q_zf1, q_zg1, q_ff, q_fg1, q_gf1, q_gg, ti_link, in1000]))
      obtain ⟨pS55, qS55⟩ := pS55
      have tS55 : NT S54 S55 := NT_fr hF12 (by decide) (by decide)
      have fS55 : S55.1 4 = 0 → S54.1 4 = 0 := fun q => (hF12.1 4 (by decide)).symm.trans q
      have dS55 : NP S54 S55 := NP_fr hF12 (by decide) (by decide) fS55
      have nS55 : NC S54 S55 := NC_fr hF12 (by decide) (by decide) fS55
      have z3_S55 := hF12.1 3 (by decide)
      have z4_S55 := hF12.1 4 (by decide)
      have z6_S55 := hF12.1 6 (by decide)
      have z7_S55 := hF12.1 7 (by decide)
      have z8_S55 := hF12.1 8 (by decide)
      have z9_S55 := hF12.1 9 (by decide)
      have z10_S55 := hF12.1 10 (by decide)
      have z11_S55 := hF12.1 11 (by decide)
      have z12_S55 := hF12.1 12 (by decide)
      have z13_S55 := hF12.1 13 (by decide)
      have z15_S55 := hF12.1 15 (by decide)
      have z17_S55 := hF12.1 17 (by decide)
      have z18_S55 := hF12.1 18 (by decide)
      have z19_S55 := hF12.1 19 (by decide)
      have z20_S55 := hF12.1 20 (by decide)
      have z16_S55 := hF12.1 16 (by decide)
      have f1_S55 := hF12.2.1 1 (by decide)
      have f1a_S55 := Fr_fa hF12 1 (by decide)
      have f2_S55 := hF12.2.1 2 (by decide)
      have f2a_S55 := Fr_fa hF12 2 (by decide)
      have f8_S55 := hF12.2.1 8 (by decide)
      have f8a_S55 := Fr_fa hF12 8 (by decide)
      have f10_S55 := hF12.2.1 10 (by decide)
      have f10a_S55 := Fr_fa hF12 10 (by decide)
      have f25_S55 := hF12.2.1 25 (by decide)
      have f25a_S55 := Fr_fa hF12 25 (by decide)
      have f28_S55 := hF12.2.1 28 (by decide)
      have f28a_S55 := Fr_fa hF12 28 (by decide)
      have f35_S55 := hF12.2.1 35 (by decide)
      have f35a_S55 := Fr_fa hF12 35 (by decide)
      have f36_S55 := hF12.2.1 36 (by decide)
      have f36a_S55 := Fr_fa hF12 36 (by decide)
      have f45_S55 := hF12.2.1 45 (by decide)
      have f45a_S55 := Fr_fa hF12 45 (by decide)
      have f46_S55 := hF12.2.1 46 (by decide)
      have f46a_S55 := Fr_fa hF12 46 (by decide)
      have f48_S55 := hF12.2.1 48 (by decide)
      have f48a_S55 := Fr_fa hF12 48 (by decide)
      have f40_S55 := hF12.2.1 40 (by decide)
      have f40a_S55 := Fr_fa hF12 40 (by decide)
      have f41_S55 := hF12.2.1 41 (by decide)
      have f41a_S55 := Fr_fa hF12 41 (by decide)
      have f42_S55 := hF12.2.1 42 (by decide)
      have f42a_S55 := Fr_fa hF12 42 (by decide)
      have f44_S55 := hF12.2.1 44 (by decide)
      have f44a_S55 := Fr_fa hF12 44 (by decide)
      have f29_S55 := hF12.2.1 29 (by decide)
      have f29a_S55 := Fr_fa hF12 29 (by decide)
      have f27_S55 := hF12.2.1 27 (by decide)
      have f27a_S55 := Fr_fa hF12 27 (by decide)
      have f37_S55 := hF12.2.1 37 (by decide)
      have f37a_S55 := Fr_fa hF12 37 (by decide)
      have f38_S55 := hF12.2.1 38 (by decide)
      have f38a_S55 := Fr_fa hF12 38 (by decide)
      have g3_S55 := hF12.2.2 3 (by decide)
      have g3a_S55 := Fr_ga hF12 3 (by decide)
      have g4_S55 := hF12.2.2 4 (by decide)
      have g4a_S55 := Fr_ga hF12 4 (by decide)
      clear hF12
      have aS55 : AF nx ((S50.2.1 10) (ix (S50.1 12))).toInt S55 := qS55.2.1 _ aS54 vS54
      have vS55 : AV nx S55 r54 := AV_m vS54 (by (try clear hC hA hO hP hk tS0 aS54 vS54 tf54 uS54 cS54 oS54_ qS55 tS55 dS55 nS55 aS55); (try clear j425); (try clear j394); (try clear j230); (try clear hr_block); (try clear hf_block); grind -mbtc (splits := 20) (gen := 30) (ematch := 15) [SI, PT, WB_ad2, WB_nt, WB_on, WB_fi, WB_nf, LA_n, LA_p, OR1, B01, PTc_up, ix_int, ix_1, XI, PI, PJ, BU, LV, LA_i, q_zz, q_za, q_zga, q_fza, q_fx, q_fga, q_gza, q_gfa, q_gx, q_zf1, q_zg1, q_ff, q_fg1, q_gf1, q_gg, ti_link, in1000]) (by (try clear hC hA hO hP hk tS0 aS54 vS54 tf54 uS54 cS54 oS54_ qS55 tS55 dS55 nS55 aS55); (try clear j425); (try clear j394); (try clear j230); (try clear hr_block); (try clear hf_block); grind -mbtc (splits := 20) (gen := 30) (ematch := 15) [SI, PT, WB_ad2, WB_nt, WB_on, WB_fi, WB_nf, LA_n, LA_p, OR1, B01, PTc_up, ix_int, ix_1, XI, PI, PJ, BU, LV, LA_i, q_zz, q_za, q_zga, q_fza, q_fx, q_fga, q_gza, q_gfa, q_gx, q_zf1, q_zg1, q_ff, q_fg1, q_gf1, q_gg, ti_link, in1000])
      intro S56 eS56
      have lS56 : ∀ m : Int, AV nx S55 r54 → AF nx m S55 → AF nx m S56 := fun m h8 h9 => AF_lv eS56 h8 h9
      have dS56 : NP S55 S56 := NP_z eS56 (by decide)
      have tS56 : NT S55 S56 := NT_z eS56 (by decide)
      have nS56 : NC S55 S56 := NC_z eS56 (by decide)
      have oS56 : NO nx S55 S56 := NO_z eS56
      have aS56 : AF nx ((S50.2.1 10) (ix (S50.1 12))).toInt S56 := AF_lv eS56 vS55 aS55
      have tf56 : TF nx S x1 S56 := TF_np (TF_np tf54 dS55) dS56
      refine ⟨by (try clear hC hA hO hP hk tS0 aS54 vS54 tf54 uS54 cS54 oS54_ qS55 tS55 dS55 nS55 aS55 vS55 lS56 dS56 tS56 nS56 oS56 aS56 tf56); (try clear j425); (try clear j394); (try clear j230); (try clear hr_block); (try clear hf_block); grind -mbtc (splits := 20) (gen := 30) (ematch := 15) [SI, PT, WB_ad2, WB_nt, WB_on, WB_fi, WB_nf, LA_n, LA_p, OR1, B01, PTc_up, ix_int, ix_1, XI, PI, PJ, BU, LV, LA_i, q_zz, q_za, q_zga, q_fza, q_fx, q_fga, q_gza, q_gfa, q_gx, q_zf1, q_zg1, q_ff, q_fg1, q_gf1, q_gg, ti_link, in1000], ?_⟩
      intro z57 ez57
      have vz57 : AV nx S56 z57 := by
            rw [ez57]
            exact AV_tb (w := x1) aS56 (by (try clear hC hA hO hP hk tS0 aS54 vS54 tf54 uS54 cS54 oS54_ qS55 tS55 dS55 nS55 aS55 vS55 lS56 dS56 tS56 nS56 oS56 aS56 tf56); (try clear j425); (try clear j394); (try clear j230); (try clear hr_block); (try clear hf_block); grind -mbtc (splits := 20) (gen := 30) (ematch := 15) [SI, PT, WB_ad2, WB_nt, WB_on, WB_fi, WB_nf, LA_n, LA_p, OR1, B01, PTc_up, ix_int, ix_1, XI, PI, PJ, BU, LV, LA_i, q_zz, q_za, q_zga, q_fza, q_fx, q_fga, q_gza, q_gfa, q_gx, q_zf1, q_zg1, q_ff, q_fg1, q_gf1, q_gg, ti_link, in1000]) tf56.2.2.2.2.2.2.1
      refine fm_lead _ _ _ _ (fun S58 hF13 pS58 => ?_) (sgv_lead (nx := nx) _ (by (try clear hC hA hO hP hk tS0 aS54 vS54 tf54 uS54 cS54 oS54_ qS55 tS55 dS55 nS55 aS55 vS55 lS56 dS56 tS56 nS56 oS56 aS56 tf56 vz57); (try clear j425); (try clear j394); (try clear j230); (try clear hr_block); (try clear hf_block); grind -mbtc (splits := 20) (gen := 30) (ematch := 15) [SI, PT, WB_ad2, WB_nt, WB_on, WB_fi, WB_nf, LA_n, LA_p, OR1, B01, PTc_up, ix_int, ix_1, XI, PI, PJ, BU, LV, LA_i, q_zz, q_za, q_zga, q_fza, q_fx, q_fga, q_gza, q_gfa, q_gx, q_zf1, q_zg1, q_ff, q_fg1, q_gf1, q_gg, ti_link, in1000]))
      obtain ⟨pS58, qS58⟩ := pS58
      have tS58 : NT S56 S58 := NT_fr hF13 (by decide) (by decide)
      have fS58 : S58.1 4 = 0 → S56.1 4 = 0 := fun q => (hF13.1 4 (by decide)).symm.trans q
      have dS58 : NP S56 S58 := NP_fr hF13 (by decide) (by decide) fS58
      have nS58 : NC S56 S58 := NC_fr hF13 (by decide) (by decide) fS58
      have z3_S58 := hF13.1 3 (by decide)
      have z4_S58 := hF13.1 4 (by decide)
      have z6_S58 := hF13.1 6 (by decide)
      have z7_S58 := hF13.1 7 (by decide)
      have z8_S58 := hF13.1 8 (by decide)
      have z9_S58 := hF13.1 9 (by decide)
      have z10_S58 := hF13.1 10 (by decide)
      have z11_S58 := hF13.1 11 (by decide)
      have z12_S58 := hF13.1 12 (by decide)
      have z13_S58 := hF13.1 13 (by decide)
      have z15_S58 := hF13.1 15 (by decide)
      have z17_S58 := hF13.1 17 (by decide)
      have z18_S58 := hF13.1 18 (by decide)
      have z19_S58 := hF13.1 19 (by decide)
      have z20_S58 := hF13.1 20 (by decide)
      have z16_S58 := hF13.1 16 (by decide)
      have f1_S58 := hF13.2.1 1 (by decide)
      have f1a_S58 := Fr_fa hF13 1 (by decide)
      have f2_S58 := hF13.2.1 2 (by decide)
      have f2a_S58 := Fr_fa hF13 2 (by decide)
      have f8_S58 := hF13.2.1 8 (by decide)
      have f8a_S58 := Fr_fa hF13 8 (by decide)
      have f10_S58 := hF13.2.1 10 (by decide)
      have f10a_S58 := Fr_fa hF13 10 (by decide)
      have f25_S58 := hF13.2.1 25 (by decide)
      have f25a_S58 := Fr_fa hF13 25 (by decide)
      have f28_S58 := hF13.2.1 28 (by decide)
      have f28a_S58 := Fr_fa hF13 28 (by decide)
      have f35_S58 := hF13.2.1 35 (by decide)
      have f35a_S58 := Fr_fa hF13 35 (by decide)
      have f36_S58 := hF13.2.1 36 (by decide)
      have f36a_S58 := Fr_fa hF13 36 (by decide)
      have f45_S58 := hF13.2.1 45 (by decide)
      have f45a_S58 := Fr_fa hF13 45 (by decide)
      have f46_S58 := hF13.2.1 46 (by decide)
      have f46a_S58 := Fr_fa hF13 46 (by decide)
      have f48_S58 := hF13.2.1 48 (by decide)
      have f48a_S58 := Fr_fa hF13 48 (by decide)
      have f40_S58 := hF13.2.1 40 (by decide)
      have f40a_S58 := Fr_fa hF13 40 (by decide)
      have f41_S58 := hF13.2.1 41 (by decide)
      have f41a_S58 := Fr_fa hF13 41 (by decide)
      have f42_S58 := hF13.2.1 42 (by decide)
      have f42a_S58 := Fr_fa hF13 42 (by decide)
      have f44_S58 := hF13.2.1 44 (by decide)
      have f44a_S58 := Fr_fa hF13 44 (by decide)
      have f29_S58 := hF13.2.1 29 (by decide)
      have f29a_S58 := Fr_fa hF13 29 (by decide)
      have f27_S58 := hF13.2.1 27 (by decide)
      have f27a_S58 := Fr_fa hF13 27 (by decide)
      have f37_S58 := hF13.2.1 37 (by decide)
      have f37a_S58 := Fr_fa hF13 37 (by decide)
      have f38_S58 := hF13.2.1 38 (by decide)
      have f38a_S58 := Fr_fa hF13 38 (by decide)
      have g3_S58 := hF13.2.2 3 (by decide)
      have g3a_S58 := Fr_ga hF13 3 (by decide)
      have g4_S58 := hF13.2.2 4 (by decide)
      have g4a_S58 := Fr_ga hF13 4 (by decide)
      clear hF13
      have aS58 : AF nx ((S50.2.1 10) (ix (S50.1 12))).toInt S58 := qS58.2.1 _ aS56 vz57
      have tf58 : TF nx S x1 S58 := TF_np tf56 dS58
      have uS58 : TM S S58 := by (try clear j425); (try clear j394); (try clear j230); (try clear hr_block); (try clear hf_block); grind (ematch := 12) (gen := 12) (splits := 15) [→ CF_nc, → CS_nc, → AF_na, → OH_no, → CS_step, → CS_CF, AF_nf, AQ_o, CS_nf, q_zz, q_za, q_zga, q_fza, q_fx, q_fga, q_gza, q_gfa, q_gx, q_zf1, q_zg1, q_ff, q_fg1, q_gf1, q_gg, AV_i, → CD_nc, CD_nf, ← CD_CS, → PD_np, → TM_nt, → TM_tr, ti_link]
      have cS58 : CD nx ((ix x1, 3, (0 : Int32)) :: kL) (S58.1 9).toInt (S58.1 10).toInt S58 := by (try clear j425); (try clear j394); (try clear j230); (try clear hr_block); (try clear hf_block); grind (ematch := 12) (gen := 12) (splits := 15) [→ CF_nc, → CS_nc, → AF_na, → OH_no, → CS_step, → CS_CF, AF_nf, AQ_o, CS_nf, q_zz, q_za, q_zga, q_fza, q_fx, q_fga, q_gza, q_gfa, q_gx, q_zf1, q_zg1, q_ff, q_fg1, q_gf1, q_gg, AV_i, → CD_nc, CD_nf, ← CD_CS, → PD_np, → TM_nt, → TM_tr, ti_link]
      exact j425 _ _ (⟨by (try clear hC hA hO hP hk tS0 aS54 vS54 tf54 uS54 cS54 oS54_ qS55 tS55 dS55 nS55 aS55 vS55 lS56 dS56 tS56 nS56 oS56 aS56 tf56 vz57 qS58 tS58 dS58 nS58 aS58 tf58 uS58 cS58); (try clear j425); (try clear j394); (try clear j230); (try clear hr_block); (try clear hf_block); grind -mbtc (splits := 20) (gen := 30) (ematch := 15) [SI, PT, WB_ad2, WB_nt, WB_on, WB_fi, WB_nf, LA_n, LA_p, OR1, B01, PTc_up, ix_int, ix_1, XI, PI, PJ, BU, LV, LA_i, q_zz, q_za, q_zga, q_fza, q_fx, q_fga, q_gza, q_gfa, q_gx, q_zf1, q_zg1, q_ff, q_fg1, q_gf1, q_gg, ti_link, in1000], by refine ⟨?_, ?_, ?_, ?_, ?_⟩ <;> ((try clear j425); (try clear j394); (try clear j230); (try clear hr_block); (try clear hf_block); grind (ematch := 12) (gen := 12) (splits := 15) [→ CF_nc, → CS_nc, → AF_na, → OH_no, → CS_step, → CS_CF, AF_nf, AQ_o, CS_nf, q_zz, q_za, q_zga, q_fza, q_fx, q_fga, q_gza, q_gfa, q_gx, q_zf1, q_zg1, q_ff, q_fg1, q_gf1, q_gg, AV_i, → CD_nc, CD_nf, ← CD_CS, → PD_np, → TM_nt, → TM_tr, ti_link])⟩)
  intro z1 ez1
  intro S2 eS2
  have nS2 : NC S S2 := NC_z eS2 (by decide)
  have oS2 : NO nx S S2 := NO_z eS2
  have aS2 : AFv nx ((S.2.1 10) (ix (S.1 12))).toInt (S.1 9).toInt (S.1 10).toInt (-1) S2 := AFv_z eS2 (Or.inl rfl) (AFv_o (-1) hA)
  have uS2 : TM S S2 := TM_t9 eS2 (by (try clear hC hA hO hP hk tS0 nS2 oS2 aS2); (try clear j425); (try clear j394); (try clear j230); (try clear hr_block); (try clear hf_block); grind -mbtc (splits := 20) (gen := 30) (ematch := 15) [SI, PT, WB_ad2, WB_nt, WB_on, WB_fi, WB_nf, LA_n, LA_p, OR1, B01, PTc_up, ix_int, ix_1, XI, PI, PJ, BU, LV, LA_i, q_zz, q_za, q_zga, q_fza, q_fx, q_fga, q_gza, q_gfa, q_gx, q_zf1, q_zg1, q_ff, q_fg1, q_gf1, q_gg, ti_link, in1000]) tS0
  refine ⟨by (try clear hC hA hO hP hk tS0 nS2 oS2 aS2 uS2); (try clear j425); (try clear j394); (try clear j230); (try clear hr_block); (try clear hf_block); grind -mbtc (splits := 20) (gen := 30) (ematch := 15) [SI, PT, WB_ad2, WB_nt, WB_on, WB_fi, WB_nf, LA_n, LA_p, OR1, B01, PTc_up, ix_int, ix_1, XI, PI, PJ, BU, LV, LA_i, q_zz, q_za, q_zga, q_fza, q_fx, q_fga, q_gza, q_gfa, q_gx, q_zf1, q_zg1, q_ff, q_fg1, q_gf1, q_gg, ti_link, in1000], ?_⟩
  intro S3 eS3
  have oS3 : NO nx S2 S3 := NO_f eS3 (nH_t (by decide) (by (try clear hC hA hO hP hk tS0 nS2 oS2 aS2 uS2); (try clear j425); (try clear j394); (try clear j230); (try clear hr_block); (try clear hf_block); grind -mbtc (splits := 20) (gen := 30) (ematch := 15) [SI, PT, WB_ad2, WB_nt, WB_on, WB_fi, WB_nf, LA_n, LA_p, OR1, B01, PTc_up, ix_int, ix_1, XI, PI, PJ, BU, LV, LA_i, q_zz, q_za, q_zga, q_fza, q_fx, q_fga, q_gza, q_gfa, q_gx, q_zf1, q_zg1, q_ff, q_fg1, q_gf1, q_gg, ti_link, in1000]))
  have aS3 : AFv nx ((S.2.1 10) (ix (S.1 12))).toInt (S.1 9).toInt (S.1 10).toInt (-1) S3 := AFv_f eS3 (Or.inl ⟨by unfold ix; omega, by decide⟩) aS2
  have uS3 : TM S S3 := TM_fi eS3 (Or.inr ⟨by decide, by unfold ix; omega⟩) uS2
  have cS3 : CS nx kL (S.1 9).toInt (S.1 10).toInt (S.1 13) S3 := CS_lift (by rw [eS3]; rfl) (fun _ _ _ q => CW_w25 eS3 (by unfold ix; omega) (by rw [eS2]; exact AF_ch hA hf) q) (CS_nc nS2 hC)
  refine ⟨by (try clear hC hA hO hP hk tS0 nS2 oS2 aS2 uS2 oS3 aS3 uS3 cS3); (try clear j425); (try clear j394); (try clear j230); (try clear hr_block); (try clear hf_block); grind -mbtc (splits := 20) (gen := 30) (ematch := 15) [SI, PT, WB_ad2, WB_nt, WB_on, WB_fi, WB_nf, LA_n, LA_p, OR1, B01, PTc_up, ix_int, ix_1, XI, PI, PJ, BU, LV, LA_i, q_zz, q_za, q_zga, q_fza, q_fx, q_fga, q_gza, q_gfa, q_gx, q_zf1, q_zg1, q_ff, q_fg1, q_gf1, q_gg, ti_link, in1000], ?_⟩
  intro S4 eS4
  have dS4 : NP S3 S4 := NP_f eS4 (by decide)
  have tS4 : NT S3 S4 := NT_f eS4 (by decide)
  have nS4 : NC S3 S4 := NC_f eS4 (by decide)
  have mS4 : NA S3 S4 := NA_f eS4 (by decide)
  have oS4 : NO nx S3 S4 := NO_f eS4 (nH_t (by decide) (by (try clear hC hA hO hP hk tS0 nS2 oS2 aS2 uS2 oS3 aS3 uS3 cS3 dS4 tS4 nS4 mS4); (try clear j425); (try clear j394); (try clear j230); (try clear hr_block); (try clear hf_block); grind -mbtc (splits := 20) (gen := 30) (ematch := 15) [SI, PT, WB_ad2, WB_nt, WB_on, WB_fi, WB_nf, LA_n, LA_p, OR1, B01, PTc_up, ix_int, ix_1, XI, PI, PJ, BU, LV, LA_i, q_zz, q_za, q_zga, q_fza, q_fx, q_fga, q_gza, q_gfa, q_gx, q_zf1, q_zg1, q_ff, q_fg1, q_gf1, q_gg, ti_link, in1000]))
  have aS4 : AFv nx ((S.2.1 10) (ix (S.1 12))).toInt (S.1 9).toInt (S.1 10).toInt (-1) S4 := AFv_na mS4 aS3
  have uS4 : TM S S4 := TM_nt uS3 tS4
  have cS4 : CS nx kL (S.1 9).toInt (S.1 10).toInt (S.1 13) S4 := CS_nc nS4 cS3
  refine ⟨by (try clear hC hA hO hP hk tS0 nS2 oS2 aS2 uS2 oS3 aS3 uS3 cS3 dS4 tS4 nS4 mS4 oS4 aS4 uS4 cS4); (try clear j425); (try clear j394); (try clear j230); (try clear hr_block); (try clear hf_block); grind -mbtc (splits := 20) (gen := 30) (ematch := 15) [SI, PT, WB_ad2, WB_nt, WB_on, WB_fi, WB_nf, LA_n, LA_p, OR1, B01, PTc_up, ix_int, ix_1, XI, PI, PJ, BU, LV, LA_i, q_zz, q_za, q_zga, q_fza, q_fx, q_fga, q_gza, q_gfa, q_gx, q_zf1, q_zg1, q_ff, q_fg1, q_gf1, q_gg, ti_link, in1000], ?_⟩
  intro S5 eS5
  have nS5 : NC S4 S5 := NC_f eS5 (by decide)
  have oS5 : NO nx S4 S5 := NO_f eS5 (nH_t (by decide) (by (try clear hC hA hO hP hk tS0 nS2 oS2 aS2 uS2 oS3 aS3 uS3 cS3 dS4 tS4 nS4 mS4 oS4 aS4 uS4 cS4 nS5); (try clear j425); (try clear j394); (try clear j230); (try clear hr_block); (try clear hf_block); grind -mbtc (splits := 20) (gen := 30) (ematch := 15) [SI, PT, WB_ad2, WB_nt, WB_on, WB_fi, WB_nf, LA_n, LA_p, OR1, B01, PTc_up, ix_int, ix_1, XI, PI, PJ, BU, LV, LA_i, q_zz, q_za, q_zga, q_fza, q_fx, q_fga, q_gza, q_gfa, q_gx, q_zf1, q_zg1, q_ff, q_fg1, q_gf1, q_gg, ti_link, in1000]))
  have aS5 : AFv nx ((S.2.1 10) (ix (S.1 12))).toInt (S.1 9).toInt (S.1 10).toInt (-1) S5 := AFv_f eS5 (Or.inl ⟨by unfold ix; omega, by decide⟩) aS4
  have uS5 : TM S S5 := TM_fi eS5 (Or.inr ⟨by decide, by unfold ix; omega⟩) uS4
  have cS5 : CS nx kL (S.1 9).toInt (S.1 10).toInt (S.1 13) S5 := CS_nc nS5 cS4
  refine ⟨by (try clear hC hA hO hP hk tS0 nS2 oS2 aS2 uS2 oS3 aS3 uS3 cS3 dS4 tS4 nS4 mS4 oS4 aS4 uS4 cS4 nS5 oS5 aS5 uS5 cS5); (try clear j425); (try clear j394); (try clear j230); (try clear hr_block); (try clear hf_block); grind -mbtc (splits := 20) (gen := 30) (ematch := 15) [SI, PT, WB_ad2, WB_nt, WB_on, WB_fi, WB_nf, LA_n, LA_p, OR1, B01, PTc_up, ix_int, ix_1, XI, PI, PJ, BU, LV, LA_i, q_zz, q_za, q_zga, q_fza, q_fx, q_fga, q_gza, q_gfa, q_gx, q_zf1, q_zg1, q_ff, q_fg1, q_gf1, q_gg, ti_link, in1000], ?_⟩
  intro S6 eS6
  have dS6 : NP S5 S6 := NP_f eS6 (by decide)
  have oS6 : NO nx S5 S6 := NO_f eS6 (nH_t (by decide) (by (try clear hC hA hO hP hk tS0 nS2 oS2 aS2 uS2 oS3 aS3 uS3 cS3 dS4 tS4 nS4 mS4 oS4 aS4 uS4 cS4 nS5 oS5 aS5 uS5 cS5 dS6); (try clear j425); (try clear j394); (try clear j230); (try clear hr_block); (try clear hf_block); grind -mbtc (splits := 20) (gen := 30) (ematch := 15) [SI, PT, WB_ad2, WB_nt, WB_on, WB_fi, WB_nf, LA_n, LA_p, OR1, B01, PTc_up, ix_int, ix_1, XI, PI, PJ, BU, LV, LA_i, q_zz, q_za, q_zga, q_fza, q_fx, q_fga, q_gza, q_gfa, q_gx, q_zf1, q_zg1, q_ff, q_fg1, q_gf1, q_gg, ti_link, in1000]))
  have aS6 : AFv nx ((S.2.1 10) (ix (S.1 12))).toInt (S.1 9).toInt (S.1 10).toInt (-1) S6 := AFv_f eS6 (Or.inl ⟨by unfold ix; omega, by decide⟩) aS5
  have uS6 : TM S S6 := TM_fi eS6 (Or.inr ⟨by decide, by unfold ix; omega⟩) uS5
  have cS6 : CS nx kL (S.1 9).toInt (S.1 10).toInt (S.1 13) S6 := CS_lift (by rw [eS6]; rfl) (fun _ _ _ q => CW_w28 eS6 (Or.inr (by unfold ix; omega)) q) cS5
  refine ⟨by (try clear hC hA hO hP hk tS0 nS2 oS2 aS2 uS2 oS3 aS3 uS3 cS3 dS4 tS4 nS4 mS4 oS4 aS4 uS4 cS4 nS5 oS5 aS5 uS5 cS5 dS6 oS6 aS6 uS6 cS6); (try clear j425); (try clear j394); (try clear j230); (try clear hr_block); (try clear hf_block); grind -mbtc (splits := 20) (gen := 30) (ematch := 15) [SI, PT, WB_ad2, WB_nt, WB_on, WB_fi, WB_nf, LA_n, LA_p, OR1, B01, PTc_up, ix_int, ix_1, XI, PI, PJ, BU, LV, LA_i, q_zz, q_za, q_zga, q_fza, q_fx, q_fga, q_gza, q_gfa, q_gx, q_zf1, q_zg1, q_ff, q_fg1, q_gf1, q_gg, ti_link, in1000], ?_⟩
  intro S7 eS7
  have dS7 : NP S6 S7 := NP_f eS7 (by decide)
  have mS7 : NA S6 S7 := NA_f eS7 (by decide)
  have oS7 : NO nx S6 S7 := NO_f eS7 (nH_t (by decide) (by (try clear hC hA hO hP hk tS0 nS2 oS2 aS2 uS2 oS3 aS3 uS3 cS3 dS4 tS4 nS4 mS4 oS4 aS4 uS4 cS4 nS5 oS5 aS5 uS5 cS5 dS6 oS6 aS6 uS6 cS6 dS7 mS7); (try clear j425); (try clear j394); (try clear j230); (try clear hr_block); (try clear hf_block); grind -mbtc (splits := 20) (gen := 30) (ematch := 15) [SI, PT, WB_ad2, WB_nt, WB_on, WB_fi, WB_nf, LA_n, LA_p, OR1, B01, PTc_up, ix_int, ix_1, XI, PI, PJ, BU, LV, LA_i, q_zz, q_za, q_zga, q_fza, q_fx, q_fga, q_gza, q_gfa, q_gx, q_zf1, q_zg1, q_ff, q_fg1, q_gf1, q_gg, ti_link, in1000]))
  have aS7 : AFv nx ((S.2.1 10) (ix (S.1 12))).toInt (S.1 9).toInt (S.1 10).toInt (-1) S7 := AFv_na mS7 aS6
  have uS7 : TM S S7 := TM_fi eS7 (Or.inr ⟨by decide, by unfold ix; omega⟩) uS6
  have cS7 : CS nx kL (S.1 9).toInt (S.1 10).toInt (S.1 13) S7 := CS_lift (by rw [eS7]; rfl) (fun _ _ _ q => CW_w29 eS7 (Or.inr (by unfold ix; omega)) q) cS6
  refine ⟨by (try clear hC hA hO hP hk tS0 nS2 oS2 aS2 uS2 oS3 aS3 uS3 cS3 dS4 tS4 nS4 mS4 oS4 aS4 uS4 cS4 nS5 oS5 aS5 uS5 cS5 dS6 oS6 aS6 uS6 cS6 dS7 mS7 oS7 aS7 uS7 cS7); (try clear j425); (try clear j394); (try clear j230); (try clear hr_block); (try clear hf_block); grind -mbtc (splits := 20) (gen := 30) (ematch := 15) [SI, PT, WB_ad2, WB_nt, WB_on, WB_fi, WB_nf, LA_n, LA_p, OR1, B01, PTc_up, ix_int, ix_1, XI, PI, PJ, BU, LV, LA_i, q_zz, q_za, q_zga, q_fza, q_fx, q_fga, q_gza, q_gfa, q_gx, q_zf1, q_zg1, q_ff, q_fg1, q_gf1, q_gg, ti_link, in1000], ?_⟩
  intro S8 eS8
  have dS8 : NP S7 S8 := NP_f eS8 (by decide)
  have tS8 : NT S7 S8 := NT_f eS8 (by decide)
  have nS8 : NC S7 S8 := NC_f eS8 (by decide)
  have oS8 : NO nx S7 S8 := NO_f eS8 (nH_t (by decide) (by (try clear hC hA hO hP hk tS0 nS2 oS2 aS2 uS2 oS3 aS3 uS3 cS3 dS4 tS4 nS4 mS4 oS4 aS4 uS4 cS4 nS5 oS5 aS5 uS5 cS5 dS6 oS6 aS6 uS6 cS6 dS7 mS7 oS7 aS7 uS7 cS7 dS8 tS8 nS8); (try clear j425); (try clear j394); (try clear j230); (try clear hr_block); (try clear hf_block); grind -mbtc (splits := 20) (gen := 30) (ematch := 15) [SI, PT, WB_ad2, WB_nt, WB_on, WB_fi, WB_nf, LA_n, LA_p, OR1, B01, PTc_up, ix_int, ix_1, XI, PI, PJ, BU, LV, LA_i, q_zz, q_za, q_zga, q_fza, q_fx, q_fga, q_gza, q_gfa, q_gx, q_zf1, q_zg1, q_ff, q_fg1, q_gf1, q_gg, ti_link, in1000]))
  have aS8 : AFv nx ((S.2.1 10) (ix (S.1 12))).toInt (S.1 9).toInt (S.1 10).toInt (-1) S8 := AFv_f eS8 (Or.inl ⟨by unfold ix; omega, by decide⟩) aS7
  refine ⟨by (try clear hC hA hO hP hk tS0 nS2 oS2 aS2 uS2 oS3 aS3 uS3 cS3 dS4 tS4 nS4 mS4 oS4 aS4 uS4 cS4 nS5 oS5 aS5 uS5 cS5 dS6 oS6 aS6 uS6 cS6 dS7 mS7 oS7 aS7 uS7 cS7 dS8 tS8 nS8 oS8 aS8); (try clear j425); (try clear j394); (try clear j230); (try clear hr_block); (try clear hf_block); grind -mbtc (splits := 20) (gen := 30) (ematch := 15) [SI, PT, WB_ad2, WB_nt, WB_on, WB_fi, WB_nf, LA_n, LA_p, OR1, B01, PTc_up, ix_int, ix_1, XI, PI, PJ, BU, LV, LA_i, q_zz, q_za, q_zga, q_fza, q_fx, q_fga, q_gza, q_gfa, q_gx, q_zf1, q_zg1, q_ff, q_fg1, q_gf1, q_gg, ti_link, in1000], ?_⟩
  intro S9 eS9
  have dS9 : NP S8 S9 := NP_f eS9 (by decide)
  have tS9 : NT S8 S9 := NT_f eS9 (by decide)
  have nS9 : NC S8 S9 := NC_f eS9 (by decide)
  have oS9 : NO nx S8 S9 := NO_f eS9 (nH_t (by decide) (by (try clear hC hA hO hP hk tS0 nS2 oS2 aS2 uS2 oS3 aS3 uS3 cS3 dS4 tS4 nS4 mS4 oS4 aS4 uS4 cS4 nS5 oS5 aS5 uS5 cS5 dS6 oS6 aS6 uS6 cS6 dS7 mS7 oS7 aS7 uS7 cS7 dS8 tS8 nS8 oS8 aS8 dS9 tS9 nS9); (try clear j425); (try clear j394); (try clear j230); (try clear hr_block); (try clear hf_block); grind -mbtc (splits := 20) (gen := 30) (ematch := 15) [SI, PT, WB_ad2, WB_nt, WB_on, WB_fi, WB_nf, LA_n, LA_p, OR1, B01, PTc_up, ix_int, ix_1, XI, PI, PJ, BU, LV, LA_i, q_zz, q_za, q_zga, q_fza, q_fx, q_fga, q_gza, q_gfa, q_gx, q_zf1, q_zg1, q_ff, q_fg1, q_gf1, q_gg, ti_link, in1000]))
  have aS9 : AFv nx ((S.2.1 10) (ix (S.1 12))).toInt (S.1 9).toInt (S.1 10).toInt (-1) S9 := AFv_f eS9 (Or.inl ⟨by unfold ix; omega, by decide⟩) aS8
  refine ⟨by (try clear hC hA hO hP hk tS0 nS2 oS2 aS2 uS2 oS3 aS3 uS3 cS3 dS4 tS4 nS4 mS4 oS4 aS4 uS4 cS4 nS5 oS5 aS5 uS5 cS5 dS6 oS6 aS6 uS6 cS6 dS7 mS7 oS7 aS7 uS7 cS7 dS8 tS8 nS8 oS8 aS8 dS9 tS9 nS9 oS9 aS9); (try clear j425); (try clear j394); (try clear j230); (try clear hr_block); (try clear hf_block); grind -mbtc (splits := 20) (gen := 30) (ematch := 15) [SI, PT, WB_ad2, WB_nt, WB_on, WB_fi, WB_nf, LA_n, LA_p, OR1, B01, PTc_up, ix_int, ix_1, XI, PI, PJ, BU, LV, LA_i, q_zz, q_za, q_zga, q_fza, q_fx, q_fga, q_gza, q_gfa, q_gx, q_zf1, q_zg1, q_ff, q_fg1, q_gf1, q_gg, ti_link, in1000], ?_⟩
  intro S10 eS10
  have dS10 : NP S9 S10 := NP_f eS10 (by decide)
  have tS10 : NT S9 S10 := NT_f eS10 (by decide)
  have nS10 : NC S9 S10 := NC_f eS10 (by decide)
  have mS10 : NA S9 S10 := NA_f eS10 (by decide)
  have oS10 : NO nx S9 S10 := NO_f eS10 (nH_t (by decide) (by (try clear hC hA hO hP hk tS0 nS2 oS2 aS2 uS2 oS3 aS3 uS3 cS3 dS4 tS4 nS4 mS4 oS4 aS4 uS4 cS4 nS5 oS5 aS5 uS5 cS5 dS6 oS6 aS6 uS6 cS6 dS7 mS7 oS7 aS7 uS7 cS7 dS8 tS8 nS8 oS8 aS8 dS9 tS9 nS9 oS9 aS9 dS10 tS10 nS10 mS10); (try clear j425); (try clear j394); (try clear j230); (try clear hr_block); (try clear hf_block); grind -mbtc (splits := 20) (gen := 30) (ematch := 15) [SI, PT, WB_ad2, WB_nt, WB_on, WB_fi, WB_nf, LA_n, LA_p, OR1, B01, PTc_up, ix_int, ix_1, XI, PI, PJ, BU, LV, LA_i, q_zz, q_za, q_zga, q_fza, q_fx, q_fga, q_gza, q_gfa, q_gx, q_zf1, q_zg1, q_ff, q_fg1, q_gf1, q_gg, ti_link, in1000]))
  have aS10 : AFv nx ((S.2.1 10) (ix (S.1 12))).toInt (S.1 9).toInt (S.1 10).toInt (-1) S10 := AFv_na mS10 aS9
  refine fm_act _ _ _ _ _ (fun S11 r11 hF14 pS11 => ?_) (sgv_act (nx := nx) _ _ (by (try clear hC hA hO hP hk tS0 nS2 oS2 aS2 uS2 oS3 aS3 uS3 cS3 dS4 tS4 nS4 mS4 oS4 aS4 uS4 cS4 nS5 oS5 aS5 uS5 cS5 dS6 oS6 aS6 uS6 cS6 dS7 mS7 oS7 aS7 uS7 cS7 dS8 tS8 nS8 oS8 aS8 dS9 tS9 nS9 oS9 aS9 dS10 tS10 nS10 mS10 oS10 aS10); (try clear j425); (try clear j394); (try clear j230); (try clear hr_block); (try clear hf_block); grind -mbtc (splits := 20) (gen := 30) (ematch := 15) [SI, PT, WB_ad2, WB_nt, WB_on, WB_fi, WB_nf, LA_n, LA_p, OR1, B01, PTc_up, ix_int, ix_1, XI, PI, PJ, BU, LV, LA_i, q_zz, q_za, q_zga, q_fza, q_fx, q_fga, q_gza, q_gfa, q_gx, q_zf1, q_zg1, q_ff, q_fg1, q_gf1, q_gg, ti_link, in1000]))
  obtain ⟨pS11, qS11⟩ := pS11
  have tS11 : NT S10 S11 := NT_fr hF14 (by decide) (by decide)
  have fS11 : S11.1 4 = 0 → S10.1 4 = 0 := fun q => (hF14.1 4 (by decide)).symm.trans q
  have dS11 : NP S10 S11 := NP_fr hF14 (by decide) (by decide) fS11
  have nS11 : NC S10 S11 := NC_fr hF14 (by decide) (by decide) fS11
  have z3_S11 := hF14.1 3 (by decide)
  have z4_S11 := hF14.1 4 (by decide)
  have z6_S11 := hF14.1 6 (by decide)
  have z7_S11 := hF14.1 7 (by decide)
  have z9_S11 := hF14.1 9 (by decide)
  have z10_S11 := hF14.1 10 (by decide)
  have z11_S11 := hF14.1 11 (by decide)
  have z12_S11 := hF14.1 12 (by decide)
  have z13_S11 := hF14.1 13 (by decide)
  have z15_S11 := hF14.1 15 (by decide)
  have z17_S11 := hF14.1 17 (by decide)
  have z18_S11 := hF14.1 18 (by decide)
  have z19_S11 := hF14.1 19 (by decide)
  have z20_S11 := hF14.1 20 (by decide)
  have z16_S11 := hF14.1 16 (by decide)
  have f1_S11 := hF14.2.1 1 (by decide)
  have f1a_S11 := Fr_fa hF14 1 (by decide)
  have f2_S11 := hF14.2.1 2 (by decide)
  have f2a_S11 := Fr_fa hF14 2 (by decide)
  have f8_S11 := hF14.2.1 8 (by decide)
  have f8a_S11 := Fr_fa hF14 8 (by decide)
  have f10_S11 := hF14.2.1 10 (by decide)
  have f10a_S11 := Fr_fa hF14 10 (by decide)
  have f25_S11 := hF14.2.1 25 (by decide)
  have f25a_S11 := Fr_fa hF14 25 (by decide)
  have f28_S11 := hF14.2.1 28 (by decide)
  have f28a_S11 := Fr_fa hF14 28 (by decide)
  have f35_S11 := hF14.2.1 35 (by decide)
  have f35a_S11 := Fr_fa hF14 35 (by decide)
  have f36_S11 := hF14.2.1 36 (by decide)
  have f36a_S11 := Fr_fa hF14 36 (by decide)
  have f45_S11 := hF14.2.1 45 (by decide)
  have f45a_S11 := Fr_fa hF14 45 (by decide)
  have f46_S11 := hF14.2.1 46 (by decide)
  have f46a_S11 := Fr_fa hF14 46 (by decide)
  have f48_S11 := hF14.2.1 48 (by decide)
  have f48a_S11 := Fr_fa hF14 48 (by decide)
  have f40_S11 := hF14.2.1 40 (by decide)
  have f40a_S11 := Fr_fa hF14 40 (by decide)
  have f41_S11 := hF14.2.1 41 (by decide)
  have f41a_S11 := Fr_fa hF14 41 (by decide)
  have f42_S11 := hF14.2.1 42 (by decide)
  have f42a_S11 := Fr_fa hF14 42 (by decide)
  have f44_S11 := hF14.2.1 44 (by decide)
  have f44a_S11 := Fr_fa hF14 44 (by decide)
  have f29_S11 := hF14.2.1 29 (by decide)
  have f29a_S11 := Fr_fa hF14 29 (by decide)
  have f27_S11 := hF14.2.1 27 (by decide)
  have f27a_S11 := Fr_fa hF14 27 (by decide)
  have f37_S11 := hF14.2.1 37 (by decide)
  have f37a_S11 := Fr_fa hF14 37 (by decide)
  have f38_S11 := hF14.2.1 38 (by decide)
  have f38a_S11 := Fr_fa hF14 38 (by decide)
  have g3_S11 := hF14.2.2 3 (by decide)
  have g3a_S11 := Fr_ga hF14 3 (by decide)
  have g4_S11 := hF14.2.2 4 (by decide)
  have g4a_S11 := Fr_ga hF14 4 (by decide)
  clear hF14
  have aS11 : AFv nx ((S.2.1 10) (ix (S.1 12))).toInt (S.1 9).toInt (S.1 10).toInt (-1) S11 := qS11.2.2 _ _ _ _ aS10 ⟨by decide, by decide, by decide⟩
  refine ⟨by (try clear hC hA hO hP hk tS0 nS2 oS2 aS2 uS2 oS3 aS3 uS3 cS3 dS4 tS4 nS4 mS4 oS4 aS4 uS4 cS4 nS5 oS5 aS5 uS5 cS5 dS6 oS6 aS6 uS6 cS6 dS7 mS7 oS7 aS7 uS7 cS7 dS8 tS8 nS8 oS8 aS8 dS9 tS9 nS9 oS9 aS9 dS10 tS10 nS10 mS10 oS10 aS10 qS11 tS11 dS11 nS11 aS11); (try clear j425); (try clear j394); (try clear j230); (try clear hr_block); (try clear hf_block); grind -mbtc (splits := 20) (gen := 30) (ematch := 15) [SI, PT, WB_ad2, WB_nt, WB_on, WB_fi, WB_nf, LA_n, LA_p, OR1, B01, PTc_up, ix_int, ix_1, XI, PI, PJ, BU, LV, LA_i, q_zz, q_za, q_zga, q_fza, q_fx, q_fga, q_gza, q_gfa, q_gx, q_zf1, q_zg1, q_ff, q_fg1, q_gf1, q_gg, ti_link, in1000], ?_⟩
  intro S12 eS12
  have dS12 : NP S11 S12 := NP_f eS12 (by decide)
  have tS12 : NT S11 S12 := NT_f eS12 (by decide)
  have nS12 : NC S11 S12 := NC_f eS12 (by decide)
  have oS12 : NO nx S11 S12 := NO_f eS12 (nH_t (by decide) (by (try clear hC hA hO hP hk tS0 nS2 oS2 aS2 uS2 oS3 aS3 uS3 cS3 dS4 tS4 nS4 mS4 oS4 aS4 uS4 cS4 nS5 oS5 aS5 uS5 cS5 dS6 oS6 aS6 uS6 cS6 dS7 mS7 oS7 aS7 uS7 cS7 dS8 tS8 nS8 oS8 aS8 dS9 tS9 nS9 oS9 aS9 dS10 tS10 nS10 mS10 oS10 aS10 qS11 tS11 dS11 nS11 aS11 dS12 tS12 nS12); (try clear j425); (try clear j394); (try clear j230); (try clear hr_block); (try clear hf_block); grind -mbtc (splits := 20) (gen := 30) (ematch := 15) [SI, PT, WB_ad2, WB_nt, WB_on, WB_fi, WB_nf, LA_n, LA_p, OR1, B01, PTc_up, ix_int, ix_1, XI, PI, PJ, BU, LV, LA_i, q_zz, q_za, q_zga, q_fza, q_fx, q_fga, q_gza, q_gfa, q_gx, q_zf1, q_zg1, q_ff, q_fg1, q_gf1, q_gg, ti_link, in1000]))
  have aS12 : AFv nx ((S.2.1 10) (ix (S.1 12))).toInt (S.1 9).toInt (S.1 10).toInt (-1) S12 := AFv_f eS12 (Or.inl ⟨by unfold ix; omega, by decide⟩) aS11
  refine fm_act _ _ _ _ _ (fun S13 r13 hF15 pS13 => ?_) (sgv_act (nx := nx) _ _ (by (try clear hC hA hO hP hk tS0 nS2 oS2 aS2 uS2 oS3 aS3 uS3 cS3 dS4 tS4 nS4 mS4 oS4 aS4 uS4 cS4 nS5 oS5 aS5 uS5 cS5 dS6 oS6 aS6 uS6 cS6 dS7 mS7 oS7 aS7 uS7 cS7 dS8 tS8 nS8 oS8 aS8 dS9 tS9 nS9 oS9 aS9 dS10 tS10 nS10 mS10 oS10 aS10 qS11 tS11 dS11 nS11 aS11 dS12 tS12 nS12 oS12 aS12); (try clear j425); (try clear j394); (try clear j230); (try clear hr_block); (try clear hf_block); grind -mbtc (splits := 20) (gen := 30) (ematch := 15) [SI, PT, WB_ad2, WB_nt, WB_on, WB_fi, WB_nf, LA_n, LA_p, OR1, B01, PTc_up, ix_int, ix_1, XI, PI, PJ, BU, LV, LA_i, q_zz, q_za, q_zga, q_fza, q_fx, q_fga, q_gza, q_gfa, q_gx, q_zf1, q_zg1, q_ff, q_fg1, q_gf1, q_gg, ti_link, in1000]))
  obtain ⟨pS13, qS13⟩ := pS13
  have tS13 : NT S12 S13 := NT_fr hF15 (by decide) (by decide)
  have fS13 : S13.1 4 = 0 → S12.1 4 = 0 := fun q => (hF15.1 4 (by decide)).symm.trans q
  have dS13 : NP S12 S13 := NP_fr hF15 (by decide) (by decide) fS13
  have nS13 : NC S12 S13 := NC_fr hF15 (by decide) (by decide) fS13
  have z3_S13 := hF15.1 3 (by decide)
  have z4_S13 := hF15.1 4 (by decide)
  have z6_S13 := hF15.1 6 (by decide)
  have z7_S13 := hF15.1 7 (by decide)
  have z9_S13 := hF15.1 9 (by decide)
  have z10_S13 := hF15.1 10 (by decide)
  have z11_S13 := hF15.1 11 (by decide)
  have z12_S13 := hF15.1 12 (by decide)
  have z13_S13 := hF15.1 13 (by decide)
  have z15_S13 := hF15.1 15 (by decide)
  have z17_S13 := hF15.1 17 (by decide)
  have z18_S13 := hF15.1 18 (by decide)
  have z19_S13 := hF15.1 19 (by decide)
  have z20_S13 := hF15.1 20 (by decide)
  have z16_S13 := hF15.1 16 (by decide)
  have f1_S13 := hF15.2.1 1 (by decide)
  have f1a_S13 := Fr_fa hF15 1 (by decide)
  have f2_S13 := hF15.2.1 2 (by decide)
  have f2a_S13 := Fr_fa hF15 2 (by decide)
  have f8_S13 := hF15.2.1 8 (by decide)
  have f8a_S13 := Fr_fa hF15 8 (by decide)
  have f10_S13 := hF15.2.1 10 (by decide)
  have f10a_S13 := Fr_fa hF15 10 (by decide)
  have f25_S13 := hF15.2.1 25 (by decide)
  have f25a_S13 := Fr_fa hF15 25 (by decide)
  have f28_S13 := hF15.2.1 28 (by decide)
  have f28a_S13 := Fr_fa hF15 28 (by decide)
  have f35_S13 := hF15.2.1 35 (by decide)
  have f35a_S13 := Fr_fa hF15 35 (by decide)
  have f36_S13 := hF15.2.1 36 (by decide)
  have f36a_S13 := Fr_fa hF15 36 (by decide)
  have f45_S13 := hF15.2.1 45 (by decide)
  have f45a_S13 := Fr_fa hF15 45 (by decide)
  have f46_S13 := hF15.2.1 46 (by decide)
  have f46a_S13 := Fr_fa hF15 46 (by decide)
  have f48_S13 := hF15.2.1 48 (by decide)
  have f48a_S13 := Fr_fa hF15 48 (by decide)
  have f40_S13 := hF15.2.1 40 (by decide)
  have f40a_S13 := Fr_fa hF15 40 (by decide)
  have f41_S13 := hF15.2.1 41 (by decide)
  have f41a_S13 := Fr_fa hF15 41 (by decide)
  have f42_S13 := hF15.2.1 42 (by decide)
  have f42a_S13 := Fr_fa hF15 42 (by decide)
  have f44_S13 := hF15.2.1 44 (by decide)
  have f44a_S13 := Fr_fa hF15 44 (by decide)
  have f29_S13 := hF15.2.1 29 (by decide)
  have f29a_S13 := Fr_fa hF15 29 (by decide)
  have f27_S13 := hF15.2.1 27 (by decide)
  have f27a_S13 := Fr_fa hF15 27 (by decide)
  have f37_S13 := hF15.2.1 37 (by decide)
  have f37a_S13 := Fr_fa hF15 37 (by decide)
  have f38_S13 := hF15.2.1 38 (by decide)
  have f38a_S13 := Fr_fa hF15 38 (by decide)
  have g3_S13 := hF15.2.2 3 (by decide)
  have g3a_S13 := Fr_ga hF15 3 (by decide)
  have g4_S13 := hF15.2.2 4 (by decide)
  have g4a_S13 := Fr_ga hF15 4 (by decide)
  clear hF15
  have aS13 : AFv nx ((S.2.1 10) (ix (S.1 12))).toInt (S.1 9).toInt (S.1 10).toInt (-1) S13 := qS13.2.2 _ _ _ _ aS12 ⟨by decide, by decide, by decide⟩
  refine ⟨by (try clear hC hA hO hP hk tS0 nS2 oS2 aS2 uS2 oS3 aS3 uS3 cS3 dS4 tS4 nS4 mS4 oS4 aS4 uS4 cS4 nS5 oS5 aS5 uS5 cS5 dS6 oS6 aS6 uS6 cS6 dS7 mS7 oS7 aS7 uS7 cS7 dS8 tS8 nS8 oS8 aS8 dS9 tS9 nS9 oS9 aS9 dS10 tS10 nS10 mS10 oS10 aS10 qS11 tS11 dS11 nS11 aS11 dS12 tS12 nS12 oS12 aS12 qS13 tS13 dS13 nS13 aS13); (try clear j425); (try clear j394); (try clear j230); (try clear hr_block); (try clear hf_block); grind -mbtc (splits := 20) (gen := 30) (ematch := 15) [SI, PT, WB_ad2, WB_nt, WB_on, WB_fi, WB_nf, LA_n, LA_p, OR1, B01, PTc_up, ix_int, ix_1, XI, PI, PJ, BU, LV, LA_i, q_zz, q_za, q_zga, q_fza, q_fx, q_fga, q_gza, q_gfa, q_gx, q_zf1, q_zg1, q_ff, q_fg1, q_gf1, q_gg, ti_link, in1000], ?_⟩
  intro S14 eS14
  have dS14 : NP S13 S14 := NP_f eS14 (by decide)
  have tS14 : NT S13 S14 := NT_f eS14 (by decide)
  have nS14 : NC S13 S14 := NC_f eS14 (by decide)
  have oS14 : NO nx S13 S14 := NO_f eS14 (nH_t (by decide) (by (try clear hC hA hO hP hk tS0 nS2 oS2 aS2 uS2 oS3 aS3 uS3 cS3 dS4 tS4 nS4 mS4 oS4 aS4 uS4 cS4 nS5 oS5 aS5 uS5 cS5 dS6 oS6 aS6 uS6 cS6 dS7 mS7 oS7 aS7 uS7 cS7 dS8 tS8 nS8 oS8 aS8 dS9 tS9 nS9 oS9 aS9 dS10 tS10 nS10 mS10 oS10 aS10 qS11 tS11 dS11 nS11 aS11 dS12 tS12 nS12 oS12 aS12 qS13 tS13 dS13 nS13 aS13 dS14 tS14 nS14); (try clear j425); (try clear j394); (try clear j230); (try clear hr_block); (try clear hf_block); grind -mbtc (splits := 20) (gen := 30) (ematch := 15) [SI, PT, WB_ad2, WB_nt, WB_on, WB_fi, WB_nf, LA_n, LA_p, OR1, B01, PTc_up, ix_int, ix_1, XI, PI, PJ, BU, LV, LA_i, q_zz, q_za, q_zga, q_fza, q_fx, q_fga, q_gza, q_gfa, q_gx, q_zf1, q_zg1, q_ff, q_fg1, q_gf1, q_gg, ti_link, in1000]))
  have av14 : AFv nx ((S.2.1 10) (ix (S.1 12))).toInt (S.1 9).toInt (S.1 10).toInt (-1) S14 := AFv_f eS14 (Or.inl ⟨by unfold ix; omega, by decide⟩) aS13
  have uS14 : TM S S14 := by (try clear j425); (try clear j394); (try clear j230); (try clear hr_block); (try clear hf_block); grind (ematch := 12) (gen := 12) (splits := 15) [→ CF_nc, → CS_nc, → AF_na, → OH_no, → CS_step, → CS_CF, AF_nf, AQ_o, CS_nf, q_zz, q_za, q_zga, q_fza, q_fx, q_fga, q_gza, q_gfa, q_gx, q_zf1, q_zg1, q_ff, q_fg1, q_gf1, q_gg, AV_i, → CD_nc, CD_nf, ← CD_CS, → PD_np, → TM_nt, → TM_tr, ti_link]
  have cS14 : CS nx kL (S.1 9).toInt (S.1 10).toInt (S.1 13) S14 := by (try clear j425); (try clear j394); (try clear j230); (try clear hr_block); (try clear hf_block); grind (ematch := 12) (gen := 12) (splits := 15) [→ CF_nc, → CS_nc, → AF_na, → OH_no, → CS_step, → CS_CF, AF_nf, AQ_o, CS_nf, q_zz, q_za, q_zga, q_fza, q_fx, q_fga, q_gza, q_gfa, q_gx, q_zf1, q_zg1, q_ff, q_fg1, q_gf1, q_gg, AV_i, → CD_nc, CD_nf, ← CD_CS, → PD_np, → TM_nt, → TM_tr, ti_link]
  have oS14_ : OH nx S0 S14 := by (try clear j425); (try clear j394); (try clear j230); (try clear hr_block); (try clear hf_block); grind (ematch := 12) (gen := 12) (splits := 15) [→ CF_nc, → CS_nc, → AF_na, → OH_no, → CS_step, → CS_CF, AF_nf, AQ_o, CS_nf, q_zz, q_za, q_zga, q_fza, q_fx, q_fga, q_gza, q_gfa, q_gx, q_zf1, q_zg1, q_ff, q_fg1, q_gf1, q_gg, AV_i, → CD_nc, CD_nf, ← CD_CS, → PD_np, → TM_nt, → TM_tr, ti_link]
  have tf14 : TF nx S (S.1 9) S14 := ⟨by (try clear hC hA hO hP hk tS0 nS2 oS2 aS2 uS2 oS3 aS3 uS3 cS3 dS4 tS4 nS4 mS4 oS4 aS4 uS4 cS4 nS5 oS5 aS5 uS5 cS5 dS6 oS6 aS6 uS6 cS6 dS7 mS7 oS7 aS7 uS7 cS7 dS8 tS8 nS8 oS8 aS8 dS9 tS9 nS9 oS9 aS9 dS10 tS10 nS10 mS10 oS10 aS10 qS11 tS11 dS11 nS11 aS11 dS12 tS12 nS12 oS12 aS12 qS13 tS13 dS13 nS13 aS13 dS14 tS14 nS14 oS14 av14 uS14 cS14 oS14_); (try clear j425); (try clear j394); (try clear j230); (try clear hr_block); (try clear hf_block); grind -mbtc (splits := 20) (gen := 30) (ematch := 15) [SI, PT, WB_ad2, WB_nt, WB_on, WB_fi, WB_nf, LA_n, LA_p, OR1, B01, PTc_up, ix_int, ix_1, XI, PI, PJ, BU, LV, LA_i, q_zz, q_za, q_zga, q_fza, q_fx, q_fga, q_gza, q_gfa, q_gx, q_zf1, q_zg1, q_ff, q_fg1, q_gf1, q_gg, ti_link, in1000], fun x h8 h9 => (uS14.2.2.1 x h9).1, by (try clear hC hA hO hP hk tS0 nS2 oS2 aS2 uS2 oS3 aS3 uS3 cS3 dS4 tS4 nS4 mS4 oS4 aS4 uS4 cS4 nS5 oS5 aS5 uS5 cS5 dS6 oS6 aS6 uS6 cS6 dS7 mS7 oS7 aS7 uS7 cS7 dS8 tS8 nS8 oS8 aS8 dS9 tS9 nS9 oS9 aS9 dS10 tS10 nS10 mS10 oS10 aS10 qS11 tS11 dS11 nS11 aS11 dS12 tS12 nS12 oS12 aS12 qS13 tS13 dS13 nS13 aS13 dS14 tS14 nS14 oS14 av14 uS14 cS14 oS14_); (try clear j425); (try clear j394); (try clear j230); (try clear hr_block); (try clear hf_block); grind -mbtc (splits := 20) (gen := 30) (ematch := 15) [SI, PT, WB_ad2, WB_nt, WB_on, WB_fi, WB_nf, LA_n, LA_p, OR1, B01, PTc_up, ix_int, ix_1, XI, PI, PJ, BU, LV, LA_i, q_zz, q_za, q_zga, q_fza, q_fx, q_fga, q_gza, q_gfa, q_gx, q_zf1, q_zg1, q_ff, q_fg1, q_gf1, q_gg, ti_link, in1000], uS14.2.1, fun w hw9 => uS14.2.2.2 w hw9, by (try clear hC hA hO hP hk tS0 nS2 oS2 aS2 uS2 oS3 aS3 uS3 cS3 dS4 tS4 nS4 mS4 oS4 aS4 uS4 cS4 nS5 oS5 aS5 uS5 cS5 dS6 oS6 aS6 uS6 cS6 dS7 mS7 oS7 aS7 uS7 cS7 dS8 tS8 nS8 oS8 aS8 dS9 tS9 nS9 oS9 aS9 dS10 tS10 nS10 mS10 oS10 aS10 qS11 tS11 dS11 nS11 aS11 dS12 tS12 nS12 oS12 aS12 qS13 tS13 dS13 nS13 aS13 dS14 tS14 nS14 oS14 av14 uS14 cS14 oS14_); (try clear j425); (try clear j394); (try clear j230); (try clear hr_block); (try clear hf_block); grind -mbtc (splits := 20) (gen := 30) (ematch := 15) [SI, PT, WB_ad2, WB_nt, WB_on, WB_fi, WB_nf, LA_n, LA_p, OR1, B01, PTc_up, ix_int, ix_1, XI, PI, PJ, BU, LV, LA_i, q_zz, q_za, q_zga, q_fza, q_fx, q_fga, q_gza, q_gfa, q_gx, q_zf1, q_zg1, q_ff, q_fg1, q_gf1, q_gg, ti_link, in1000], by (try clear hC hA hO hP hk tS0 nS2 oS2 aS2 uS2 oS3 aS3 uS3 cS3 dS4 tS4 nS4 mS4 oS4 aS4 uS4 cS4 nS5 oS5 aS5 uS5 cS5 dS6 oS6 aS6 uS6 cS6 dS7 mS7 oS7 aS7 uS7 cS7 dS8 tS8 nS8 oS8 aS8 dS9 tS9 nS9 oS9 aS9 dS10 tS10 nS10 mS10 oS10 aS10 qS11 tS11 dS11 nS11 aS11 dS12 tS12 nS12 oS12 aS12 qS13 tS13 dS13 nS13 aS13 dS14 tS14 nS14 oS14 av14 uS14 cS14 oS14_); (try clear j425); (try clear j394); (try clear j230); (try clear hr_block); (try clear hf_block); grind -mbtc (splits := 20) (gen := 30) (ematch := 15) [SI, PT, WB_ad2, WB_nt, WB_on, WB_fi, WB_nf, LA_n, LA_p, OR1, B01, PTc_up, ix_int, ix_1, XI, PI, PJ, BU, LV, LA_i, q_zz, q_za, q_zga, q_fza, q_fx, q_fga, q_gza, q_gfa, q_gx, q_zf1, q_zg1, q_ff, q_fg1, q_gf1, q_gg, ti_link, in1000], by (try clear hC hA hO hP hk tS0 nS2 oS2 aS2 uS2 oS3 aS3 uS3 cS3 dS4 tS4 nS4 mS4 oS4 aS4 uS4 cS4 nS5 oS5 aS5 uS5 cS5 dS6 oS6 aS6 uS6 cS6 dS7 mS7 oS7 aS7 uS7 cS7 dS8 tS8 nS8 oS8 aS8 dS9 tS9 nS9 oS9 aS9 dS10 tS10 nS10 mS10 oS10 aS10 qS11 tS11 dS11 nS11 aS11 dS12 tS12 nS12 oS12 aS12 qS13 tS13 dS13 nS13 aS13 dS14 tS14 nS14 oS14 av14 uS14 cS14 oS14_); (try clear j425); (try clear j394); (try clear j230); (try clear hr_block); (try clear hf_block); grind -mbtc (splits := 20) (gen := 30) (ematch := 15) [SI, PT, WB_ad2, WB_nt, WB_on, WB_fi, WB_nf, LA_n, LA_p, OR1, B01, PTc_up, ix_int, ix_1, XI, PI, PJ, BU, LV, LA_i, q_zz, q_za, q_zga, q_fza, q_fx, q_fga, q_gza, q_gfa, q_gx, q_zf1, q_zg1, q_ff, q_fg1, q_gf1, q_gg, ti_link, in1000]⟩
  have aS14 : AF nx ((S.2.1 10) (ix (S.1 12))).toInt S14 := AF_o (AFv_nt (w := S.1 9) rfl (by (try clear hC hA hO hP hk tS0 nS2 oS2 aS2 uS2 oS3 aS3 uS3 cS3 dS4 tS4 nS4 mS4 oS4 aS4 uS4 cS4 nS5 oS5 aS5 uS5 cS5 dS6 oS6 aS6 uS6 cS6 dS7 mS7 oS7 aS7 uS7 cS7 dS8 tS8 nS8 oS8 aS8 dS9 tS9 nS9 oS9 aS9 dS10 tS10 nS10 mS10 oS10 aS10 qS11 tS11 dS11 nS11 aS11 dS12 tS12 nS12 oS12 aS12 qS13 tS13 dS13 nS13 aS13 dS14 tS14 nS14 oS14 av14 uS14 cS14 oS14_ tf14); (try clear j425); (try clear j394); (try clear j230); (try clear hr_block); (try clear hf_block); grind -mbtc (splits := 20) (gen := 30) (ematch := 15) [SI, PT, WB_ad2, WB_nt, WB_on, WB_fi, WB_nf, LA_n, LA_p, OR1, B01, PTc_up, ix_int, ix_1, XI, PI, PJ, BU, LV, LA_i, q_zz, q_za, q_zga, q_fza, q_fx, q_fga, q_gza, q_gfa, q_gx, q_zf1, q_zg1, q_ff, q_fg1, q_gf1, q_gg, ti_link, in1000]) (fun _ => AT2_new (S := S) tf14.1 ⟨by (try clear hC hA hO hP hk tS0 nS2 oS2 aS2 uS2 oS3 aS3 uS3 cS3 dS4 tS4 nS4 mS4 oS4 aS4 uS4 cS4 nS5 oS5 aS5 uS5 cS5 dS6 oS6 aS6 uS6 cS6 dS7 mS7 oS7 aS7 uS7 cS7 dS8 tS8 nS8 oS8 aS8 dS9 tS9 nS9 oS9 aS9 dS10 tS10 nS10 mS10 oS10 aS10 qS11 tS11 dS11 nS11 aS11 dS12 tS12 nS12 oS12 aS12 qS13 tS13 dS13 nS13 aS13 dS14 tS14 nS14 oS14 av14 uS14 cS14 oS14_ tf14); (try clear j425); (try clear j394); (try clear j230); (try clear hr_block); (try clear hf_block); grind -mbtc (splits := 20) (gen := 30) (ematch := 15) [SI, PT, WB_ad2, WB_nt, WB_on, WB_fi, WB_nf, LA_n, LA_p, OR1, B01, PTc_up, ix_int, ix_1, XI, PI, PJ, BU, LV, LA_i, q_zz, q_za, q_zga, q_fza, q_fx, q_fga, q_gza, q_gfa, q_gx, q_zf1, q_zg1, q_ff, q_fg1, q_gf1, q_gg, ti_link, in1000], by (try clear hC hA hO hP hk tS0 nS2 oS2 aS2 uS2 oS3 aS3 uS3 cS3 dS4 tS4 nS4 mS4 oS4 aS4 uS4 cS4 nS5 oS5 aS5 uS5 cS5 dS6 oS6 aS6 uS6 cS6 dS7 mS7 oS7 aS7 uS7 cS7 dS8 tS8 nS8 oS8 aS8 dS9 tS9 nS9 oS9 aS9 dS10 tS10 nS10 mS10 oS10 aS10 qS11 tS11 dS11 nS11 aS11 dS12 tS12 nS12 oS12 aS12 qS13 tS13 dS13 nS13 aS13 dS14 tS14 nS14 oS14 av14 uS14 cS14 oS14_ tf14); (try clear j425); (try clear j394); (try clear j230); (try clear hr_block); (try clear hf_block); grind -mbtc (splits := 20) (gen := 30) (ematch := 15) [SI, PT, WB_ad2, WB_nt, WB_on, WB_fi, WB_nf, LA_n, LA_p, OR1, B01, PTc_up, ix_int, ix_1, XI, PI, PJ, BU, LV, LA_i, q_zz, q_za, q_zga, q_fza, q_fx, q_fga, q_gza, q_gfa, q_gx, q_zf1, q_zg1, q_ff, q_fg1, q_gf1, q_gg, ti_link, in1000]⟩ ⟨by (try clear hC hA hO hP hk tS0 nS2 oS2 aS2 uS2 oS3 aS3 uS3 cS3 dS4 tS4 nS4 mS4 oS4 aS4 uS4 cS4 nS5 oS5 aS5 uS5 cS5 dS6 oS6 aS6 uS6 cS6 dS7 mS7 oS7 aS7 uS7 cS7 dS8 tS8 nS8 oS8 aS8 dS9 tS9 nS9 oS9 aS9 dS10 tS10 nS10 mS10 oS10 aS10 qS11 tS11 dS11 nS11 aS11 dS12 tS12 nS12 oS12 aS12 qS13 tS13 dS13 nS13 aS13 dS14 tS14 nS14 oS14 av14 uS14 cS14 oS14_ tf14); (try clear j425); (try clear j394); (try clear j230); (try clear hr_block); (try clear hf_block); grind -mbtc (splits := 20) (gen := 30) (ematch := 15) [SI, PT, WB_ad2, WB_nt, WB_on, WB_fi, WB_nf, LA_n, LA_p, OR1, B01, PTc_up, ix_int, ix_1, XI, PI, PJ, BU, LV, LA_i, q_zz, q_za, q_zga, q_fza, q_fx, q_fga, q_gza, q_gfa, q_gx, q_zf1, q_zg1, q_ff, q_fg1, q_gf1, q_gg, ti_link, in1000], by (try clear hC hA hO hP hk tS0 nS2 oS2 aS2 uS2 oS3 aS3 uS3 cS3 dS4 tS4 nS4 mS4 oS4 aS4 uS4 cS4 nS5 oS5 aS5 uS5 cS5 dS6 oS6 aS6 uS6 cS6 dS7 mS7 oS7 aS7 uS7 cS7 dS8 tS8 nS8 oS8 aS8 dS9 tS9 nS9 oS9 aS9 dS10 tS10 nS10 mS10 oS10 aS10 qS11 tS11 dS11 nS11 aS11 dS12 tS12 nS12 oS12 aS12 qS13 tS13 dS13 nS13 aS13 dS14 tS14 nS14 oS14 av14 uS14 cS14 oS14_ tf14); (try clear j425); (try clear j394); (try clear j230); (try clear hr_block); (try clear hf_block); grind -mbtc (splits := 20) (gen := 30) (ematch := 15) [SI, PT, WB_ad2, WB_nt, WB_on, WB_fi, WB_nf, LA_n, LA_p, OR1, B01, PTc_up, ix_int, ix_1, XI, PI, PJ, BU, LV, LA_i, q_zz, q_za, q_zga, q_fza, q_fx, q_fga, q_gza, q_gfa, q_gx, q_zf1, q_zg1, q_ff, q_fg1, q_gf1, q_gg, ti_link, in1000]⟩ (by (try clear hC hA hO hP hk tS0 nS2 oS2 aS2 uS2 oS3 aS3 uS3 cS3 dS4 tS4 nS4 mS4 oS4 aS4 uS4 cS4 nS5 oS5 aS5 uS5 cS5 dS6 oS6 aS6 uS6 cS6 dS7 mS7 oS7 aS7 uS7 cS7 dS8 tS8 nS8 oS8 aS8 dS9 tS9 nS9 oS9 aS9 dS10 tS10 nS10 mS10 oS10 aS10 qS11 tS11 dS11 nS11 aS11 dS12 tS12 nS12 oS12 aS12 qS13 tS13 dS13 nS13 aS13 dS14 tS14 nS14 oS14 av14 uS14 cS14 oS14_ tf14); (try clear j425); (try clear j394); (try clear j230); (try clear hr_block); (try clear hf_block); grind -mbtc (splits := 20) (gen := 30) (ematch := 15) [SI, PT, WB_ad2, WB_nt, WB_on, WB_fi, WB_nf, LA_n, LA_p, OR1, B01, PTc_up, ix_int, ix_1, XI, PI, PJ, BU, LV, LA_i, q_zz, q_za, q_zga, q_fza, q_fx, q_fga, q_gza, q_gfa, q_gx, q_zf1, q_zg1, q_ff, q_fg1, q_gf1, q_gg, ti_link, in1000]) (by (try clear hC hA hO hP hk tS0 nS2 oS2 aS2 uS2 oS3 aS3 uS3 cS3 dS4 tS4 nS4 mS4 oS4 aS4 uS4 cS4 nS5 oS5 aS5 uS5 cS5 dS6 oS6 aS6 uS6 cS6 dS7 mS7 oS7 aS7 uS7 cS7 dS8 tS8 nS8 oS8 aS8 dS9 tS9 nS9 oS9 aS9 dS10 tS10 nS10 mS10 oS10 aS10 qS11 tS11 dS11 nS11 aS11 dS12 tS12 nS12 oS12 aS12 qS13 tS13 dS13 nS13 aS13 dS14 tS14 nS14 oS14 av14 uS14 cS14 oS14_ tf14); (try clear j425); (try clear j394); (try clear j230); (try clear hr_block); (try clear hf_block); grind -mbtc (splits := 20) (gen := 30) (ematch := 15) [SI, PT, WB_ad2, WB_nt, WB_on, WB_fi, WB_nf, LA_n, LA_p, OR1, B01, PTc_up, ix_int, ix_1, XI, PI, PJ, BU, LV, LA_i, q_zz, q_za, q_zga, q_fza, q_fx, q_fga, q_gza, q_gfa, q_gx, q_zf1, q_zg1, q_ff, q_fg1, q_gf1, q_gg, ti_link, in1000]) (by (try clear hC hA hO hP hk tS0 nS2 oS2 aS2 uS2 oS3 aS3 uS3 cS3 dS4 tS4 nS4 mS4 oS4 aS4 uS4 cS4 nS5 oS5 aS5 uS5 cS5 dS6 oS6 aS6 uS6 cS6 dS7 mS7 oS7 aS7 uS7 cS7 dS8 tS8 nS8 oS8 aS8 dS9 tS9 nS9 oS9 aS9 dS10 tS10 nS10 mS10 oS10 aS10 qS11 tS11 dS11 nS11 aS11 dS12 tS12 nS12 oS12 aS12 qS13 tS13 dS13 nS13 aS13 dS14 tS14 nS14 oS14 av14 uS14 cS14 oS14_ tf14); (try clear j425); (try clear j394); (try clear j230); (try clear hr_block); (try clear hf_block); grind -mbtc (splits := 20) (gen := 30) (ematch := 15) [SI, PT, WB_ad2, WB_nt, WB_on, WB_fi, WB_nf, LA_n, LA_p, OR1, B01, PTc_up, ix_int, ix_1, XI, PI, PJ, BU, LV, LA_i, q_zz, q_za, q_zga, q_fza, q_fx, q_fga, q_gza, q_gfa, q_gx, q_zf1, q_zg1, q_ff, q_fg1, q_gf1, q_gg, ti_link, in1000]) tf14.2.2.1 (by (try clear hC hA hO hP hk tS0 nS2 oS2 aS2 uS2 oS3 aS3 uS3 cS3 dS4 tS4 nS4 mS4 oS4 aS4 uS4 cS4 nS5 oS5 aS5 uS5 cS5 dS6 oS6 aS6 uS6 cS6 dS7 mS7 oS7 aS7 uS7 cS7 dS8 tS8 nS8 oS8 aS8 dS9 tS9 nS9 oS9 aS9 dS10 tS10 nS10 mS10 oS10 aS10 qS11 tS11 dS11 nS11 aS11 dS12 tS12 nS12 oS12 aS12 qS13 tS13 dS13 nS13 aS13 dS14 tS14 nS14 oS14 av14 uS14 cS14 oS14_ tf14); (try clear j425); (try clear j394); (try clear j230); (try clear hr_block); (try clear hf_block); grind -mbtc (splits := 20) (gen := 30) (ematch := 15) [SI, PT, WB_ad2, WB_nt, WB_on, WB_fi, WB_nf, LA_n, LA_p, OR1, B01, PTc_up, ix_int, ix_1, XI, PI, PJ, BU, LV, LA_i, q_zz, q_za, q_zga, q_fza, q_fx, q_fga, q_gza, q_gfa, q_gx, q_zf1, q_zg1, q_ff, q_fg1, q_gf1, q_gg, ti_link, in1000]) (by (try clear hC hA hO hP hk tS0 nS2 oS2 aS2 uS2 oS3 aS3 uS3 cS3 dS4 tS4 nS4 mS4 oS4 aS4 uS4 cS4 nS5 oS5 aS5 uS5 cS5 dS6 oS6 aS6 uS6 cS6 dS7 mS7 oS7 aS7 uS7 cS7 dS8 tS8 nS8 oS8 aS8 dS9 tS9 nS9 oS9 aS9 dS10 tS10 nS10 mS10 oS10 aS10 qS11 tS11 dS11 nS11 aS11 dS12 tS12 nS12 oS12 aS12 qS13 tS13 dS13 nS13 aS13 dS14 tS14 nS14 oS14 av14 uS14 cS14 oS14_ tf14); (try clear j425); (try clear j394); (try clear j230); (try clear hr_block); (try clear hf_block); grind -mbtc (splits := 20) (gen := 30) (ematch := 15) [SI, PT, WB_ad2, WB_nt, WB_on, WB_fi, WB_nf, LA_n, LA_p, OR1, B01, PTc_up, ix_int, ix_1, XI, PI, PJ, BU, LV, LA_i, q_zz, q_za, q_zga, q_fza, q_fx, q_fga, q_gza, q_gfa, q_gx, q_zf1, q_zg1, q_ff, q_fg1, q_gf1, q_gg, ti_link, in1000]) (by have q9 := hA.1; have q8 : ((ix (S.1 9) : Nat) : Int) = (S.1 9).toInt := (by (try clear hC hA hO hP hk tS0 nS2 oS2 aS2 uS2 oS3 aS3 uS3 cS3 dS4 tS4 nS4 mS4 oS4 aS4 uS4 cS4 nS5 oS5 aS5 uS5 cS5 dS6 oS6 aS6 uS6 cS6 dS7 mS7 oS7 aS7 uS7 cS7 dS8 tS8 nS8 oS8 aS8 dS9 tS9 nS9 oS9 aS9 dS10 tS10 nS10 mS10 oS10 aS10 qS11 tS11 dS11 nS11 aS11 dS12 tS12 nS12 oS12 aS12 qS13 tS13 dS13 nS13 aS13 dS14 tS14 nS14 oS14 av14 uS14 cS14 oS14_ tf14); (try clear j425); (try clear j394); (try clear j230); (try clear hr_block); (try clear hf_block); grind -mbtc (splits := 20) (gen := 30) (ematch := 15) [SI, PT, WB_ad2, WB_nt, WB_on, WB_fi, WB_nf, LA_n, LA_p, OR1, B01, PTc_up, ix_int, ix_1, XI, PI, PJ, BU, LV, LA_i, q_zz, q_za, q_zga, q_fza, q_fx, q_fga, q_gza, q_gfa, q_gx, q_zf1, q_zg1, q_ff, q_fg1, q_gf1, q_gg, ti_link, in1000]); omega) (fun h9 => ⟨((hP hf).2.2.2.2 h9).1, ((hP hf).2.2.2.2 h9).2.1, ((hP hf).2.2.2.2 h9).2.2.2⟩)) av14) (by (try clear hC hA hO hP hk tS0 nS2 oS2 aS2 uS2 oS3 aS3 uS3 cS3 dS4 tS4 nS4 mS4 oS4 aS4 uS4 cS4 nS5 oS5 aS5 uS5 cS5 dS6 oS6 aS6 uS6 cS6 dS7 mS7 oS7 aS7 uS7 cS7 dS8 tS8 nS8 oS8 aS8 dS9 tS9 nS9 oS9 aS9 dS10 tS10 nS10 mS10 oS10 aS10 qS11 tS11 dS11 nS11 aS11 dS12 tS12 nS12 oS12 aS12 qS13 tS13 dS13 nS13 aS13 dS14 tS14 nS14 oS14 av14 uS14 cS14 oS14_ tf14); (try clear j425); (try clear j394); (try clear j230); (try clear hr_block); (try clear hf_block); grind -mbtc (splits := 20) (gen := 30) (ematch := 15) [SI, PT, WB_ad2, WB_nt, WB_on, WB_fi, WB_nf, LA_n, LA_p, OR1, B01, PTc_up, ix_int, ix_1, XI, PI, PJ, BU, LV, LA_i, q_zz, q_za, q_zga, q_fza, q_fx, q_fga, q_gza, q_gfa, q_gx, q_zf1, q_zg1, q_ff, q_fg1, q_gf1, q_gg, ti_link, in1000]) (by (try clear hC hA hO hP hk tS0 nS2 oS2 aS2 uS2 oS3 aS3 uS3 cS3 dS4 tS4 nS4 mS4 oS4 aS4 uS4 cS4 nS5 oS5 aS5 uS5 cS5 dS6 oS6 aS6 uS6 cS6 dS7 mS7 oS7 aS7 uS7 cS7 dS8 tS8 nS8 oS8 aS8 dS9 tS9 nS9 oS9 aS9 dS10 tS10 nS10 mS10 oS10 aS10 qS11 tS11 dS11 nS11 aS11 dS12 tS12 nS12 oS12 aS12 qS13 tS13 dS13 nS13 aS13 dS14 tS14 nS14 oS14 av14 uS14 cS14 oS14_ tf14); (try clear j425); (try clear j394); (try clear j230); (try clear hr_block); (try clear hf_block); grind -mbtc (splits := 20) (gen := 30) (ematch := 15) [SI, PT, WB_ad2, WB_nt, WB_on, WB_fi, WB_nf, LA_n, LA_p, OR1, B01, PTc_up, ix_int, ix_1, XI, PI, PJ, BU, LV, LA_i, q_zz, q_za, q_zga, q_fza, q_fx, q_fga, q_gza, q_gfa, q_gx, q_zf1, q_zg1, q_ff, q_fg1, q_gf1, q_gg, ti_link, in1000])
  have dp14 : dpt (S14.2.1 25) (ix (S.1 16)) (S.1 13) := dpt_up (AF_ch hA hf) tf14.2.1 (by omega) _ _ (by rcases (hP hf).2.2.2.1 with q | q <;> omega) (hP hf).2.2.1
  have pd10 : ix (S.1 16) ≤ 10 := by
        have q := (hP hf).2.1
        have q2 := hL.1
        unfold ix
        omega
  have cn14 : CS nx ((ix (S.1 9), 1, (0 : Int32)) :: (ix (S.1 9), 2, (0 : Int32)) :: (ix (S.1 9), 3, (0 : Int32)) :: kL) ((S.1 9).toInt + 1) (S.1 10).toInt (S.1 13) S14 := CS_nt rfl (by (try clear hC hA hO hP hk tS0 nS2 oS2 aS2 uS2 oS3 aS3 uS3 cS3 dS4 tS4 nS4 mS4 oS4 aS4 uS4 cS4 nS5 oS5 aS5 uS5 cS5 dS6 oS6 aS6 uS6 cS6 dS7 mS7 oS7 aS7 uS7 cS7 dS8 tS8 nS8 oS8 aS8 dS9 tS9 nS9 oS9 aS9 dS10 tS10 nS10 mS10 oS10 aS10 qS11 tS11 dS11 nS11 aS11 dS12 tS12 nS12 oS12 aS12 qS13 tS13 dS13 nS13 aS13 dS14 tS14 nS14 oS14 av14 uS14 cS14 oS14_ tf14 aS14 dp14 pd10); (try clear j425); (try clear j394); (try clear j230); (try clear hr_block); (try clear hf_block); grind -mbtc (splits := 20) (gen := 30) (ematch := 15) [SI, PT, WB_ad2, WB_nt, WB_on, WB_fi, WB_nf, LA_n, LA_p, OR1, B01, PTc_up, ix_int, ix_1, XI, PI, PJ, BU, LV, LA_i, q_zz, q_za, q_zga, q_fza, q_fx, q_fga, q_gza, q_gfa, q_gx, q_zf1, q_zg1, q_ff, q_fg1, q_gf1, q_gg, ti_link, in1000]) cS14
  refine fm_emit _ _ _ _ _ _ (fun S15 r15 hF16 pS15 => ?_) (sg_emit (nx := nx) _ _ _ (by (try clear hC hA hO hP hk tS0 nS2 oS2 aS2 uS2 oS3 aS3 uS3 cS3 dS4 tS4 nS4 mS4 oS4 aS4 uS4 cS4 nS5 oS5 aS5 uS5 cS5 dS6 oS6 aS6 uS6 cS6 dS7 mS7 oS7 aS7 uS7 cS7 dS8 tS8 nS8 oS8 aS8 dS9 tS9 nS9 oS9 aS9 dS10 tS10 nS10 mS10 oS10 aS10 qS11 tS11 dS11 nS11 aS11 dS12 tS12 nS12 oS12 aS12 qS13 tS13 dS13 nS13 aS13 dS14 tS14 nS14 oS14 av14 uS14 cS14 oS14_ tf14 aS14 dp14 pd10 cn14); (try clear j425); (try clear j394); (try clear j230); (try clear hr_block); (try clear hf_block); grind -mbtc (splits := 20) (gen := 30) (ematch := 15) [SI, PT, WB_ad2, WB_nt, WB_on, WB_fi, WB_nf, LA_n, LA_p, OR1, B01, PTc_up, ix_int, ix_1, XI, PI, PJ, BU, LV, LA_i, q_zz, q_za, q_zga, q_fza, q_fx, q_fga, q_gza, q_gfa, q_gx, q_zf1, q_zg1, q_ff, q_fg1, q_gf1, q_gg, ti_link, in1000]))
  obtain ⟨pS15, qS15⟩ := pS15
  have tS15 : NT S14 S15 := NT_fr hF16 (by decide) (by decide)
  have fS15 : S15.1 4 = 0 → S14.1 4 = 0 := fun q => (hF16.1 4 (by decide)).symm.trans q
  have dS15 : NP S14 S15 := NP_fr hF16 (by decide) (by decide) fS15
  have mS15 : NA S14 S15 := NA_fr hF16 (by decide) (by decide) fS15
  have z3_S15 := hF16.1 3 (by decide)
  have z4_S15 := hF16.1 4 (by decide)
  have z6_S15 := hF16.1 6 (by decide)
  have z8_S15 := hF16.1 8 (by decide)
  have z9_S15 := hF16.1 9 (by decide)
  have z10_S15 := hF16.1 10 (by decide)
  have z11_S15 := hF16.1 11 (by decide)
  have z12_S15 := hF16.1 12 (by decide)
  have z13_S15 := hF16.1 13 (by decide)
  have z15_S15 := hF16.1 15 (by decide)
  have z17_S15 := hF16.1 17 (by decide)
  have z18_S15 := hF16.1 18 (by decide)
  have z19_S15 := hF16.1 19 (by decide)
  have z20_S15 := hF16.1 20 (by decide)
  have z16_S15 := hF16.1 16 (by decide)
  have f1_S15 := hF16.2.1 1 (by decide)
  have f1a_S15 := Fr_fa hF16 1 (by decide)
  have f2_S15 := hF16.2.1 2 (by decide)
  have f2a_S15 := Fr_fa hF16 2 (by decide)
  have f8_S15 := hF16.2.1 8 (by decide)
  have f8a_S15 := Fr_fa hF16 8 (by decide)
  have f10_S15 := hF16.2.1 10 (by decide)
  have f10a_S15 := Fr_fa hF16 10 (by decide)
  have f25_S15 := hF16.2.1 25 (by decide)
  have f25a_S15 := Fr_fa hF16 25 (by decide)
  have f28_S15 := hF16.2.1 28 (by decide)
  have f28a_S15 := Fr_fa hF16 28 (by decide)
  have f35_S15 := hF16.2.1 35 (by decide)
  have f35a_S15 := Fr_fa hF16 35 (by decide)
  have f36_S15 := hF16.2.1 36 (by decide)
  have f36a_S15 := Fr_fa hF16 36 (by decide)
  have f45_S15 := hF16.2.1 45 (by decide)
  have f45a_S15 := Fr_fa hF16 45 (by decide)
  have f46_S15 := hF16.2.1 46 (by decide)
  have f46a_S15 := Fr_fa hF16 46 (by decide)
  have f48_S15 := hF16.2.1 48 (by decide)
  have f48a_S15 := Fr_fa hF16 48 (by decide)
  have f40_S15 := hF16.2.1 40 (by decide)
  have f40a_S15 := Fr_fa hF16 40 (by decide)
  have f41_S15 := hF16.2.1 41 (by decide)
  have f41a_S15 := Fr_fa hF16 41 (by decide)
  have f42_S15 := hF16.2.1 42 (by decide)
  have f42a_S15 := Fr_fa hF16 42 (by decide)
  have f44_S15 := hF16.2.1 44 (by decide)
  have f44a_S15 := Fr_fa hF16 44 (by decide)
  have f29_S15 := hF16.2.1 29 (by decide)
  have f29a_S15 := Fr_fa hF16 29 (by decide)
  have f27_S15 := hF16.2.1 27 (by decide)
  have f27a_S15 := Fr_fa hF16 27 (by decide)
  have f37_S15 := hF16.2.1 37 (by decide)
  have f37a_S15 := Fr_fa hF16 37 (by decide)
  have f38_S15 := hF16.2.1 38 (by decide)
  have f38a_S15 := Fr_fa hF16 38 (by decide)
  have g3_S15 := hF16.2.2 3 (by decide)
  have g3a_S15 := Fr_ga hF16 3 (by decide)
  have g4_S15 := hF16.2.2 4 (by decide)
  have g4a_S15 := Fr_ga hF16 4 (by decide)
  clear hF16
  have cS15 : CS nx ((ix (S.1 9), 1, (0 : Int32)) :: (ix (S.1 9), 2, (0 : Int32)) :: (ix (S.1 9), 3, (0 : Int32)) :: kL) ((S.1 9).toInt + 1) (S.1 10).toInt (S.1 9) S15 := CS_try qS15.1 cn14 ⟨by (try clear hC hA hO hP hk tS0 nS2 oS2 aS2 uS2 oS3 aS3 uS3 cS3 dS4 tS4 nS4 mS4 oS4 aS4 uS4 cS4 nS5 oS5 aS5 uS5 cS5 dS6 oS6 aS6 uS6 cS6 dS7 mS7 oS7 aS7 uS7 cS7 dS8 tS8 nS8 oS8 aS8 dS9 tS9 nS9 oS9 aS9 dS10 tS10 nS10 mS10 oS10 aS10 qS11 tS11 dS11 nS11 aS11 dS12 tS12 nS12 oS12 aS12 qS13 tS13 dS13 nS13 aS13 dS14 tS14 nS14 oS14 av14 uS14 cS14 oS14_ tf14 aS14 dp14 pd10 cn14 qS15 tS15 dS15 mS15); (try clear j425); (try clear j394); (try clear j230); (try clear hr_block); (try clear hf_block); grind -mbtc (splits := 20) (gen := 30) (ematch := 15) [SI, PT, WB_ad2, WB_nt, WB_on, WB_fi, WB_nf, LA_n, LA_p, OR1, B01, PTc_up, ix_int, ix_1, XI, PI, PJ, BU, LV, LA_i, q_zz, q_za, q_zga, q_fza, q_fx, q_fga, q_gza, q_gfa, q_gx, q_zf1, q_zg1, q_ff, q_fg1, q_gf1, q_gg, ti_link, in1000], by omega, tf14.1⟩ (fun _ => ⟨ix (S.1 16), pd10, dp14⟩)
  intro z16 ez16
  intro S17 eS17
  have tS17 : NT S15 S17 := NT_z eS17 (by decide)
  have nS17 : NC S15 S17 := NC_z eS17 (by decide)
  have mS17 : NA S15 S17 := NA_z eS17 (by decide)
  have oS17 : NO nx S15 S17 := NO_z eS17
  have tf17 : TF nx S (S.1 9) S17 := TF_tm (TF_tm tf14 tS15) tS17
  have pin17 : PD nx (kd + 1) (sZ (sZ S17 13 (S.1 9)) 14 0) := PD_in hA hf hP tf17 (by (try clear hC hA hO hP hk tS0 nS2 oS2 aS2 uS2 oS3 aS3 uS3 cS3 dS4 tS4 nS4 mS4 oS4 aS4 uS4 cS4 nS5 oS5 aS5 uS5 cS5 dS6 oS6 aS6 uS6 cS6 dS7 mS7 oS7 aS7 uS7 cS7 dS8 tS8 nS8 oS8 aS8 dS9 tS9 nS9 oS9 aS9 dS10 tS10 nS10 mS10 oS10 aS10 qS11 tS11 dS11 nS11 aS11 dS12 tS12 nS12 oS12 aS12 qS13 tS13 dS13 nS13 aS13 dS14 tS14 nS14 oS14 av14 uS14 cS14 oS14_ tf14 aS14 dp14 pd10 cn14 qS15 tS15 dS15 mS15 cS15 tS17 nS17 mS17 oS17 tf17); (try clear j425); (try clear j394); (try clear j230); (try clear hr_block); (try clear hf_block); grind -mbtc (splits := 20) (gen := 30) (ematch := 15) [SI, PT, WB_ad2, WB_nt, WB_on, WB_fi, WB_nf, LA_n, LA_p, OR1, B01, PTc_up, ix_int, ix_1, XI, PI, PJ, BU, LV, LA_i, q_zz, q_za, q_zga, q_fza, q_fx, q_fga, q_gza, q_gfa, q_gx, q_zf1, q_zg1, q_ff, q_fg1, q_gf1, q_gg, ti_link, in1000]) (by (try clear hC hA hO hP hk tS0 nS2 oS2 aS2 uS2 oS3 aS3 uS3 cS3 dS4 tS4 nS4 mS4 oS4 aS4 uS4 cS4 nS5 oS5 aS5 uS5 cS5 dS6 oS6 aS6 uS6 cS6 dS7 mS7 oS7 aS7 uS7 cS7 dS8 tS8 nS8 oS8 aS8 dS9 tS9 nS9 oS9 aS9 dS10 tS10 nS10 mS10 oS10 aS10 qS11 tS11 dS11 nS11 aS11 dS12 tS12 nS12 oS12 aS12 qS13 tS13 dS13 nS13 aS13 dS14 tS14 nS14 oS14 av14 uS14 cS14 oS14_ tf14 aS14 dp14 pd10 cn14 qS15 tS15 dS15 mS15 cS15 tS17 nS17 mS17 oS17 tf17); (try clear j425); (try clear j394); (try clear j230); (try clear hr_block); (try clear hf_block); grind -mbtc (splits := 20) (gen := 30) (ematch := 15) [SI, PT, WB_ad2, WB_nt, WB_on, WB_fi, WB_nf, LA_n, LA_p, OR1, B01, PTc_up, ix_int, ix_1, XI, PI, PJ, BU, LV, LA_i, q_zz, q_za, q_zga, q_fza, q_fx, q_fga, q_gza, q_gfa, q_gx, q_zf1, q_zg1, q_ff, q_fg1, q_gf1, q_gg, ti_link, in1000])
  have e17 : (S17.1 9).toInt = (S.1 9).toInt + 1 := by (try clear hC hA hO hP hk tS0 nS2 oS2 aS2 uS2 oS3 aS3 uS3 cS3 dS4 tS4 nS4 mS4 oS4 aS4 uS4 cS4 nS5 oS5 aS5 uS5 cS5 dS6 oS6 aS6 uS6 cS6 dS7 mS7 oS7 aS7 uS7 cS7 dS8 tS8 nS8 oS8 aS8 dS9 tS9 nS9 oS9 aS9 dS10 tS10 nS10 mS10 oS10 aS10 qS11 tS11 dS11 nS11 aS11 dS12 tS12 nS12 oS12 aS12 qS13 tS13 dS13 nS13 aS13 dS14 tS14 nS14 oS14 av14 uS14 cS14 oS14_ tf14 aS14 dp14 pd10 cn14 qS15 tS15 dS15 mS15 cS15 tS17 nS17 mS17 oS17 tf17 pin17); (try clear j425); (try clear j394); (try clear j230); (try clear hr_block); (try clear hf_block); grind -mbtc (splits := 20) (gen := 30) (ematch := 15) [SI, PT, WB_ad2, WB_nt, WB_on, WB_fi, WB_nf, LA_n, LA_p, OR1, B01, PTc_up, ix_int, ix_1, XI, PI, PJ, BU, LV, LA_i, q_zz, q_za, q_zga, q_fza, q_fx, q_fga, q_gza, q_gfa, q_gx, q_zf1, q_zg1, q_ff, q_fg1, q_gf1, q_gg, ti_link, in1000]
  have g17 : (S17.1 10).toInt = (S.1 10).toInt := by (try clear hC hA hO hP hk tS0 nS2 oS2 aS2 uS2 oS3 aS3 uS3 cS3 dS4 tS4 nS4 mS4 oS4 aS4 uS4 cS4 nS5 oS5 aS5 uS5 cS5 dS6 oS6 aS6 uS6 cS6 dS7 mS7 oS7 aS7 uS7 cS7 dS8 tS8 nS8 oS8 aS8 dS9 tS9 nS9 oS9 aS9 dS10 tS10 nS10 mS10 oS10 aS10 qS11 tS11 dS11 nS11 aS11 dS12 tS12 nS12 oS12 aS12 qS13 tS13 dS13 nS13 aS13 dS14 tS14 nS14 oS14 av14 uS14 cS14 oS14_ tf14 aS14 dp14 pd10 cn14 qS15 tS15 dS15 mS15 cS15 tS17 nS17 mS17 oS17 tf17 pin17 e17); (try clear j425); (try clear j394); (try clear j230); (try clear hr_block); (try clear hf_block); grind -mbtc (splits := 20) (gen := 30) (ematch := 15) [SI, PT, WB_ad2, WB_nt, WB_on, WB_fi, WB_nf, LA_n, LA_p, OR1, B01, PTc_up, ix_int, ix_1, XI, PI, PJ, BU, LV, LA_i, q_zz, q_za, q_zga, q_fza, q_fx, q_fga, q_gza, q_gfa, q_gx, q_zf1, q_zg1, q_ff, q_fg1, q_gf1, q_gg, ti_link, in1000]
  have cS17 : CS nx ((ix (S.1 9), 1, (0 : Int32)) :: (ix (S.1 9), 2, (0 : Int32)) :: (ix (S.1 9), 3, (0 : Int32)) :: kL) (S17.1 9).toInt (S17.1 10).toInt (S.1 9) S17 := by
        rw [e17, g17]
        exact CS_nc nS17 cS15
  have on17 : (S17.2.1 28) (ix (S.1 9)) = 0 := by (try clear hC hA hO hP hk tS0 nS2 oS2 aS2 uS2 oS3 aS3 uS3 cS3 dS4 tS4 nS4 mS4 oS4 aS4 uS4 cS4 nS5 oS5 aS5 uS5 cS5 dS6 oS6 aS6 uS6 cS6 dS7 mS7 oS7 aS7 uS7 cS7 dS8 tS8 nS8 oS8 aS8 dS9 tS9 nS9 oS9 aS9 dS10 tS10 nS10 mS10 oS10 aS10 qS11 tS11 dS11 nS11 aS11 dS12 tS12 nS12 oS12 aS12 qS13 tS13 dS13 nS13 aS13 dS14 tS14 nS14 oS14 av14 uS14 cS14 oS14_ tf14 aS14 dp14 pd10 cn14 qS15 tS15 dS15 mS15 cS15 tS17 nS17 mS17 oS17 tf17 pin17 e17 g17 cS17); (try clear j425); (try clear j394); (try clear j230); (try clear hr_block); (try clear hf_block); grind -mbtc (splits := 20) (gen := 30) (ematch := 15) [SI, PT, WB_ad2, WB_nt, WB_on, WB_fi, WB_nf, LA_n, LA_p, OR1, B01, PTc_up, ix_int, ix_1, XI, PI, PJ, BU, LV, LA_i, q_zz, q_za, q_zga, q_fza, q_fx, q_fga, q_gza, q_gfa, q_gx, q_zf1, q_zg1, q_ff, q_fg1, q_gf1, q_gg, ti_link, in1000]
  have fi17 : (S17.2.1 29) (ix (S.1 9)) = 0 := by (try clear hC hA hO hP hk tS0 nS2 oS2 aS2 uS2 oS3 aS3 uS3 cS3 dS4 tS4 nS4 mS4 oS4 aS4 uS4 cS4 nS5 oS5 aS5 uS5 cS5 dS6 oS6 aS6 uS6 cS6 dS7 mS7 oS7 aS7 uS7 cS7 dS8 tS8 nS8 oS8 aS8 dS9 tS9 nS9 oS9 aS9 dS10 tS10 nS10 mS10 oS10 aS10 qS11 tS11 dS11 nS11 aS11 dS12 tS12 nS12 oS12 aS12 qS13 tS13 dS13 nS13 aS13 dS14 tS14 nS14 oS14 av14 uS14 cS14 oS14_ tf14 aS14 dp14 pd10 cn14 qS15 tS15 dS15 mS15 cS15 tS17 nS17 mS17 oS17 tf17 pin17 e17 g17 cS17 on17); (try clear j425); (try clear j394); (try clear j230); (try clear hr_block); (try clear hf_block); grind -mbtc (splits := 20) (gen := 30) (ematch := 15) [SI, PT, WB_ad2, WB_nt, WB_on, WB_fi, WB_nf, LA_n, LA_p, OR1, B01, PTc_up, ix_int, ix_1, XI, PI, PJ, BU, LV, LA_i, q_zz, q_za, q_zga, q_fza, q_fx, q_fga, q_gza, q_gfa, q_gx, q_zf1, q_zg1, q_ff, q_fg1, q_gf1, q_gg, ti_link, in1000]
  have aS17 : AF nx ((S.2.1 10) (ix (S.1 12))).toInt S17 := by (try clear j425); (try clear j394); (try clear j230); (try clear hr_block); (try clear hf_block); grind (ematch := 12) (gen := 12) (splits := 15) [→ CF_nc, → CS_nc, → AF_na, → OH_no, → CS_step, → CS_CF, AF_nf, AQ_o, CS_nf, q_zz, q_za, q_zga, q_fza, q_fx, q_fga, q_gza, q_gfa, q_gx, q_zf1, q_zg1, q_ff, q_fg1, q_gf1, q_gg, AV_i, → CD_nc, CD_nf, ← CD_CS, → PD_np, → TM_nt, → TM_tr, ti_link]
  have uS17 : TM S S17 := by (try clear j425); (try clear j394); (try clear j230); (try clear hr_block); (try clear hf_block); grind (ematch := 12) (gen := 12) (splits := 15) [→ CF_nc, → CS_nc, → AF_na, → OH_no, → CS_step, → CS_CF, AF_nf, AQ_o, CS_nf, q_zz, q_za, q_zga, q_fza, q_fx, q_fga, q_gza, q_gfa, q_gx, q_zf1, q_zg1, q_ff, q_fg1, q_gf1, q_gg, AV_i, → CD_nc, CD_nf, ← CD_CS, → PD_np, → TM_nt, → TM_tr, ti_link]
  have oS17_ : OH nx S0 S17 := by (try clear j425); (try clear j394); (try clear j230); (try clear hr_block); (try clear hf_block); grind (ematch := 12) (gen := 12) (splits := 15) [→ CF_nc, → CS_nc, → AF_na, → OH_no, → CS_step, → CS_CF, AF_nf, AQ_o, CS_nf, q_zz, q_za, q_zga, q_fza, q_fx, q_fga, q_gza, q_gfa, q_gx, q_zf1, q_zg1, q_ff, q_fg1, q_gf1, q_gg, AV_i, → CD_nc, CD_nf, ← CD_CS, → PD_np, → TM_nt, → TM_tr, ti_link]
  have hs17 : SI nx n so pl wo ws S0 d (G + 2) (GA + 2) (X + 2) (Y + 2) GW (GT + 9) S17 ∧ ((S17.1 4) = 0 → (S.1 3).toInt ≤ (S17.1 3).toInt) ∧ (S.1 8).toInt ≤ (S17.1 8).toInt ∧ (S.1 10).toInt ≤ (S17.1 10).toInt ∧ (S.1 9).toInt < (S17.1 9).toInt ∧ 500 * nx ≤ (S.1 9).toInt ∧ (S17.1 13) = (S.1 13) ∧ (S17.1 15) = (S.1 15) ∧ (S17.1 16) = (S.1 16) + 1 ∧ (S17.2.1 10) (ix (S17.1 12)) = (S.2.1 10) (ix (S.1 12)) := by (try clear hC hA hO hP hk tS0 nS2 oS2 aS2 uS2 oS3 aS3 uS3 cS3 dS4 tS4 nS4 mS4 oS4 aS4 uS4 cS4 nS5 oS5 aS5 uS5 cS5 dS6 oS6 aS6 uS6 cS6 dS7 mS7 oS7 aS7 uS7 cS7 dS8 tS8 nS8 oS8 aS8 dS9 tS9 nS9 oS9 aS9 dS10 tS10 nS10 mS10 oS10 aS10 qS11 tS11 dS11 nS11 aS11 dS12 tS12 nS12 oS12 aS12 qS13 tS13 dS13 nS13 aS13 dS14 tS14 nS14 oS14 av14 uS14 cS14 oS14_ tf14 aS14 dp14 pd10 cn14 qS15 tS15 dS15 mS15 cS15 tS17 nS17 mS17 oS17 tf17 pin17 e17 g17 cS17 on17 fi17 aS17 uS17 oS17_); (try clear j425); (try clear j394); (try clear j230); (try clear hr_block); (try clear hf_block); grind -mbtc (splits := 20) (gen := 30) (ematch := 15) [SI, PT, WB_ad2, WB_nt, WB_on, WB_fi, WB_nf, LA_n, LA_p, OR1, B01, PTc_up, ix_int, ix_1, XI, PI, PJ, BU, LV, LA_i, q_zz, q_za, q_zga, q_fza, q_fx, q_fga, q_gza, q_gfa, q_gx, q_zf1, q_zg1, q_ff, q_fg1, q_gf1, q_gg, ti_link, in1000]
  (try clear eS17); (try clear ez16); (try clear fS15); (try clear eS14); (try clear fS13); (try clear eS12); (try clear fS11); (try clear eS10); (try clear eS9); (try clear eS8); (try clear eS7); (try clear eS6); (try clear eS5); (try clear eS4); (try clear eS3); (try clear eS2); (try clear ez1); (try clear g17); (try clear e17); (try clear oS17); (try clear mS17); (try clear nS17); (try clear tS17); (try clear cS15); (try clear mS15); (try clear dS15); (try clear tS15); (try clear qS15); (try clear cn14); (try clear pd10); (try clear dp14); (try clear aS14); (try clear tf14); (try clear oS14_); (try clear cS14); (try clear uS14); (try clear av14); (try clear oS14); (try clear nS14); (try clear tS14); (try clear dS14); (try clear aS13); (try clear nS13); (try clear dS13); (try clear tS13); (try clear qS13); (try clear aS12); (try clear oS12); (try clear nS12); (try clear tS12); (try clear dS12); (try clear aS11); (try clear nS11); (try clear dS11); (try clear tS11); (try clear qS11); (try clear aS10); (try clear oS10); (try clear mS10); (try clear nS10); (try clear tS10); (try clear dS10); (try clear aS9); (try clear oS9); (try clear nS9); (try clear tS9); (try clear dS9); (try clear aS8); (try clear oS8); (try clear nS8); (try clear tS8); (try clear dS8); (try clear cS7); (try clear uS7); (try clear aS7); (try clear oS7); (try clear mS7); (try clear dS7); (try clear cS6); (try clear uS6); (try clear aS6); (try clear oS6); (try clear dS6); (try clear cS5); (try clear uS5); (try clear aS5); (try clear oS5); (try clear nS5); (try clear cS4); (try clear uS4); (try clear aS4); (try clear oS4); (try clear mS4); (try clear nS4); (try clear tS4); (try clear dS4); (try clear cS3); (try clear uS3); (try clear aS3); (try clear oS3); (try clear uS2); (try clear aS2); (try clear oS2); (try clear nS2); (try clear g4a_S15); (try clear g4_S15); (try clear g3a_S15); (try clear g3_S15); (try clear f38a_S15); (try clear f38_S15); (try clear f37a_S15); (try clear f37_S15); (try clear f27a_S15); (try clear f27_S15); (try clear f29a_S15); (try clear f29_S15); (try clear f44a_S15); (try clear f44_S15); (try clear f42a_S15); (try clear f42_S15); (try clear f41a_S15); (try clear f41_S15); (try clear f40a_S15); (try clear f40_S15); (try clear f48a_S15); (try clear f48_S15); (try clear f46a_S15); (try clear f46_S15); (try clear f45a_S15); (try clear f45_S15); (try clear f36a_S15); (try clear f36_S15); (try clear f35a_S15); (try clear f35_S15); (try clear f28a_S15); (try clear f28_S15); (try clear f25a_S15); (try clear f25_S15); (try clear f10a_S15); (try clear f10_S15); (try clear f8a_S15); (try clear f8_S15); (try clear f2a_S15); (try clear f2_S15); (try clear f1a_S15); (try clear f1_S15); (try clear z16_S15); (try clear z20_S15); (try clear z19_S15); (try clear z18_S15); (try clear z17_S15); (try clear z15_S15); (try clear z13_S15); (try clear z12_S15); (try clear z11_S15); (try clear z10_S15); (try clear z9_S15); (try clear z8_S15); (try clear z6_S15); (try clear z4_S15); (try clear z3_S15); (try clear pS15); (try clear g4a_S13); (try clear g4_S13); (try clear g3a_S13); (try clear g3_S13); (try clear f38a_S13); (try clear f38_S13); (try clear f37a_S13); (try clear f37_S13); (try clear f27a_S13); (try clear f27_S13); (try clear f29a_S13); (try clear f29_S13); (try clear f44a_S13); (try clear f44_S13); (try clear f42a_S13); (try clear f42_S13); (try clear f41a_S13); (try clear f41_S13); (try clear f40a_S13); (try clear f40_S13); (try clear f48a_S13); (try clear f48_S13); (try clear f46a_S13); (try clear f46_S13); (try clear f45a_S13); (try clear f45_S13); (try clear f36a_S13); (try clear f36_S13); (try clear f35a_S13); (try clear f35_S13); (try clear f28a_S13); (try clear f28_S13); (try clear f25a_S13); (try clear f25_S13); (try clear f10a_S13); (try clear f10_S13); (try clear f8a_S13); (try clear f8_S13); (try clear f2a_S13); (try clear f2_S13); (try clear f1a_S13); (try clear f1_S13); (try clear z16_S13); (try clear z20_S13); (try clear z19_S13); (try clear z18_S13); (try clear z17_S13); (try clear z15_S13); (try clear z13_S13); (try clear z12_S13); (try clear z11_S13); (try clear z10_S13); (try clear z9_S13); (try clear z7_S13); (try clear z6_S13); (try clear z4_S13); (try clear z3_S13); (try clear pS13); (try clear g4a_S11); (try clear g4_S11); (try clear g3a_S11); (try clear g3_S11); (try clear f38a_S11); (try clear f38_S11); (try clear f37a_S11); (try clear f37_S11); (try clear f27a_S11); (try clear f27_S11); (try clear f29a_S11); (try clear f29_S11); (try clear f44a_S11); (try clear f44_S11); (try clear f42a_S11); (try clear f42_S11); (try clear f41a_S11); (try clear f41_S11); (try clear f40a_S11); (try clear f40_S11); (try clear f48a_S11); (try clear f48_S11); (try clear f46a_S11); (try clear f46_S11); (try clear f45a_S11); (try clear f45_S11); (try clear f36a_S11); (try clear f36_S11); (try clear f35a_S11); (try clear f35_S11); (try clear f28a_S11); (try clear f28_S11); (try clear f25a_S11); (try clear f25_S11); (try clear f10a_S11); (try clear f10_S11); (try clear f8a_S11); (try clear f8_S11); (try clear f2a_S11); (try clear f2_S11); (try clear f1a_S11); (try clear f1_S11); (try clear z16_S11); (try clear z20_S11); (try clear z19_S11); (try clear z18_S11); (try clear z17_S11); (try clear z15_S11); (try clear z13_S11); (try clear z12_S11); (try clear z11_S11); (try clear z10_S11); (try clear z9_S11); (try clear z7_S11); (try clear z6_S11); (try clear z4_S11); (try clear z3_S11); (try clear pS11)
  refine fm_inBlock hf_block _ _ _ _ _ (fun S18 hF17 pS18 => ?_) (sg_inBlock hf_block hr_block (nx := nx) (n := n) (so := so) (pl := pl) (wo := wo) (ws := ws) (S0 := S0) (d := d) (G := (G + 2)) (GA := (GA + 2)) (X := (X + 2)) (Y := (Y + 2)) (GW := GW) (GT := (GT + 9)) (D := D) (kL := ((ix (S.1 9), 1, (0 : Int32)) :: (ix (S.1 9), 2, (0 : Int32)) :: (ix (S.1 9), 3, (0 : Int32)) :: kL)) (kd := (kd + 1)) _ _ (by (try clear hC hA hO hP hk tS0 tf17 pin17 cS17 on17 fi17 aS17 uS17 oS17_ h); (try clear j425); (try clear j394); (try clear j230); (try clear hr_block); (try clear hf_block); grind -mbtc (splits := 20) (gen := 30) (ematch := 15) [SI, PT, WB_ad2, WB_nt, WB_on, WB_fi, WB_nf, LA_n, LA_p, OR1, B01, PTc_up, ix_int, ix_1, XI, PI, PJ, BU, LV, LA_i, q_zz, q_za, q_zga, q_fza, q_fx, q_fga, q_gza, q_gfa, q_gx, q_zf1, q_zg1, q_ff, q_fg1, q_gf1, q_gg, ti_link, in1000]) (by (try clear hC hA hO hP hk tS0 tf17 pin17 cS17 on17 fi17 aS17 uS17 oS17_ h); (try clear j425); (try clear j394); (try clear j230); (try clear hr_block); (try clear hf_block); grind -mbtc (splits := 20) (gen := 30) (ematch := 15) [SI, PT, WB_ad2, WB_nt, WB_on, WB_fi, WB_nf, LA_n, LA_p, OR1, B01, PTc_up, ix_int, ix_1, XI, PI, PJ, BU, LV, LA_i, q_zz, q_za, q_zga, q_fza, q_fx, q_fga, q_gza, q_gfa, q_gx, q_zf1, q_zg1, q_ff, q_fg1, q_gf1, q_gg, ti_link, in1000]) (by (try clear hC hA hO hP hk tS0 tf17 pin17 cS17 on17 fi17 aS17 uS17 oS17_ h); (try clear j425); (try clear j394); (try clear j230); (try clear hr_block); (try clear hf_block); grind -mbtc (splits := 20) (gen := 30) (ematch := 15) [SI, PT, WB_ad2, WB_nt, WB_on, WB_fi, WB_nf, LA_n, LA_p, OR1, B01, PTc_up, ix_int, ix_1, XI, PI, PJ, BU, LV, LA_i, q_zz, q_za, q_zga, q_fza, q_fx, q_fga, q_gza, q_gfa, q_gx, q_zf1, q_zg1, q_ff, q_fg1, q_gf1, q_gg, ti_link, in1000]) (by (try clear hC hA hO hP hk tS0 tf17 pin17 cS17 on17 fi17 aS17 uS17 oS17_ h); (try clear j425); (try clear j394); (try clear j230); (try clear hr_block); (try clear hf_block); grind -mbtc (splits := 20) (gen := 30) (ematch := 15) [SI, PT, WB_ad2, WB_nt, WB_on, WB_fi, WB_nf, LA_n, LA_p, OR1, B01, PTc_up, ix_int, ix_1, XI, PI, PJ, BU, LV, LA_i, q_zz, q_za, q_zga, q_fza, q_fx, q_fga, q_gza, q_gfa, q_gx, q_zf1, q_zg1, q_ff, q_fg1, q_gf1, q_gg, ti_link, in1000]) (by (try clear hC hA hO hP hk tS0 tf17 pin17 cS17 on17 fi17 aS17 uS17 oS17_ h); (try clear j425); (try clear j394); (try clear j230); (try clear hr_block); (try clear hf_block); grind -mbtc (splits := 20) (gen := 30) (ematch := 15) [SI, PT, WB_ad2, WB_nt, WB_on, WB_fi, WB_nf, LA_n, LA_p, OR1, B01, PTc_up, ix_int, ix_1, XI, PI, PJ, BU, LV, LA_i, q_zz, q_za, q_zga, q_fza, q_fx, q_fga, q_gza, q_gfa, q_gx, q_zf1, q_zg1, q_ff, q_fg1, q_gf1, q_gg, ti_link, in1000]) (by (try clear hC hA hO hP hk tS0 tf17 pin17 cS17 on17 fi17 aS17 uS17 oS17_ h); (try clear j425); (try clear j394); (try clear j230); (try clear hr_block); (try clear hf_block); grind -mbtc (splits := 20) (gen := 30) (ematch := 15) [SI, PT, WB_ad2, WB_nt, WB_on, WB_fi, WB_nf, LA_n, LA_p, OR1, B01, PTc_up, ix_int, ix_1, XI, PI, PJ, BU, LV, LA_i, q_zz, q_za, q_zga, q_fza, q_fx, q_fga, q_gza, q_gfa, q_gx, q_zf1, q_zg1, q_ff, q_fg1, q_gf1, q_gg, ti_link, in1000]) (by (try clear j425); (try clear j394); (try clear j230); (try clear hr_block); (try clear hf_block); grind (ematch := 12) (gen := 12) (splits := 15) [→ CF_nc, → CS_nc, → AF_na, → OH_no, → CS_step, → CS_CF, AF_nf, AQ_o, CS_nf, q_zz, q_za, q_zga, q_fza, q_fx, q_fga, q_gza, q_gfa, q_gx, q_zf1, q_zg1, q_ff, q_fg1, q_gf1, q_gg, AV_i, → CD_nc, CD_nf, ← CD_CS, → PD_np, → TM_nt, → TM_tr, ti_link]) (by (try clear j425); (try clear j394); (try clear j230); (try clear hr_block); (try clear hf_block); grind (ematch := 12) (gen := 12) (splits := 15) [→ CF_nc, → CS_nc, → AF_na, → OH_no, → CS_step, → CS_CF, AF_nf, AQ_o, CS_nf, q_zz, q_za, q_zga, q_fza, q_fx, q_fga, q_gza, q_gfa, q_gx, q_zf1, q_zg1, q_ff, q_fg1, q_gf1, q_gg, AV_i, → CD_nc, CD_nf, ← CD_CS, → PD_np, → TM_nt, → TM_tr, ti_link]) (by (try clear j425); (try clear j394); (try clear j230); (try clear hr_block); (try clear hf_block); grind (ematch := 12) (gen := 12) (splits := 15) [→ CF_nc, → CS_nc, → AF_na, → OH_no, → CS_step, → CS_CF, AF_nf, AQ_o, CS_nf, q_zz, q_za, q_zga, q_fza, q_fx, q_fga, q_gza, q_gfa, q_gx, q_zf1, q_zg1, q_ff, q_fg1, q_gf1, q_gg, AV_i, → CD_nc, CD_nf, ← CD_CS, → PD_np, → TM_nt, → TM_tr, ti_link]) (by (try clear j425); (try clear j394); (try clear j230); (try clear hr_block); (try clear hf_block); grind (ematch := 12) (gen := 12) (splits := 15) [→ CF_nc, → CS_nc, → AF_na, → OH_no, → CS_step, → CS_CF, AF_nf, AQ_o, CS_nf, q_zz, q_za, q_zga, q_fza, q_fx, q_fga, q_gza, q_gfa, q_gx, q_zf1, q_zg1, q_ff, q_fg1, q_gf1, q_gg, AV_i, → CD_nc, CD_nf, ← CD_CS, → PD_np, → TM_nt, → TM_tr, ti_link]) (by (try clear j425); (try clear j394); (try clear j230); (try clear hr_block); (try clear hf_block); grind (ematch := 12) (gen := 12) (splits := 15) [→ CF_nc, → CS_nc, → AF_na, → OH_no, → CS_step, → CS_CF, AF_nf, AQ_o, CS_nf, q_zz, q_za, q_zga, q_fza, q_fx, q_fga, q_gza, q_gfa, q_gx, q_zf1, q_zg1, q_ff, q_fg1, q_gf1, q_gg, AV_i, → CD_nc, CD_nf, ← CD_CS, → PD_np, → TM_nt, → TM_tr, ti_link]))
  obtain ⟨pS18, qS18⟩ := pS18
  have z6_S18 := hF17.1 6 (by decide)
  have z12_S18 := hF17.1 12 (by decide)
  have f1_S18 := hF17.2.1 1 (by decide)
  have f1a_S18 := Fr_fa hF17 1 (by decide)
  have f2_S18 := hF17.2.1 2 (by decide)
  have f2a_S18 := Fr_fa hF17 2 (by decide)
  have g3_S18 := hF17.2.2 3 (by decide)
  have g3a_S18 := Fr_ga hF17 3 (by decide)
  have g4_S18 := hF17.2.2 4 (by decide)
  have g4a_S18 := Fr_ga hF17 4 (by decide)
  clear hF17
  have fi18 : (S18.2.1 29) (ix (S.1 9)) = 0 := (qS18.2.2.2.2.2.1 (ix (S.1 9)) (by (try clear hC hA hO hP hk tS0 tf17 pin17 cS17 on17 fi17 aS17 uS17 oS17_ h qS18); (try clear j425); (try clear j394); (try clear j230); (try clear hr_block); (try clear hf_block); grind -mbtc (splits := 20) (gen := 30) (ematch := 15) [SI, PT, WB_ad2, WB_nt, WB_on, WB_fi, WB_nf, LA_n, LA_p, OR1, B01, PTc_up, ix_int, ix_1, XI, PI, PJ, BU, LV, LA_i, q_zz, q_za, q_zga, q_fza, q_fx, q_fga, q_gza, q_gfa, q_gx, q_zf1, q_zg1, q_ff, q_fg1, q_gf1, q_gg, ti_link, in1000])).2.2.2.trans fi17
  have tf18 : TF nx S (S.1 9) S18 := TF_tm tf17 qS18.2.2.2
  have uS18 : TM S S18 := TM_tr uS17 qS18.2.2.2
  have  on18 : (S18.2.1 28) (ix (S.1 9)) = 0 := (qS18.2.2.2.2.2.1 (ix (S.1 9)) (by (try clear hC hA hO hP hk tS0 tf17 pin17 cS17 on17 fi17 aS17 uS17 oS17_ h qS18 fi18 tf18 uS18); (try clear j425); (try clear j394); (try clear j230); (try clear hr_block); (try clear hf_block); grind -mbtc (splits := 20) (gen := 30) (ematch := 15) [SI, PT, WB_ad2, WB_nt, WB_on, WB_fi, WB_nf, LA_n, LA_p, OR1, B01, PTc_up, ix_int, ix_1, XI, PI, PJ, BU, LV, LA_i, q_zz, q_za, q_zga, q_fza, q_fx, q_fga, q_gza, q_gfa, q_gx, q_zf1, q_zg1, q_ff, q_fg1, q_gf1, q_gg, ti_link, in1000])).2.2.1.trans on17
  refine fm_emit _ _ _ _ _ _ (fun S19 r19 hF18 pS19 => ?_) (sg_emit (nx := nx) _ _ _ (by (try clear hC hA hO hP hk tS0 tf17 pin17 cS17 on17 fi17 aS17 uS17 oS17_ h qS18 fi18 tf18 uS18); (try clear j425); (try clear j394); (try clear j230); (try clear hr_block); (try clear hf_block); grind -mbtc (splits := 20) (gen := 30) (ematch := 15) [SI, PT, WB_ad2, WB_nt, WB_on, WB_fi, WB_nf, LA_n, LA_p, OR1, B01, PTc_up, ix_int, ix_1, XI, PI, PJ, BU, LV, LA_i, q_zz, q_za, q_zga, q_fza, q_fx, q_fga, q_gza, q_gfa, q_gx, q_zf1, q_zg1, q_ff, q_fg1, q_gf1, q_gg, ti_link, in1000]))
  obtain ⟨pS19, qS19⟩ := pS19
  have tS19 : NT S18 S19 := NT_fr hF18 (by decide) (by decide)
  have fS19 : S19.1 4 = 0 → S18.1 4 = 0 := fun q => (hF18.1 4 (by decide)).symm.trans q
  have dS19 : NP S18 S19 := NP_fr hF18 (by decide) (by decide) fS19
  have mS19 : NA S18 S19 := NA_fr hF18 (by decide) (by decide) fS19
  have z3_S19 := hF18.1 3 (by decide)
  have z4_S19 := hF18.1 4 (by decide)
  have z6_S19 := hF18.1 6 (by decide)
  have z8_S19 := hF18.1 8 (by decide)
  have z9_S19 := hF18.1 9 (by decide)
  have z10_S19 := hF18.1 10 (by decide)
  have z11_S19 := hF18.1 11 (by decide)
  have z12_S19 := hF18.1 12 (by decide)
  have z13_S19 := hF18.1 13 (by decide)
  have z15_S19 := hF18.1 15 (by decide)
  have z17_S19 := hF18.1 17 (by decide)
  have z18_S19 := hF18.1 18 (by decide)
  have z19_S19 := hF18.1 19 (by decide)
  have z20_S19 := hF18.1 20 (by decide)
  have z16_S19 := hF18.1 16 (by decide)
  have f1_S19 := hF18.2.1 1 (by decide)
  have f1a_S19 := Fr_fa hF18 1 (by decide)
  have f2_S19 := hF18.2.1 2 (by decide)
  have f2a_S19 := Fr_fa hF18 2 (by decide)
  have f8_S19 := hF18.2.1 8 (by decide)
  have f8a_S19 := Fr_fa hF18 8 (by decide)
  have f10_S19 := hF18.2.1 10 (by decide)
  have f10a_S19 := Fr_fa hF18 10 (by decide)
  have f25_S19 := hF18.2.1 25 (by decide)
  have f25a_S19 := Fr_fa hF18 25 (by decide)
  have f28_S19 := hF18.2.1 28 (by decide)
  have f28a_S19 := Fr_fa hF18 28 (by decide)
  have f35_S19 := hF18.2.1 35 (by decide)
  have f35a_S19 := Fr_fa hF18 35 (by decide)
  have f36_S19 := hF18.2.1 36 (by decide)
  have f36a_S19 := Fr_fa hF18 36 (by decide)
  have f45_S19 := hF18.2.1 45 (by decide)
  have f45a_S19 := Fr_fa hF18 45 (by decide)
  have f46_S19 := hF18.2.1 46 (by decide)
  have f46a_S19 := Fr_fa hF18 46 (by decide)
  have f48_S19 := hF18.2.1 48 (by decide)
  have f48a_S19 := Fr_fa hF18 48 (by decide)
  have f40_S19 := hF18.2.1 40 (by decide)
  have f40a_S19 := Fr_fa hF18 40 (by decide)
  have f41_S19 := hF18.2.1 41 (by decide)
  have f41a_S19 := Fr_fa hF18 41 (by decide)
  have f42_S19 := hF18.2.1 42 (by decide)
  have f42a_S19 := Fr_fa hF18 42 (by decide)
  have f44_S19 := hF18.2.1 44 (by decide)
  have f44a_S19 := Fr_fa hF18 44 (by decide)
  have f29_S19 := hF18.2.1 29 (by decide)
  have f29a_S19 := Fr_fa hF18 29 (by decide)
  have f27_S19 := hF18.2.1 27 (by decide)
  have f27a_S19 := Fr_fa hF18 27 (by decide)
  have f37_S19 := hF18.2.1 37 (by decide)
  have f37a_S19 := Fr_fa hF18 37 (by decide)
  have f38_S19 := hF18.2.1 38 (by decide)
  have f38a_S19 := Fr_fa hF18 38 (by decide)
  have g3_S19 := hF18.2.2 3 (by decide)
  have g3a_S19 := Fr_ga hF18 3 (by decide)
  have g4_S19 := hF18.2.2 4 (by decide)
  have g4a_S19 := Fr_ga hF18 4 (by decide)
  clear hF18
  have cS19 : CD nx ((ix (S.1 9), 1, (0 : Int32)) :: (ix (S.1 9), 2, (0 : Int32)) :: (ix (S.1 9), 3, (0 : Int32)) :: kL) (S18.1 9).toInt (S18.1 10).toInt S19 := CD_leave qS19.1 qS18.1 ⟨by (try clear hC hA hO hP hk tS0 tf17 pin17 cS17 on17 fi17 aS17 uS17 oS17_ h qS18 fi18 tf18 uS18 qS19 tS19 dS19 mS19); (try clear j425); (try clear j394); (try clear j230); (try clear hr_block); (try clear hf_block); grind -mbtc (splits := 20) (gen := 30) (ematch := 15) [SI, PT, WB_ad2, WB_nt, WB_on, WB_fi, WB_nf, LA_n, LA_p, OR1, B01, PTc_up, ix_int, ix_1, XI, PI, PJ, BU, LV, LA_i, q_zz, q_za, q_zga, q_fza, q_fx, q_fga, q_gza, q_gfa, q_gx, q_zf1, q_zg1, q_ff, q_fg1, q_gf1, q_gg, ti_link, in1000], tf18.2.2.2.2.2.2.1⟩
  have aS19 : AF nx ((S18.2.1 10) (ix (S18.1 12))).toInt S19 := AF_na mS19 qS18.2.1
  have tf19 : TF nx S (S.1 9) S19 := TF_tm tf18 tS19
  have uS19 : TM S S19 := TM_nt uS18 tS19
  have oS19_ : OH nx S0 S19 := by (try clear j425); (try clear j394); (try clear j230); (try clear hr_block); (try clear hf_block); grind (ematch := 12) (gen := 12) (splits := 15) [→ CF_nc, → CS_nc, → AF_na, → OH_no, → CS_step, → CS_CF, AF_nf, AQ_o, CS_nf, q_zz, q_za, q_zga, q_fza, q_fx, q_fga, q_gza, q_gfa, q_gx, q_zf1, q_zg1, q_ff, q_fg1, q_gf1, q_gg, AV_i, → CD_nc, CD_nf, ← CD_CS, → PD_np, → TM_nt, → TM_tr, ti_link]
  have on19 : (S19.2.1 28) (ix (S.1 9)) = 0 := by (try clear j425); (try clear j394); (try clear j230); (try clear hr_block); (try clear hf_block); grind (ematch := 12) (gen := 12) (splits := 15) [→ CF_nc, → CS_nc, → AF_na, → OH_no, → CS_step, → CS_CF, AF_nf, AQ_o, CS_nf, q_zz, q_za, q_zga, q_fza, q_fx, q_fga, q_gza, q_gfa, q_gx, q_zf1, q_zg1, q_ff, q_fg1, q_gf1, q_gg, AV_i, → CD_nc, CD_nf, ← CD_CS, → PD_np, → TM_nt, → TM_tr, ti_link]
  have fi19 : (S19.2.1 29) (ix (S.1 9)) = 0 := by (try clear j425); (try clear j394); (try clear j230); (try clear hr_block); (try clear hf_block); grind (ematch := 12) (gen := 12) (splits := 15) [→ CF_nc, → CS_nc, → AF_na, → OH_no, → CS_step, → CS_CF, AF_nf, AQ_o, CS_nf, q_zz, q_za, q_zga, q_fza, q_fx, q_fga, q_gza, q_gfa, q_gx, q_zf1, q_zg1, q_ff, q_fg1, q_gf1, q_gg, AV_i, → CD_nc, CD_nf, ← CD_CS, → PD_np, → TM_nt, → TM_tr, ti_link]
  have cd19 : CD nx ((ix (S.1 9), 1, (0 : Int32)) :: (ix (S.1 9), 2, (0 : Int32)) :: (ix (S.1 9), 3, (0 : Int32)) :: kL) (S19.1 9).toInt (S19.1 10).toInt S19 := by (try clear j425); (try clear j394); (try clear j230); (try clear hr_block); (try clear hf_block); grind (ematch := 12) (gen := 12) (splits := 15) [→ CF_nc, → CS_nc, → AF_na, → OH_no, → CS_step, → CS_CF, AF_nf, AQ_o, CS_nf, q_zz, q_za, q_zga, q_fza, q_fx, q_fga, q_gza, q_gfa, q_gx, q_zf1, q_zg1, q_ff, q_fg1, q_gf1, q_gg, AV_i, → CD_nc, CD_nf, ← CD_CS, → PD_np, → TM_nt, → TM_tr, ti_link]
  have hs19 : SI nx n so pl wo ws S0 d (G - 6) (GA - 2) (X + 4) (Y + 2) GW (GT + 7) S19 ∧ ((S19.1 4) = 0 → (S.1 3).toInt < (S19.1 3).toInt) ∧ (S.1 8).toInt ≤ (S19.1 8).toInt ∧ (S.1 10).toInt ≤ (S19.1 10).toInt ∧ (S.1 9).toInt < (S19.1 9).toInt ∧ 500 * nx ≤ (S.1 9).toInt ∧ (S19.1 13) = (S.1 13) ∧ (S19.1 15) = (S.1 15) ∧ (S19.1 16) = (S.1 16) + 1 ∧ (S19.2.1 10) (ix (S19.1 12)) = (S18.2.1 10) (ix (S18.1 12)) ∧ (S19.2.1 28) (ix (S.1 9)) = 0 := by (try clear hC hA hO hP hk tS0 tf17 pin17 cS17 on17 fi17 aS17 uS17 oS17_ h qS18 fi18 tf18 uS18 qS19 tS19 dS19 mS19 cS19 aS19 tf19 uS19 oS19_ on19 fi19 cd19); (try clear j425); (try clear j394); (try clear j230); (try clear hr_block); (try clear hf_block); grind -mbtc (splits := 20) (gen := 30) (ematch := 15) [SI, PT, WB_ad2, WB_nt, WB_on, WB_fi, WB_nf, LA_n, LA_p, OR1, B01, PTc_up, ix_int, ix_1, XI, PI, PJ, BU, LV, LA_i, q_zz, q_za, q_zga, q_fza, q_fx, q_fga, q_gza, q_gfa, q_gx, q_zf1, q_zg1, q_ff, q_fg1, q_gf1, q_gg, ti_link, in1000]
  (try clear fS19); (try clear cS19); (try clear mS19); (try clear dS19); (try clear tS19); (try clear qS19); (try clear uS18); (try clear tf18); (try clear fi18); (try clear qS18); (try clear oS17_); (try clear uS17); (try clear aS17); (try clear fi17); (try clear on17); (try clear cS17); (try clear pin17); (try clear tf17); (try clear g4a_S19); (try clear g4_S19); (try clear g3a_S19); (try clear g3_S19); (try clear f38a_S19); (try clear f38_S19); (try clear f37a_S19); (try clear f37_S19); (try clear f27a_S19); (try clear f27_S19); (try clear f29a_S19); (try clear f29_S19); (try clear f44a_S19); (try clear f44_S19); (try clear f42a_S19); (try clear f42_S19); (try clear f41a_S19); (try clear f41_S19); (try clear f40a_S19); (try clear f40_S19); (try clear f48a_S19); (try clear f48_S19); (try clear f46a_S19); (try clear f46_S19); (try clear f45a_S19); (try clear f45_S19); (try clear f36a_S19); (try clear f36_S19); (try clear f35a_S19); (try clear f35_S19); (try clear f28a_S19); (try clear f28_S19); (try clear f25a_S19); (try clear f25_S19); (try clear f10a_S19); (try clear f10_S19); (try clear f8a_S19); (try clear f8_S19); (try clear f2a_S19); (try clear f2_S19); (try clear f1a_S19); (try clear f1_S19); (try clear z16_S19); (try clear z20_S19); (try clear z19_S19); (try clear z18_S19); (try clear z17_S19); (try clear z15_S19); (try clear z13_S19); (try clear z12_S19); (try clear z11_S19); (try clear z10_S19); (try clear z9_S19); (try clear z8_S19); (try clear z6_S19); (try clear z4_S19); (try clear z3_S19); (try clear pS19); (try clear g4a_S18); (try clear g4_S18); (try clear g3a_S18); (try clear g3_S18); (try clear f2a_S18); (try clear f2_S18); (try clear f1a_S18); (try clear f1_S18); (try clear z12_S18); (try clear z6_S18); (try clear pS18); (try clear hs17)
  refine fm_hasWord _ _ _ _ (fun S20 r20 hF19 pS20 => ?_) (sg_hasWord (nx := nx) (n := n) (so := so) (pl := pl) (wo := wo) (ws := ws) _ (by (try clear hC hA hO hP hk tS0 aS19 tf19 uS19 oS19_ on19 fi19 cd19); (try clear j425); (try clear j394); (try clear j230); (try clear hr_block); (try clear hf_block); grind -mbtc (splits := 20) (gen := 30) (ematch := 15) [SI, PT, WB_ad2, WB_nt, WB_on, WB_fi, WB_nf, LA_n, LA_p, OR1, B01, PTc_up, ix_int, ix_1, XI, PI, PJ, BU, LV, LA_i, q_zz, q_za, q_zga, q_fza, q_fx, q_fga, q_gza, q_gfa, q_gx, q_zf1, q_zg1, q_ff, q_fg1, q_gf1, q_gg, ti_link, in1000]) (by (try clear hC hA hO hP hk tS0 aS19 tf19 uS19 oS19_ on19 fi19 cd19); (try clear j425); (try clear j394); (try clear j230); (try clear hr_block); (try clear hf_block); grind -mbtc (splits := 20) (gen := 30) (ematch := 15) [SI, PT, WB_ad2, WB_nt, WB_on, WB_fi, WB_nf, LA_n, LA_p, OR1, B01, PTc_up, ix_int, ix_1, XI, PI, PJ, BU, LV, LA_i, q_zz, q_za, q_zga, q_fza, q_fx, q_fga, q_gza, q_gfa, q_gx, q_zf1, q_zg1, q_ff, q_fg1, q_gf1, q_gg, ti_link, in1000]))
  have tS20 : NT S19 S20 := NT_fr hF19 (by decide) (by decide)
  have fS20 : S20.1 4 = 0 → S19.1 4 = 0 := fun q => (hF19.1 4 (by decide)).symm.trans q
  have dS20 : NP S19 S20 := NP_fr hF19 (by decide) (by decide) fS20
  have nS20 : NC S19 S20 := NC_fr hF19 (by decide) (by decide) fS20
  have mS20 : NA S19 S20 := NA_fr hF19 (by decide) (by decide) fS20
  have oS20 : NO nx S19 S20 := NO_fr hF19 (by decide) (by decide)
  have z4_S20 := hF19.1 4 (by decide)
  have z6_S20 := hF19.1 6 (by decide)
  have z7_S20 := hF19.1 7 (by decide)
  have z8_S20 := hF19.1 8 (by decide)
  have z9_S20 := hF19.1 9 (by decide)
  have z10_S20 := hF19.1 10 (by decide)
  have z11_S20 := hF19.1 11 (by decide)
  have z12_S20 := hF19.1 12 (by decide)
  have z13_S20 := hF19.1 13 (by decide)
  have z15_S20 := hF19.1 15 (by decide)
  have z17_S20 := hF19.1 17 (by decide)
  have z18_S20 := hF19.1 18 (by decide)
  have z19_S20 := hF19.1 19 (by decide)
  have z20_S20 := hF19.1 20 (by decide)
  have z16_S20 := hF19.1 16 (by decide)
  have f1_S20 := hF19.2.1 1 (by decide)
  have f1a_S20 := Fr_fa hF19 1 (by decide)
  have f2_S20 := hF19.2.1 2 (by decide)
  have f2a_S20 := Fr_fa hF19 2 (by decide)
  have f8_S20 := hF19.2.1 8 (by decide)
  have f8a_S20 := Fr_fa hF19 8 (by decide)
  have f10_S20 := hF19.2.1 10 (by decide)
  have f10a_S20 := Fr_fa hF19 10 (by decide)
  have f25_S20 := hF19.2.1 25 (by decide)
  have f25a_S20 := Fr_fa hF19 25 (by decide)
  have f28_S20 := hF19.2.1 28 (by decide)
  have f28a_S20 := Fr_fa hF19 28 (by decide)
  have f35_S20 := hF19.2.1 35 (by decide)
  have f35a_S20 := Fr_fa hF19 35 (by decide)
  have f36_S20 := hF19.2.1 36 (by decide)
  have f36a_S20 := Fr_fa hF19 36 (by decide)
  have f45_S20 := hF19.2.1 45 (by decide)
  have f45a_S20 := Fr_fa hF19 45 (by decide)
  have f46_S20 := hF19.2.1 46 (by decide)
  have f46a_S20 := Fr_fa hF19 46 (by decide)
  have f48_S20 := hF19.2.1 48 (by decide)
  have f48a_S20 := Fr_fa hF19 48 (by decide)
  have f40_S20 := hF19.2.1 40 (by decide)
  have f40a_S20 := Fr_fa hF19 40 (by decide)
  have f41_S20 := hF19.2.1 41 (by decide)
  have f41a_S20 := Fr_fa hF19 41 (by decide)
  have f42_S20 := hF19.2.1 42 (by decide)
  have f42a_S20 := Fr_fa hF19 42 (by decide)
  have f44_S20 := hF19.2.1 44 (by decide)
  have f44a_S20 := Fr_fa hF19 44 (by decide)
  have f29_S20 := hF19.2.1 29 (by decide)
  have f29a_S20 := Fr_fa hF19 29 (by decide)
  have f27_S20 := hF19.2.1 27 (by decide)
  have f27a_S20 := Fr_fa hF19 27 (by decide)
  have f37_S20 := hF19.2.1 37 (by decide)
  have f37a_S20 := Fr_fa hF19 37 (by decide)
  have f38_S20 := hF19.2.1 38 (by decide)
  have f38a_S20 := Fr_fa hF19 38 (by decide)
  have g3_S20 := hF19.2.2 3 (by decide)
  have g3a_S20 := Fr_ga hF19 3 (by decide)
  have g4_S20 := hF19.2.2 4 (by decide)
  have g4a_S20 := Fr_ga hF19 4 (by decide)
  clear hF19
  have tf20 : TF nx S (S.1 9) S20 := TF_tm tf19 tS20
  have uS20 : TM S S20 := TM_nt uS19 tS20
  have cS20 : CD nx ((ix (S.1 9), 1, (0 : Int32)) :: (ix (S.1 9), 2, (0 : Int32)) :: (ix (S.1 9), 3, (0 : Int32)) :: kL) (S20.1 9).toInt (S20.1 10).toInt S20 := by (try clear j425); (try clear j394); (try clear j230); (try clear hr_block); (try clear hf_block); grind (ematch := 12) (gen := 12) (splits := 15) [→ CF_nc, → CS_nc, → AF_na, → OH_no, → CS_step, → CS_CF, AF_nf, AQ_o, CS_nf, q_zz, q_za, q_zga, q_fza, q_fx, q_fga, q_gza, q_gfa, q_gx, q_zf1, q_zg1, q_ff, q_fg1, q_gf1, q_gg, AV_i, → CD_nc, CD_nf, ← CD_CS, → PD_np, → TM_nt, → TM_tr, ti_link]
  have on20 : (S20.2.1 28) (ix (S.1 9)) = 0 := by (try clear j425); (try clear j394); (try clear j230); (try clear hr_block); (try clear hf_block); grind (ematch := 12) (gen := 12) (splits := 15) [→ CF_nc, → CS_nc, → AF_na, → OH_no, → CS_step, → CS_CF, AF_nf, AQ_o, CS_nf, q_zz, q_za, q_zga, q_fza, q_fx, q_fga, q_gza, q_gfa, q_gx, q_zf1, q_zg1, q_ff, q_fg1, q_gf1, q_gg, AV_i, → CD_nc, CD_nf, ← CD_CS, → PD_np, → TM_nt, → TM_tr, ti_link]
  have fi20 : (S20.2.1 29) (ix (S.1 9)) = 0 := by (try clear j425); (try clear j394); (try clear j230); (try clear hr_block); (try clear hf_block); grind (ematch := 12) (gen := 12) (splits := 15) [→ CF_nc, → CS_nc, → AF_na, → OH_no, → CS_step, → CS_CF, AF_nf, AQ_o, CS_nf, q_zz, q_za, q_zga, q_fza, q_fx, q_fga, q_gza, q_gfa, q_gx, q_zf1, q_zg1, q_ff, q_fg1, q_gf1, q_gg, AV_i, → CD_nc, CD_nf, ← CD_CS, → PD_np, → TM_nt, → TM_tr, ti_link]
  have cc20 : CD nx ((ix (S.1 9), 2, (0 : Int32)) :: (ix (S.1 9), 3, (0 : Int32)) :: kL) (S20.1 9).toInt (S20.1 10).toInt S20 := CD_ocl (by (try clear hC hA hO hP hk tS0 aS19 tf19 uS19 oS19_ on19 fi19 cd19 tS20 dS20 nS20 mS20 oS20 tf20 uS20 cS20 on20 fi20); (try clear j425); (try clear j394); (try clear j230); (try clear hr_block); (try clear hf_block); grind -mbtc (splits := 20) (gen := 30) (ematch := 15) [SI, PT, WB_ad2, WB_nt, WB_on, WB_fi, WB_nf, LA_n, LA_p, OR1, B01, PTc_up, ix_int, ix_1, XI, PI, PJ, BU, LV, LA_i, q_zz, q_za, q_zga, q_fza, q_fx, q_fga, q_gza, q_gfa, q_gx, q_zf1, q_zg1, q_ff, q_fg1, q_gf1, q_gg, ti_link, in1000]) (fun _ => on20) cS20
  have aS20 : AF nx ((S18.2.1 10) (ix (S18.1 12))).toInt S20 := AF_na mS20 aS19
  have vS20 : (S19.1 19).toInt = -1 ∨ AV nx S20 (S19.1 19) := (AV_last aS19).imp id (fun q => AV_m q (by (try clear hC hA hO hP hk tS0 aS19 tf19 uS19 oS19_ on19 fi19 cd19 tS20 dS20 nS20 mS20 oS20 tf20 uS20 cS20 on20 fi20 cc20 aS20); (try clear j425); (try clear j394); (try clear j230); (try clear hr_block); (try clear hf_block); grind -mbtc (splits := 20) (gen := 30) (ematch := 15) [SI, PT, WB_ad2, WB_nt, WB_on, WB_fi, WB_nf, LA_n, LA_p, OR1, B01, PTc_up, ix_int, ix_1, XI, PI, PJ, BU, LV, LA_i, q_zz, q_za, q_zga, q_fza, q_fx, q_fga, q_gza, q_gfa, q_gx, q_zf1, q_zg1, q_ff, q_fg1, q_gf1, q_gg, ti_link, in1000]) (by (try clear hC hA hO hP hk tS0 aS19 tf19 uS19 oS19_ on19 fi19 cd19 tS20 dS20 nS20 mS20 oS20 tf20 uS20 cS20 on20 fi20 cc20 aS20); (try clear j425); (try clear j394); (try clear j230); (try clear hr_block); (try clear hf_block); grind -mbtc (splits := 20) (gen := 30) (ematch := 15) [SI, PT, WB_ad2, WB_nt, WB_on, WB_fi, WB_nf, LA_n, LA_p, OR1, B01, PTc_up, ix_int, ix_1, XI, PI, PJ, BU, LV, LA_i, q_zz, q_za, q_zga, q_fza, q_fx, q_fga, q_gza, q_gfa, q_gx, q_zf1, q_zg1, q_ff, q_fg1, q_gf1, q_gg, ti_link, in1000]))
  refine ⟨fun c20 => ?_, fun c20 => ?_⟩
  · exact j230 _ _ _ _ (⟨by (try clear hC hA hO hP hk tS0 aS19 tf19 uS19 oS19_ on19 fi19 cd19 tS20 dS20 nS20 mS20 oS20 tf20 uS20 cS20 on20 fi20 cc20 aS20 vS20); (try clear j425); (try clear j394); (try clear j230); (try clear hr_block); (try clear hf_block); grind -mbtc (splits := 20) (gen := 30) (ematch := 15) [SI, PT, WB_ad2, WB_nt, WB_on, WB_fi, WB_nf, LA_n, LA_p, OR1, B01, PTc_up, ix_int, ix_1, XI, PI, PJ, BU, LV, LA_i, q_zz, q_za, q_zga, q_fza, q_fx, q_fga, q_gza, q_gfa, q_gx, q_zf1, q_zg1, q_ff, q_fg1, q_gf1, q_gg, ti_link, in1000], by refine ⟨?_, ?_, ?_, ?_, ?_, ?_, ?_, ?_⟩ <;> ((try clear j425); (try clear j394); (try clear j230); (try clear hr_block); (try clear hf_block); grind (ematch := 12) (gen := 12) (splits := 15) [→ CF_nc, → CS_nc, → AF_na, → OH_no, → CS_step, → CS_CF, AF_nf, AQ_o, CS_nf, q_zz, q_za, q_zga, q_fza, q_fx, q_fga, q_gza, q_gfa, q_gx, q_zf1, q_zg1, q_ff, q_fg1, q_gf1, q_gg, AV_i, → CD_nc, CD_nf, ← CD_CS, → PD_np, → TM_nt, → TM_tr, ti_link])⟩)
  · refine ⟨by (try clear hC hA hO hP hk tS0 aS19 tf19 uS19 oS19_ on19 fi19 cd19 tS20 dS20 nS20 mS20 oS20 tf20 uS20 cS20 on20 fi20 cc20 aS20 vS20); (try clear j425); (try clear j394); (try clear j230); (try clear hr_block); (try clear hf_block); grind -mbtc (splits := 20) (gen := 30) (ematch := 15) [SI, PT, WB_ad2, WB_nt, WB_on, WB_fi, WB_nf, LA_n, LA_p, OR1, B01, PTc_up, ix_int, ix_1, XI, PI, PJ, BU, LV, LA_i, q_zz, q_za, q_zga, q_fza, q_fx, q_fga, q_gza, q_gfa, q_gx, q_zf1, q_zg1, q_ff, q_fg1, q_gf1, q_gg, ti_link, in1000], ?_⟩
    intro S22 eS22
    have dS22 : NP S20 S22 := NP_f eS22 (by decide)
    have oS22 : NO nx S20 S22 := NO_f eS22 (nH_t (by decide) (by (try clear hC hA hO hP hk tS0 aS19 tf19 uS19 oS19_ on19 fi19 cd19 tS20 dS20 nS20 mS20 oS20 tf20 uS20 cS20 on20 fi20 cc20 aS20 vS20 dS22); (try clear j425); (try clear j394); (try clear j230); (try clear hr_block); (try clear hf_block); grind -mbtc (splits := 20) (gen := 30) (ematch := 15) [SI, PT, WB_ad2, WB_nt, WB_on, WB_fi, WB_nf, LA_n, LA_p, OR1, B01, PTc_up, ix_int, ix_1, XI, PI, PJ, BU, LV, LA_i, q_zz, q_za, q_zga, q_fza, q_fx, q_fga, q_gza, q_gfa, q_gx, q_zf1, q_zg1, q_ff, q_fg1, q_gf1, q_gg, ti_link, in1000]))
    have aS22 : AFv nx ((S18.2.1 10) (ix (S18.1 12))).toInt (S20.1 9).toInt (S20.1 10).toInt (S.1 9).toInt S22 := AFv_f eS22 (Or.inr (Or.inr ⟨by (try clear hC hA hO hP hk tS0 aS19 tf19 uS19 oS19_ on19 fi19 cd19 tS20 dS20 nS20 mS20 oS20 tf20 uS20 cS20 on20 fi20 cc20 aS20 vS20 dS22 oS22); (try clear j425); (try clear j394); (try clear j230); (try clear hr_block); (try clear hf_block); grind -mbtc (splits := 20) (gen := 30) (ematch := 15) [SI, PT, WB_ad2, WB_nt, WB_on, WB_fi, WB_nf, LA_n, LA_p, OR1, B01, PTc_up, ix_int, ix_1, XI, PI, PJ, BU, LV, LA_i, q_zz, q_za, q_zga, q_fza, q_fx, q_fga, q_gza, q_gfa, q_gx, q_zf1, q_zg1, q_ff, q_fg1, q_gf1, q_gg, ti_link, in1000], by decide⟩)) (AFv_o _ aS20)
    have cS22 : CS nx ((ix (S.1 9), 1, (0 : Int32)) :: (ix (S.1 9), 2, (0 : Int32)) :: (ix (S.1 9), 3, (0 : Int32)) :: kL) (S20.1 9).toInt (S20.1 10).toInt (S.1 9) S22 := CS_lift (by rw [eS22]; rfl) (fun _ _ _ q => CW_w28 eS22 (Or.inl (List.mem_cons_self ..)) q) (CD_CS _ cS20)
    have uS22 : TM S S22 := TM_fi eS22 (Or.inr ⟨by decide, by (try clear hC hA hO hP hk tS0 aS19 tf19 uS19 oS19_ on19 fi19 cd19 tS20 dS20 nS20 mS20 oS20 tf20 uS20 cS20 on20 fi20 cc20 aS20 vS20 dS22 oS22 aS22 cS22); (try clear j425); (try clear j394); (try clear j230); (try clear hr_block); (try clear hf_block); grind -mbtc (splits := 20) (gen := 30) (ematch := 15) [SI, PT, WB_ad2, WB_nt, WB_on, WB_fi, WB_nf, LA_n, LA_p, OR1, B01, PTc_up, ix_int, ix_1, XI, PI, PJ, BU, LV, LA_i, q_zz, q_za, q_zga, q_fza, q_fx, q_fga, q_gza, q_gfa, q_gx, q_zf1, q_zg1, q_ff, q_fg1, q_gf1, q_gg, ti_link, in1000]⟩) uS20
    have tf22 : TF nx S (S.1 9) S22 := TF_np tf20 dS22
    refine fm_takeCell _ _ _ (fun S23 r23 hF21 pS23 => ?_) (sg_takeCell (nx := nx) (n := n) (so := so) (pl := pl) (wo := wo) (ws := ws) (by (try clear hC hA hO hP hk tS0 aS19 tf19 uS19 oS19_ on19 fi19 cd19 tS20 dS20 nS20 mS20 oS20 tf20 uS20 cS20 on20 fi20 cc20 aS20 vS20 dS22 oS22 aS22 cS22 uS22 tf22); (try clear j425); (try clear j394); (try clear j230); (try clear hr_block); (try clear hf_block); grind -mbtc (splits := 20) (gen := 30) (ematch := 15) [SI, PT, WB_ad2, WB_nt, WB_on, WB_fi, WB_nf, LA_n, LA_p, OR1, B01, PTc_up, ix_int, ix_1, XI, PI, PJ, BU, LV, LA_i, q_zz, q_za, q_zga, q_fza, q_fx, q_fga, q_gza, q_gfa, q_gx, q_zf1, q_zg1, q_ff, q_fg1, q_gf1, q_gg, ti_link, in1000]) (by (try clear hC hA hO hP hk tS0 aS19 tf19 uS19 oS19_ on19 fi19 cd19 tS20 dS20 nS20 mS20 oS20 tf20 uS20 cS20 on20 fi20 cc20 aS20 vS20 dS22 oS22 aS22 cS22 uS22 tf22); (try clear j425); (try clear j394); (try clear j230); (try clear hr_block); (try clear hf_block); grind -mbtc (splits := 20) (gen := 30) (ematch := 15) [SI, PT, WB_ad2, WB_nt, WB_on, WB_fi, WB_nf, LA_n, LA_p, OR1, B01, PTc_up, ix_int, ix_1, XI, PI, PJ, BU, LV, LA_i, q_zz, q_za, q_zga, q_fza, q_fx, q_fga, q_gza, q_gfa, q_gx, q_zf1, q_zg1, q_ff, q_fg1, q_gf1, q_gg, ti_link, in1000]) (by (try clear hC hA hO hP hk tS0 aS19 tf19 uS19 oS19_ on19 fi19 cd19 tS20 dS20 nS20 mS20 oS20 tf20 uS20 cS20 on20 fi20 cc20 aS20 vS20 dS22 oS22 aS22 cS22 uS22 tf22); (try clear j425); (try clear j394); (try clear j230); (try clear hr_block); (try clear hf_block); grind -mbtc (splits := 20) (gen := 30) (ematch := 15) [SI, PT, WB_ad2, WB_nt, WB_on, WB_fi, WB_nf, LA_n, LA_p, OR1, B01, PTc_up, ix_int, ix_1, XI, PI, PJ, BU, LV, LA_i, q_zz, q_za, q_zga, q_fza, q_fx, q_fga, q_gza, q_gfa, q_gx, q_zf1, q_zg1, q_ff, q_fg1, q_gf1, q_gg, ti_link, in1000]))
    obtain ⟨pS23, qS23⟩ := pS23
    have tS23 : NT S22 S23 := NT_fr hF21 (by decide) (by decide)
    have fS23 : S23.1 4 = 0 → S22.1 4 = 0 := by (try clear hC hA hO hP hk tS0 aS19 tf19 uS19 oS19_ on19 fi19 cd19 tS20 dS20 nS20 mS20 oS20 tf20 uS20 cS20 on20 fi20 cc20 aS20 vS20 dS22 oS22 aS22 cS22 uS22 tf22 qS23 tS23); (try clear j425); (try clear j394); (try clear j230); (try clear hr_block); (try clear hf_block); grind [ti_link]
    have dS23 : NP S22 S23 := NP_fr hF21 (by decide) (by decide) fS23
    have nS23 : NC S22 S23 := NC_fr hF21 (by decide) (by decide) fS23
    have mS23 : NA S22 S23 := NA_fr hF21 (by decide) (by decide) fS23
    have z6_S23 := hF21.1 6 (by decide)
    have z7_S23 := hF21.1 7 (by decide)
    have z8_S23 := hF21.1 8 (by decide)
    have z9_S23 := hF21.1 9 (by decide)
    have z10_S23 := hF21.1 10 (by decide)
    have z11_S23 := hF21.1 11 (by decide)
    have z12_S23 := hF21.1 12 (by decide)
    have z13_S23 := hF21.1 13 (by decide)
    have z15_S23 := hF21.1 15 (by decide)
    have z17_S23 := hF21.1 17 (by decide)
    have z18_S23 := hF21.1 18 (by decide)
    have z19_S23 := hF21.1 19 (by decide)
    have z20_S23 := hF21.1 20 (by decide)
    have z16_S23 := hF21.1 16 (by decide)
    have f1_S23 := hF21.2.1 1 (by decide)
    have f1a_S23 := Fr_fa hF21 1 (by decide)
    have f2_S23 := hF21.2.1 2 (by decide)
    have f2a_S23 := Fr_fa hF21 2 (by decide)
    have f10_S23 := hF21.2.1 10 (by decide)
    have f10a_S23 := Fr_fa hF21 10 (by decide)
    have f25_S23 := hF21.2.1 25 (by decide)
    have f25a_S23 := Fr_fa hF21 25 (by decide)
    have f28_S23 := hF21.2.1 28 (by decide)
    have f28a_S23 := Fr_fa hF21 28 (by decide)
    have f35_S23 := hF21.2.1 35 (by decide)
    have f35a_S23 := Fr_fa hF21 35 (by decide)
    have f36_S23 := hF21.2.1 36 (by decide)
    have f36a_S23 := Fr_fa hF21 36 (by decide)
    have f45_S23 := hF21.2.1 45 (by decide)
    have f45a_S23 := Fr_fa hF21 45 (by decide)
    have f46_S23 := hF21.2.1 46 (by decide)
    have f46a_S23 := Fr_fa hF21 46 (by decide)
    have f48_S23 := hF21.2.1 48 (by decide)
    have f48a_S23 := Fr_fa hF21 48 (by decide)
    have f40_S23 := hF21.2.1 40 (by decide)
    have f40a_S23 := Fr_fa hF21 40 (by decide)
    have f41_S23 := hF21.2.1 41 (by decide)
    have f41a_S23 := Fr_fa hF21 41 (by decide)
    have f42_S23 := hF21.2.1 42 (by decide)
    have f42a_S23 := Fr_fa hF21 42 (by decide)
    have f44_S23 := hF21.2.1 44 (by decide)
    have f44a_S23 := Fr_fa hF21 44 (by decide)
    have f29_S23 := hF21.2.1 29 (by decide)
    have f29a_S23 := Fr_fa hF21 29 (by decide)
    have f27_S23 := hF21.2.1 27 (by decide)
    have f27a_S23 := Fr_fa hF21 27 (by decide)
    have f37_S23 := hF21.2.1 37 (by decide)
    have f37a_S23 := Fr_fa hF21 37 (by decide)
    have f38_S23 := hF21.2.1 38 (by decide)
    have f38a_S23 := Fr_fa hF21 38 (by decide)
    have g3_S23 := hF21.2.2 3 (by decide)
    have g3a_S23 := Fr_ga hF21 3 (by decide)
    have g4_S23 := hF21.2.2 4 (by decide)
    have g4a_S23 := Fr_ga hF21 4 (by decide)
    clear hF21
    have aS23 : AFv nx ((S18.2.1 10) (ix (S18.1 12))).toInt (S20.1 9).toInt (S20.1 10).toInt (S.1 9).toInt S23 := AFv_na mS23 aS22
    have cS23 : CS nx ((ix (S.1 9), 1, (0 : Int32)) :: (ix (S.1 9), 2, (0 : Int32)) :: (ix (S.1 9), 3, (0 : Int32)) :: kL) (S20.1 9).toInt (S20.1 10).toInt (S.1 9) S23 := CS_nc nS23 cS22
    have uS23 : TM S S23 := TM_nt uS22 tS23
    have tf23 : TF nx S (S.1 9) S23 := TF_np tf22 dS23
    have lS23 : (S23.1 4) = 0 → 0 ≤ r23.toInt ∧ r23.toInt < 12 := by (try clear hC hA hO hP hk tS0 aS19 tf19 uS19 oS19_ on19 fi19 cd19 tS20 dS20 nS20 mS20 oS20 tf20 uS20 cS20 on20 fi20 cc20 aS20 vS20 dS22 oS22 aS22 cS22 uS22 tf22 qS23 tS23 dS23 nS23 mS23 aS23 cS23 uS23 tf23); (try clear j425); (try clear j394); (try clear j230); (try clear hr_block); (try clear hf_block); grind -mbtc (splits := 20) (gen := 30) (ematch := 15) [SI, PT, WB_ad2, WB_nt, WB_on, WB_fi, WB_nf, LA_n, LA_p, OR1, B01, PTc_up, ix_int, ix_1, XI, PI, PJ, BU, LV, LA_i, q_zz, q_za, q_zga, q_fza, q_fx, q_fga, q_gza, q_gfa, q_gx, q_zf1, q_zg1, q_ff, q_fg1, q_gf1, q_gg, ti_link, in1000]
    refine ⟨by (try clear hC hA hO hP hk tS0 aS19 tf19 uS19 oS19_ on19 fi19 cd19 tS20 dS20 nS20 mS20 oS20 tf20 uS20 cS20 on20 fi20 cc20 aS20 vS20 dS22 oS22 aS22 cS22 uS22 tf22 qS23 tS23 dS23 nS23 mS23 aS23 cS23 uS23 tf23 lS23); (try clear j425); (try clear j394); (try clear j230); (try clear hr_block); (try clear hf_block); grind -mbtc (splits := 20) (gen := 30) (ematch := 15) [SI, PT, WB_ad2, WB_nt, WB_on, WB_fi, WB_nf, LA_n, LA_p, OR1, B01, PTc_up, ix_int, ix_1, XI, PI, PJ, BU, LV, LA_i, q_zz, q_za, q_zga, q_fza, q_fx, q_fga, q_gza, q_gfa, q_gx, q_zf1, q_zg1, q_ff, q_fg1, q_gf1, q_gg, ti_link, in1000], ?_⟩
    intro S24 eS24
    have dS24 : NP S23 S24 := NP_f eS24 (by decide)
    have tS24 : NT S23 S24 := NT_f eS24 (by decide)
    have mS24 : NA S23 S24 := NA_f eS24 (by decide)
    have oS24 : NO nx S23 S24 := NO_f eS24 (nH_t (by decide) (by (try clear hC hA hO hP hk tS0 aS19 tf19 uS19 oS19_ on19 fi19 cd19 tS20 dS20 nS20 mS20 oS20 tf20 uS20 cS20 on20 fi20 cc20 aS20 vS20 dS22 oS22 aS22 cS22 uS22 tf22 qS23 tS23 dS23 nS23 mS23 aS23 cS23 uS23 tf23 lS23 dS24 tS24 mS24); (try clear j425); (try clear j394); (try clear j230); (try clear hr_block); (try clear hf_block); grind -mbtc (splits := 20) (gen := 30) (ematch := 15) [SI, PT, WB_ad2, WB_nt, WB_on, WB_fi, WB_nf, LA_n, LA_p, OR1, B01, PTc_up, ix_int, ix_1, XI, PI, PJ, BU, LV, LA_i, q_zz, q_za, q_zga, q_fza, q_fx, q_fga, q_gza, q_gfa, q_gx, q_zf1, q_zg1, q_ff, q_fg1, q_gf1, q_gg, ti_link, in1000]))
    have aS24 : AFv nx ((S18.2.1 10) (ix (S18.1 12))).toInt (S20.1 9).toInt (S20.1 10).toInt (S.1 9).toInt S24 := AFv_na mS24 aS23
    have cS24 : CS nx ((ix (S.1 9), 1, (0 : Int32)) :: (ix (S.1 9), 2, (0 : Int32)) :: (ix (S.1 9), 3, (0 : Int32)) :: kL) (S20.1 9).toInt (S20.1 10).toInt (S.1 9) S24 := CS_lift (by rw [eS24]; rfl) (fun _ _ _ q => CW_w31 eS24 (Or.inl (List.mem_cons_self ..)) q) cS23
    refine ⟨by (try clear hC hA hO hP hk tS0 aS19 tf19 uS19 oS19_ on19 fi19 cd19 tS20 dS20 nS20 mS20 oS20 tf20 uS20 cS20 on20 fi20 cc20 aS20 vS20 dS22 oS22 aS22 cS22 uS22 tf22 qS23 tS23 dS23 nS23 mS23 aS23 cS23 uS23 tf23 lS23 dS24 tS24 mS24 oS24 aS24 cS24); (try clear j425); (try clear j394); (try clear j230); (try clear hr_block); (try clear hf_block); grind -mbtc (splits := 20) (gen := 30) (ematch := 15) [SI, PT, WB_ad2, WB_nt, WB_on, WB_fi, WB_nf, LA_n, LA_p, OR1, B01, PTc_up, ix_int, ix_1, XI, PI, PJ, BU, LV, LA_i, q_zz, q_za, q_zga, q_fza, q_fx, q_fga, q_gza, q_gfa, q_gx, q_zf1, q_zg1, q_ff, q_fg1, q_gf1, q_gg, ti_link, in1000], ?_⟩
    intro S25 eS25
    have dS25 : NP S24 S25 := NP_f eS25 (by decide)
    have tS25 : NT S24 S25 := NT_f eS25 (by decide)
    have mS25 : NA S24 S25 := NA_f eS25 (by decide)
    have oS25 : NO nx S24 S25 := NO_f eS25 (nH_t (by decide) (by (try clear hC hA hO hP hk tS0 aS19 tf19 uS19 oS19_ on19 fi19 cd19 tS20 dS20 nS20 mS20 oS20 tf20 uS20 cS20 on20 fi20 cc20 aS20 vS20 dS22 oS22 aS22 cS22 uS22 tf22 qS23 tS23 dS23 nS23 mS23 aS23 cS23 uS23 tf23 lS23 dS24 tS24 mS24 oS24 aS24 cS24 dS25 tS25 mS25); (try clear j425); (try clear j394); (try clear j230); (try clear hr_block); (try clear hf_block); grind -mbtc (splits := 20) (gen := 30) (ematch := 15) [SI, PT, WB_ad2, WB_nt, WB_on, WB_fi, WB_nf, LA_n, LA_p, OR1, B01, PTc_up, ix_int, ix_1, XI, PI, PJ, BU, LV, LA_i, q_zz, q_za, q_zga, q_fza, q_fx, q_fga, q_gza, q_gfa, q_gx, q_zf1, q_zg1, q_ff, q_fg1, q_gf1, q_gg, ti_link, in1000]))
    have aS25 : AFv nx ((S18.2.1 10) (ix (S18.1 12))).toInt (S20.1 9).toInt (S20.1 10).toInt (S.1 9).toInt S25 := AFv_na mS25 aS24
    have cs25 : CS nx ((ix (S.1 9), 1, (0 : Int32)) :: (ix (S.1 9), 2, (0 : Int32)) :: (ix (S.1 9), 3, (0 : Int32)) :: kL) (S20.1 9).toInt (S20.1 10).toInt (S.1 9) S25 := CS_lift (by rw [eS25]; rfl) (fun _ _ _ q => CW_w30 eS25 (Or.inl (List.mem_cons_self ..)) q) cS24
    have oc25 : (S25.2.1 31) (ix (S.1 9)) = r23 := by
          rw [eS25, eS24]
          show upd _ _ _ _ = _
          unfold upd
          rw [if_pos rfl]
    have cS25 : CS nx ((ix (S.1 9), 2, (0 : Int32)) :: (ix (S.1 9), 3, (0 : Int32)) :: kL) (S20.1 9).toInt (S20.1 10).toInt (S.1 9) S25 := CS_ocl (by (try clear hC hA hO hP hk tS0 aS19 tf19 uS19 oS19_ on19 fi19 cd19 tS20 dS20 nS20 mS20 oS20 tf20 uS20 cS20 on20 fi20 cc20 aS20 vS20 dS22 oS22 aS22 cS22 uS22 tf22 qS23 tS23 dS23 nS23 mS23 aS23 cS23 uS23 tf23 lS23 dS24 tS24 mS24 oS24 aS24 cS24 dS25 tS25 mS25 oS25 aS25 cs25 oc25); (try clear j425); (try clear j394); (try clear j230); (try clear hr_block); (try clear hf_block); grind -mbtc (splits := 20) (gen := 30) (ematch := 15) [SI, PT, WB_ad2, WB_nt, WB_on, WB_fi, WB_nf, LA_n, LA_p, OR1, B01, PTc_up, ix_int, ix_1, XI, PI, PJ, BU, LV, LA_i, q_zz, q_za, q_zga, q_fza, q_fx, q_fga, q_gza, q_gfa, q_gx, q_zf1, q_zg1, q_ff, q_fg1, q_gf1, q_gg, ti_link, in1000]) (by (try clear hC hA hO hP hk tS0 aS19 tf19 uS19 oS19_ on19 fi19 cd19 tS20 dS20 nS20 mS20 oS20 tf20 uS20 cS20 on20 fi20 cc20 aS20 vS20 dS22 oS22 aS22 cS22 uS22 tf22 qS23 tS23 dS23 nS23 mS23 aS23 cS23 uS23 tf23 lS23 dS24 tS24 mS24 oS24 aS24 cS24 dS25 tS25 mS25 oS25 aS25 cs25 oc25); (try clear j425); (try clear j394); (try clear j230); (try clear hr_block); (try clear hf_block); grind -mbtc (splits := 20) (gen := 30) (ematch := 15) [SI, PT, WB_ad2, WB_nt, WB_on, WB_fi, WB_nf, LA_n, LA_p, OR1, B01, PTc_up, ix_int, ix_1, XI, PI, PJ, BU, LV, LA_i, q_zz, q_za, q_zga, q_fza, q_fx, q_fga, q_gza, q_gfa, q_gx, q_zf1, q_zg1, q_ff, q_fg1, q_gf1, q_gg, ti_link, in1000]) (by
          rw [eS25]
          show upd _ _ _ _ = _
          unfold upd
          rw [if_pos rfl]
          rfl) (fun hf9 => by
          rw [oc25]
          rw [eS25, eS24] at hf9
          exact lS23 hf9) cs25
    have uS25 : TM S S25 := TM_nt (TM_nt uS23 tS24) tS25
    have tf25 : TF nx S (S.1 9) S25 := TF_np (TF_np tf23 dS24) dS25
    have oS25_ : OH nx S0 S25 := by (try clear j425); (try clear j394); (try clear j230); (try clear hr_block); (try clear hf_block); grind (ematch := 12) (gen := 12) (splits := 15) [→ CF_nc, → CS_nc, → AF_na, → OH_no, → CS_step, → CS_CF, AF_nf, AQ_o, CS_nf, q_zz, q_za, q_zga, q_fza, q_fx, q_fga, q_gza, q_gfa, q_gx, q_zf1, q_zg1, q_ff, q_fg1, q_gf1, q_gg, AV_i, → CD_nc, CD_nf, ← CD_CS, → PD_np, → TM_nt, → TM_tr, ti_link]
    have fi25 : (S25.2.1 29) (ix (S.1 9)) = 0 := by (try clear j425); (try clear j394); (try clear j230); (try clear hr_block); (try clear hf_block); grind (ematch := 12) (gen := 12) (splits := 15) [→ CF_nc, → CS_nc, → AF_na, → OH_no, → CS_step, → CS_CF, AF_nf, AQ_o, CS_nf, q_zz, q_za, q_zga, q_fza, q_fx, q_fga, q_gza, q_gfa, q_gx, q_zf1, q_zg1, q_ff, q_fg1, q_gf1, q_gg, AV_i, → CD_nc, CD_nf, ← CD_CS, → PD_np, → TM_nt, → TM_tr, ti_link]
    have vS25 : (S19.1 19).toInt = -1 ∨ AV nx S25 (S19.1 19) := vS20.imp id (fun q => AV_m q (by (try clear hC hA hO hP hk tS0 aS19 tf19 uS19 oS19_ on19 fi19 cd19 tS20 dS20 nS20 mS20 oS20 tf20 uS20 cS20 on20 fi20 cc20 aS20 vS20 dS22 oS22 aS22 cS22 uS22 tf22 qS23 tS23 dS23 nS23 mS23 aS23 cS23 uS23 tf23 lS23 dS24 tS24 mS24 oS24 aS24 cS24 dS25 tS25 mS25 oS25 aS25 cs25 oc25 cS25 uS25 tf25 oS25_ fi25); (try clear j425); (try clear j394); (try clear j230); (try clear hr_block); (try clear hf_block); grind -mbtc (splits := 20) (gen := 30) (ematch := 15) [SI, PT, WB_ad2, WB_nt, WB_on, WB_fi, WB_nf, LA_n, LA_p, OR1, B01, PTc_up, ix_int, ix_1, XI, PI, PJ, BU, LV, LA_i, q_zz, q_za, q_zga, q_fza, q_fx, q_fga, q_gza, q_gfa, q_gx, q_zf1, q_zg1, q_ff, q_fg1, q_gf1, q_gg, ti_link, in1000]) (by (try clear hC hA hO hP hk tS0 aS19 tf19 uS19 oS19_ on19 fi19 cd19 tS20 dS20 nS20 mS20 oS20 tf20 uS20 cS20 on20 fi20 cc20 aS20 vS20 dS22 oS22 aS22 cS22 uS22 tf22 qS23 tS23 dS23 nS23 mS23 aS23 cS23 uS23 tf23 lS23 dS24 tS24 mS24 oS24 aS24 cS24 dS25 tS25 mS25 oS25 aS25 cs25 oc25 cS25 uS25 tf25 oS25_ fi25); (try clear j425); (try clear j394); (try clear j230); (try clear hr_block); (try clear hf_block); grind -mbtc (splits := 20) (gen := 30) (ematch := 15) [SI, PT, WB_ad2, WB_nt, WB_on, WB_fi, WB_nf, LA_n, LA_p, OR1, B01, PTc_up, ix_int, ix_1, XI, PI, PJ, BU, LV, LA_i, q_zz, q_za, q_zga, q_fza, q_fx, q_fga, q_gza, q_gfa, q_gx, q_zf1, q_zg1, q_ff, q_fg1, q_gf1, q_gg, ti_link, in1000]))
    have hs25 : SI nx n so pl wo ws S0 d (G - 6) (GA - 2) (X + 4) (Y + 2) GW (GT + 5) S25 ∧ ((S25.1 4) = 0 → (S.1 3).toInt < (S25.1 3).toInt) ∧ (S.1 8).toInt ≤ (S25.1 8).toInt ∧ (S.1 10).toInt ≤ (S25.1 10).toInt ∧ (S.1 9).toInt < (S25.1 9).toInt ∧ 500 * nx ≤ (S.1 9).toInt ∧ (S25.1 13) = (S.1 13) ∧ (S25.1 15) = (S.1 15) ∧ (S25.1 16) = (S.1 16) + 1 ∧ (S25.2.1 10) (ix (S25.1 12)) = (S18.2.1 10) (ix (S18.1 12)) ∧ (S25.1 9).toInt = (S20.1 9).toInt ∧ (S25.1 10).toInt = (S20.1 10).toInt ∧ ¬ (S25.2.1 28) (ix (S.1 9)) = 0 ∧ LA nx (S19.1 19).toInt ∧ (S19.1 19).toInt < 12000 * nx + 12000 := by (try clear hC hA hO hP hk tS0 aS19 tf19 uS19 oS19_ on19 fi19 cd19 tS20 dS20 nS20 mS20 oS20 tf20 uS20 cS20 on20 fi20 cc20 aS20 vS20 dS22 oS22 aS22 cS22 uS22 tf22 qS23 tS23 dS23 nS23 mS23 aS23 cS23 uS23 tf23 lS23 dS24 tS24 mS24 oS24 aS24 cS24 dS25 tS25 mS25 oS25 aS25 cs25 oc25 cS25 uS25 tf25 oS25_ fi25 vS25); (try clear j425); (try clear j394); (try clear j230); (try clear hr_block); (try clear hf_block); grind -mbtc (splits := 20) (gen := 30) (ematch := 15) [SI, PT, WB_ad2, WB_nt, WB_on, WB_fi, WB_nf, LA_n, LA_p, OR1, B01, PTc_up, ix_int, ix_1, XI, PI, PJ, BU, LV, LA_i, q_zz, q_za, q_zga, q_fza, q_fx, q_fga, q_gza, q_gfa, q_gx, q_zf1, q_zg1, q_ff, q_fg1, q_gf1, q_gg, ti_link, in1000]
    (try clear eS25); (try clear eS24); (try clear fS23); (try clear eS22); (try clear fS20); (try clear oc25); (try clear cs25); (try clear oS25); (try clear mS25); (try clear tS25); (try clear dS25); (try clear cS24); (try clear aS24); (try clear oS24); (try clear mS24); (try clear tS24); (try clear dS24); (try clear lS23); (try clear tf23); (try clear uS23); (try clear cS23); (try clear aS23); (try clear mS23); (try clear nS23); (try clear dS23); (try clear tS23); (try clear qS23); (try clear tf22); (try clear uS22); (try clear cS22); (try clear aS22); (try clear oS22); (try clear dS22); (try clear vS20); (try clear aS20); (try clear cc20); (try clear fi20); (try clear on20); (try clear cS20); (try clear uS20); (try clear tf20); (try clear oS20); (try clear mS20); (try clear nS20); (try clear dS20); (try clear tS20); (try clear cd19); (try clear fi19); (try clear on19); (try clear oS19_); (try clear uS19); (try clear tf19); (try clear aS19); (try clear g4a_S23); (try clear g4_S23); (try clear g3a_S23); (try clear g3_S23); (try clear f38a_S23); (try clear f38_S23); (try clear f37a_S23); (try clear f37_S23); (try clear f27a_S23); (try clear f27_S23); (try clear f29a_S23); (try clear f29_S23); (try clear f44a_S23); (try clear f44_S23); (try clear f42a_S23); (try clear f42_S23); (try clear f41a_S23); (try clear f41_S23); (try clear f40a_S23); (try clear f40_S23); (try clear f48a_S23); (try clear f48_S23); (try clear f46a_S23); (try clear f46_S23); (try clear f45a_S23); (try clear f45_S23); (try clear f36a_S23); (try clear f36_S23); (try clear f35a_S23); (try clear f35_S23); (try clear f28a_S23); (try clear f28_S23); (try clear f25a_S23); (try clear f25_S23); (try clear f10a_S23); (try clear f10_S23); (try clear f2a_S23); (try clear f2_S23); (try clear f1a_S23); (try clear f1_S23); (try clear z16_S23); (try clear z20_S23); (try clear z19_S23); (try clear z18_S23); (try clear z17_S23); (try clear z15_S23); (try clear z13_S23); (try clear z12_S23); (try clear z11_S23); (try clear z10_S23); (try clear z9_S23); (try clear z8_S23); (try clear z7_S23); (try clear z6_S23); (try clear pS23); (try clear g4a_S20); (try clear g4_S20); (try clear g3a_S20); (try clear g3_S20); (try clear f38a_S20); (try clear f38_S20); (try clear f37a_S20); (try clear f37_S20); (try clear f27a_S20); (try clear f27_S20); (try clear f29a_S20); (try clear f29_S20); (try clear f44a_S20); (try clear f44_S20); (try clear f42a_S20); (try clear f42_S20); (try clear f41a_S20); (try clear f41_S20); (try clear f40a_S20); (try clear f40_S20); (try clear f48a_S20); (try clear f48_S20); (try clear f46a_S20); (try clear f46_S20); (try clear f45a_S20); (try clear f45_S20); (try clear f36a_S20); (try clear f36_S20); (try clear f35a_S20); (try clear f35_S20); (try clear f28a_S20); (try clear f28_S20); (try clear f25a_S20); (try clear f25_S20); (try clear f10a_S20); (try clear f10_S20); (try clear f8a_S20); (try clear f8_S20); (try clear f2a_S20); (try clear f2_S20); (try clear f1a_S20); (try clear f1_S20); (try clear z16_S20); (try clear z20_S20); (try clear z19_S20); (try clear z18_S20); (try clear z17_S20); (try clear z15_S20); (try clear z13_S20); (try clear z12_S20); (try clear z11_S20); (try clear z10_S20); (try clear z9_S20); (try clear z8_S20); (try clear z7_S20); (try clear z6_S20); (try clear z4_S20); (try clear pS20); (try clear hs19)
    refine ⟨by (try clear hC hA hO hP hk tS0 aS25 cS25 uS25 tf25 oS25_ fi25 vS25 h); (try clear j425); (try clear j394); (try clear j230); (try clear hr_block); (try clear hf_block); grind -mbtc (splits := 20) (gen := 30) (ematch := 15) [SI, PT, WB_ad2, WB_nt, WB_on, WB_fi, WB_nf, LA_n, LA_p, OR1, B01, PTc_up, ix_int, ix_1, XI, PI, PJ, BU, LV, LA_i, q_zz, q_za, q_zga, q_fza, q_fx, q_fga, q_gza, q_gfa, q_gx, q_zf1, q_zg1, q_ff, q_fg1, q_gf1, q_gg, ti_link, in1000], ?_⟩
    intro z26 ez26
    refine fm_act _ _ _ _ _ (fun S27 r27 hF22 pS27 => ?_) (sgv_act (nx := nx) _ _ (by (try clear hC hA hO hP hk tS0 aS25 cS25 uS25 tf25 oS25_ fi25 vS25 h); (try clear j425); (try clear j394); (try clear j230); (try clear hr_block); (try clear hf_block); grind -mbtc (splits := 20) (gen := 30) (ematch := 15) [SI, PT, WB_ad2, WB_nt, WB_on, WB_fi, WB_nf, LA_n, LA_p, OR1, B01, PTc_up, ix_int, ix_1, XI, PI, PJ, BU, LV, LA_i, q_zz, q_za, q_zga, q_fza, q_fx, q_fga, q_gza, q_gfa, q_gx, q_zf1, q_zg1, q_ff, q_fg1, q_gf1, q_gg, ti_link, in1000]))
    obtain ⟨pS27, qS27⟩ := pS27
    have tS27 : NT S25 S27 := NT_fr hF22 (by decide) (by decide)
    have fS27 : S27.1 4 = 0 → S25.1 4 = 0 := fun q => (hF22.1 4 (by decide)).symm.trans q
    have dS27 : NP S25 S27 := NP_fr hF22 (by decide) (by decide) fS27
    have nS27 : NC S25 S27 := NC_fr hF22 (by decide) (by decide) fS27
    have z3_S27 := hF22.1 3 (by decide)
    have z4_S27 := hF22.1 4 (by decide)
    have z6_S27 := hF22.1 6 (by decide)
    have z7_S27 := hF22.1 7 (by decide)
    have z9_S27 := hF22.1 9 (by decide)
    have z10_S27 := hF22.1 10 (by decide)
    have z11_S27 := hF22.1 11 (by decide)
    have z12_S27 := hF22.1 12 (by decide)
    have z13_S27 := hF22.1 13 (by decide)
    have z15_S27 := hF22.1 15 (by decide)
    have z17_S27 := hF22.1 17 (by decide)
    have z18_S27 := hF22.1 18 (by decide)
    have z19_S27 := hF22.1 19 (by decide)
    have z20_S27 := hF22.1 20 (by decide)
    have z16_S27 := hF22.1 16 (by decide)
    have f1_S27 := hF22.2.1 1 (by decide)
    have f1a_S27 := Fr_fa hF22 1 (by decide)
    have f2_S27 := hF22.2.1 2 (by decide)
    have f2a_S27 := Fr_fa hF22 2 (by decide)
    have f8_S27 := hF22.2.1 8 (by decide)
    have f8a_S27 := Fr_fa hF22 8 (by decide)
    have f10_S27 := hF22.2.1 10 (by decide)
    have f10a_S27 := Fr_fa hF22 10 (by decide)
    have f25_S27 := hF22.2.1 25 (by decide)
    have f25a_S27 := Fr_fa hF22 25 (by decide)
    have f28_S27 := hF22.2.1 28 (by decide)
    have f28a_S27 := Fr_fa hF22 28 (by decide)
    have f35_S27 := hF22.2.1 35 (by decide)
    have f35a_S27 := Fr_fa hF22 35 (by decide)
    have f36_S27 := hF22.2.1 36 (by decide)
    have f36a_S27 := Fr_fa hF22 36 (by decide)
    have f45_S27 := hF22.2.1 45 (by decide)
    have f45a_S27 := Fr_fa hF22 45 (by decide)
    have f46_S27 := hF22.2.1 46 (by decide)
    have f46a_S27 := Fr_fa hF22 46 (by decide)
    have f48_S27 := hF22.2.1 48 (by decide)
    have f48a_S27 := Fr_fa hF22 48 (by decide)
    have f40_S27 := hF22.2.1 40 (by decide)
    have f40a_S27 := Fr_fa hF22 40 (by decide)
    have f41_S27 := hF22.2.1 41 (by decide)
    have f41a_S27 := Fr_fa hF22 41 (by decide)
    have f42_S27 := hF22.2.1 42 (by decide)
    have f42a_S27 := Fr_fa hF22 42 (by decide)
    have f44_S27 := hF22.2.1 44 (by decide)
    have f44a_S27 := Fr_fa hF22 44 (by decide)
    have f29_S27 := hF22.2.1 29 (by decide)
    have f29a_S27 := Fr_fa hF22 29 (by decide)
    have f27_S27 := hF22.2.1 27 (by decide)
    have f27a_S27 := Fr_fa hF22 27 (by decide)
    have f37_S27 := hF22.2.1 37 (by decide)
    have f37a_S27 := Fr_fa hF22 37 (by decide)
    have f38_S27 := hF22.2.1 38 (by decide)
    have f38a_S27 := Fr_fa hF22 38 (by decide)
    have g3_S27 := hF22.2.2 3 (by decide)
    have g3a_S27 := Fr_ga hF22 3 (by decide)
    have g4_S27 := hF22.2.2 4 (by decide)
    have g4a_S27 := Fr_ga hF22 4 (by decide)
    clear hF22
    have aS27 : AFv nx ((S18.2.1 10) (ix (S18.1 12))).toInt (S20.1 9).toInt (S20.1 10).toInt (S.1 9).toInt S27 := qS27.2.2 _ _ _ _ aS25 ⟨by decide, by decide, by decide⟩
    have tf27 : TF nx S (S.1 9) S27 := TF_np tf25 dS27
    refine ⟨by (try clear hC hA hO hP hk tS0 aS25 cS25 uS25 tf25 oS25_ fi25 vS25 h qS27 tS27 dS27 nS27 aS27 tf27); (try clear j425); (try clear j394); (try clear j230); (try clear hr_block); (try clear hf_block); grind -mbtc (splits := 20) (gen := 30) (ematch := 15) [SI, PT, WB_ad2, WB_nt, WB_on, WB_fi, WB_nf, LA_n, LA_p, OR1, B01, PTc_up, ix_int, ix_1, XI, PI, PJ, BU, LV, LA_i, q_zz, q_za, q_zga, q_fza, q_fx, q_fga, q_gza, q_gfa, q_gx, q_zf1, q_zg1, q_ff, q_fg1, q_gf1, q_gg, ti_link, in1000], ?_⟩
    intro S28 eS28
    have dS28 : NP S27 S28 := NP_f eS28 (by decide)
    have tS28 : NT S27 S28 := NT_f eS28 (by decide)
    have nS28 : NC S27 S28 := NC_f eS28 (by decide)
    have oS28 : NO nx S27 S28 := NO_f eS28 (nH_t (by decide) (by (try clear hC hA hO hP hk tS0 aS25 cS25 uS25 tf25 oS25_ fi25 vS25 h qS27 tS27 dS27 nS27 aS27 tf27 dS28 tS28 nS28); (try clear j425); (try clear j394); (try clear j230); (try clear hr_block); (try clear hf_block); grind -mbtc (splits := 20) (gen := 30) (ematch := 15) [SI, PT, WB_ad2, WB_nt, WB_on, WB_fi, WB_nf, LA_n, LA_p, OR1, B01, PTc_up, ix_int, ix_1, XI, PI, PJ, BU, LV, LA_i, q_zz, q_za, q_zga, q_fza, q_fx, q_fga, q_gza, q_gfa, q_gx, q_zf1, q_zg1, q_ff, q_fg1, q_gf1, q_gg, ti_link, in1000]))
    have av28 : AFv nx ((S18.2.1 10) (ix (S18.1 12))).toInt (S20.1 9).toInt (S20.1 10).toInt (S.1 9).toInt S28 := AFv_f eS28 (Or.inr (Or.inr ⟨by (try clear hC hA hO hP hk tS0 aS25 cS25 uS25 tf25 oS25_ fi25 vS25 h qS27 tS27 dS27 nS27 aS27 tf27 dS28 tS28 nS28 oS28); (try clear j425); (try clear j394); (try clear j230); (try clear hr_block); (try clear hf_block); grind -mbtc (splits := 20) (gen := 30) (ematch := 15) [SI, PT, WB_ad2, WB_nt, WB_on, WB_fi, WB_nf, LA_n, LA_p, OR1, B01, PTc_up, ix_int, ix_1, XI, PI, PJ, BU, LV, LA_i, q_zz, q_za, q_zga, q_fza, q_fx, q_fga, q_gza, q_gfa, q_gx, q_zf1, q_zg1, q_ff, q_fg1, q_gf1, q_gg, ti_link, in1000], by decide⟩)) aS27
    have aS28 : AF nx ((S18.2.1 10) (ix (S18.1 12))).toInt S28 := AF_o (AFv_cx (t := S.1 9) (by (try clear hC hA hO hP hk tS0 aS25 cS25 uS25 tf25 oS25_ fi25 vS25 h qS27 tS27 dS27 nS27 aS27 tf27 dS28 tS28 nS28 oS28 av28); (try clear j425); (try clear j394); (try clear j230); (try clear hr_block); (try clear hf_block); grind -mbtc (splits := 20) (gen := 30) (ematch := 15) [SI, PT, WB_ad2, WB_nt, WB_on, WB_fi, WB_nf, LA_n, LA_p, OR1, B01, PTc_up, ix_int, ix_1, XI, PI, PJ, BU, LV, LA_i, q_zz, q_za, q_zga, q_fza, q_fx, q_fga, q_gza, q_gfa, q_gx, q_zf1, q_zg1, q_ff, q_fg1, q_gf1, q_gg, ti_link, in1000]) (fun _ => ⟨by (try clear hC hA hO hP hk tS0 aS25 cS25 uS25 tf25 oS25_ fi25 vS25 h qS27 tS27 dS27 nS27 aS27 tf27 dS28 tS28 nS28 oS28 av28); (try clear j425); (try clear j394); (try clear j230); (try clear hr_block); (try clear hf_block); grind -mbtc (splits := 20) (gen := 30) (ematch := 15) [SI, PT, WB_ad2, WB_nt, WB_on, WB_fi, WB_nf, LA_n, LA_p, OR1, B01, PTc_up, ix_int, ix_1, XI, PI, PJ, BU, LV, LA_i, q_zz, q_za, q_zga, q_fza, q_fx, q_fga, q_gza, q_gfa, q_gx, q_zf1, q_zg1, q_ff, q_fg1, q_gf1, q_gg, ti_link, in1000], by (try clear hC hA hO hP hk tS0 aS25 cS25 uS25 tf25 oS25_ fi25 vS25 h qS27 tS27 dS27 nS27 aS27 tf27 dS28 tS28 nS28 oS28 av28); (try clear j425); (try clear j394); (try clear j230); (try clear hr_block); (try clear hf_block); grind -mbtc (splits := 20) (gen := 30) (ematch := 15) [SI, PT, WB_ad2, WB_nt, WB_on, WB_fi, WB_nf, LA_n, LA_p, OR1, B01, PTc_up, ix_int, ix_1, XI, PI, PJ, BU, LV, LA_i, q_zz, q_za, q_zga, q_fza, q_fx, q_fga, q_gza, q_gfa, q_gx, q_zf1, q_zg1, q_ff, q_fg1, q_gf1, q_gg, ti_link, in1000]⟩) av28) (by (try clear hC hA hO hP hk tS0 aS25 cS25 uS25 tf25 oS25_ fi25 vS25 h qS27 tS27 dS27 nS27 aS27 tf27 dS28 tS28 nS28 oS28 av28); (try clear j425); (try clear j394); (try clear j230); (try clear hr_block); (try clear hf_block); grind -mbtc (splits := 20) (gen := 30) (ematch := 15) [SI, PT, WB_ad2, WB_nt, WB_on, WB_fi, WB_nf, LA_n, LA_p, OR1, B01, PTc_up, ix_int, ix_1, XI, PI, PJ, BU, LV, LA_i, q_zz, q_za, q_zga, q_fza, q_fx, q_fga, q_gza, q_gfa, q_gx, q_zf1, q_zg1, q_ff, q_fg1, q_gf1, q_gg, ti_link, in1000]) (by (try clear hC hA hO hP hk tS0 aS25 cS25 uS25 tf25 oS25_ fi25 vS25 h qS27 tS27 dS27 nS27 aS27 tf27 dS28 tS28 nS28 oS28 av28); (try clear j425); (try clear j394); (try clear j230); (try clear hr_block); (try clear hf_block); grind -mbtc (splits := 20) (gen := 30) (ematch := 15) [SI, PT, WB_ad2, WB_nt, WB_on, WB_fi, WB_nf, LA_n, LA_p, OR1, B01, PTc_up, ix_int, ix_1, XI, PI, PJ, BU, LV, LA_i, q_zz, q_za, q_zga, q_fza, q_fx, q_fga, q_gza, q_gfa, q_gx, q_zf1, q_zg1, q_ff, q_fg1, q_gf1, q_gg, ti_link, in1000])
    have tf28 : TF nx S (S.1 9) S28 := TF_np tf27 dS28
    refine ⟨by (try clear hC hA hO hP hk tS0 aS25 cS25 uS25 tf25 oS25_ fi25 vS25 h qS27 tS27 dS27 nS27 aS27 tf27 dS28 tS28 nS28 oS28 av28 aS28 tf28); (try clear j425); (try clear j394); (try clear j230); (try clear hr_block); (try clear hf_block); grind -mbtc (splits := 20) (gen := 30) (ematch := 15) [SI, PT, WB_ad2, WB_nt, WB_on, WB_fi, WB_nf, LA_n, LA_p, OR1, B01, PTc_up, ix_int, ix_1, XI, PI, PJ, BU, LV, LA_i, q_zz, q_za, q_zga, q_fza, q_fx, q_fga, q_gza, q_gfa, q_gx, q_zf1, q_zg1, q_ff, q_fg1, q_gf1, q_gg, ti_link, in1000], ?_⟩
    intro z29 ez29
    have vz29 : AV nx S28 z29 := AV_i (by (try clear hC hA hO hP hk tS0 aS25 cS25 uS25 tf25 oS25_ fi25 vS25 h qS27 tS27 dS27 nS27 aS27 tf27 dS28 tS28 nS28 oS28 av28 aS28 tf28); (try clear j425); (try clear j394); (try clear j230); (try clear hr_block); (try clear hf_block); grind -mbtc (splits := 20) (gen := 30) (ematch := 15) [SI, PT, WB_ad2, WB_nt, WB_on, WB_fi, WB_nf, LA_n, LA_p, OR1, B01, PTc_up, ix_int, ix_1, XI, PI, PJ, BU, LV, LA_i, q_zz, q_za, q_zga, q_fza, q_fx, q_fga, q_gza, q_gfa, q_gx, q_zf1, q_zg1, q_ff, q_fg1, q_gf1, q_gg, ti_link, in1000]) (by (try clear hC hA hO hP hk tS0 aS25 cS25 uS25 tf25 oS25_ fi25 vS25 h qS27 tS27 dS27 nS27 aS27 tf27 dS28 tS28 nS28 oS28 av28 aS28 tf28); (try clear j425); (try clear j394); (try clear j230); (try clear hr_block); (try clear hf_block); grind -mbtc (splits := 20) (gen := 30) (ematch := 15) [SI, PT, WB_ad2, WB_nt, WB_on, WB_fi, WB_nf, LA_n, LA_p, OR1, B01, PTc_up, ix_int, ix_1, XI, PI, PJ, BU, LV, LA_i, q_zz, q_za, q_zga, q_fza, q_fx, q_fga, q_gza, q_gfa, q_gx, q_zf1, q_zg1, q_ff, q_fg1, q_gf1, q_gg, ti_link, in1000])
    intro S30 eS30
    have lS30 : ∀ m : Int, AV nx S28 z29 → AF nx m S28 → AF nx m S30 := fun m h8 h9 => AF_lv eS30 h8 h9
    have dS30 : NP S28 S30 := NP_z eS30 (by decide)
    have tS30 : NT S28 S30 := NT_z eS30 (by decide)
    have nS30 : NC S28 S30 := NC_z eS30 (by decide)
    have oS30 : NO nx S28 S30 := NO_z eS30
    have tf30 : TF nx S (S.1 9) S30 := TF_np tf28 dS30
    have uS30 : TM S S30 := by (try clear j425); (try clear j394); (try clear j230); (try clear hr_block); (try clear hf_block); grind (ematch := 12) (gen := 12) (splits := 15) [→ CF_nc, → CS_nc, → AF_na, → OH_no, → CS_step, → CS_CF, AF_nf, AQ_o, CS_nf, q_zz, q_za, q_zga, q_fza, q_fx, q_fga, q_gza, q_gfa, q_gx, q_zf1, q_zg1, q_ff, q_fg1, q_gf1, q_gg, AV_i, → CD_nc, CD_nf, ← CD_CS, → PD_np, → TM_nt, → TM_tr, ti_link]
    have aS30 : AF nx ((S18.2.1 10) (ix (S18.1 12))).toInt S30 := by (try clear j425); (try clear j394); (try clear j230); (try clear hr_block); (try clear hf_block); grind (ematch := 12) (gen := 12) (splits := 15) [→ CF_nc, → CS_nc, → AF_na, → OH_no, → CS_step, → CS_CF, AF_nf, AQ_o, CS_nf, q_zz, q_za, q_zga, q_fza, q_fx, q_fga, q_gza, q_gfa, q_gx, q_zf1, q_zg1, q_ff, q_fg1, q_gf1, q_gg, AV_i, → CD_nc, CD_nf, ← CD_CS, → PD_np, → TM_nt, → TM_tr, ti_link]
    have pin30 : PD nx (kd + 1) (sZ (sZ S30 13 (S.1 9)) 14 1) := PD_in hA hf hP tf30 (by (try clear hC hA hO hP hk tS0 aS25 cS25 uS25 tf25 oS25_ fi25 vS25 h qS27 tS27 dS27 nS27 aS27 tf27 dS28 tS28 nS28 oS28 av28 aS28 tf28 vz29 lS30 dS30 tS30 nS30 oS30 tf30 uS30 aS30); (try clear j425); (try clear j394); (try clear j230); (try clear hr_block); (try clear hf_block); grind -mbtc (splits := 20) (gen := 30) (ematch := 15) [SI, PT, WB_ad2, WB_nt, WB_on, WB_fi, WB_nf, LA_n, LA_p, OR1, B01, PTc_up, ix_int, ix_1, XI, PI, PJ, BU, LV, LA_i, q_zz, q_za, q_zga, q_fza, q_fx, q_fga, q_gza, q_gfa, q_gx, q_zf1, q_zg1, q_ff, q_fg1, q_gf1, q_gg, ti_link, in1000]) (by (try clear hC hA hO hP hk tS0 aS25 cS25 uS25 tf25 oS25_ fi25 vS25 h qS27 tS27 dS27 nS27 aS27 tf27 dS28 tS28 nS28 oS28 av28 aS28 tf28 vz29 lS30 dS30 tS30 nS30 oS30 tf30 uS30 aS30); (try clear j425); (try clear j394); (try clear j230); (try clear hr_block); (try clear hf_block); grind -mbtc (splits := 20) (gen := 30) (ematch := 15) [SI, PT, WB_ad2, WB_nt, WB_on, WB_fi, WB_nf, LA_n, LA_p, OR1, B01, PTc_up, ix_int, ix_1, XI, PI, PJ, BU, LV, LA_i, q_zz, q_za, q_zga, q_fza, q_fx, q_fga, q_gza, q_gfa, q_gx, q_zf1, q_zg1, q_ff, q_fg1, q_gf1, q_gg, ti_link, in1000])
    have cS30 : CS nx ((ix (S.1 9), 2, (0 : Int32)) :: (ix (S.1 9), 3, (0 : Int32)) :: kL) (S30.1 9).toInt (S30.1 10).toInt (S.1 9) S30 := by (try clear j425); (try clear j394); (try clear j230); (try clear hr_block); (try clear hf_block); grind (ematch := 12) (gen := 12) (splits := 15) [→ CF_nc, → CS_nc, → AF_na, → OH_no, → CS_step, → CS_CF, AF_nf, AQ_o, CS_nf, q_zz, q_za, q_zga, q_fza, q_fx, q_fga, q_gza, q_gfa, q_gx, q_zf1, q_zg1, q_ff, q_fg1, q_gf1, q_gg, AV_i, → CD_nc, CD_nf, ← CD_CS, → PD_np, → TM_nt, → TM_tr, ti_link]
    have oS30_ : OH nx S0 S30 := by (try clear j425); (try clear j394); (try clear j230); (try clear hr_block); (try clear hf_block); grind (ematch := 12) (gen := 12) (splits := 15) [→ CF_nc, → CS_nc, → AF_na, → OH_no, → CS_step, → CS_CF, AF_nf, AQ_o, CS_nf, q_zz, q_za, q_zga, q_fza, q_fx, q_fga, q_gza, q_gfa, q_gx, q_zf1, q_zg1, q_ff, q_fg1, q_gf1, q_gg, AV_i, → CD_nc, CD_nf, ← CD_CS, → PD_np, → TM_nt, → TM_tr, ti_link]
    have fi30 : (S30.2.1 29) (ix (S.1 9)) = 0 := by (try clear j425); (try clear j394); (try clear j230); (try clear hr_block); (try clear hf_block); grind (ematch := 12) (gen := 12) (splits := 15) [→ CF_nc, → CS_nc, → AF_na, → OH_no, → CS_step, → CS_CF, AF_nf, AQ_o, CS_nf, q_zz, q_za, q_zga, q_fza, q_fx, q_fga, q_gza, q_gfa, q_gx, q_zf1, q_zg1, q_ff, q_fg1, q_gf1, q_gg, AV_i, → CD_nc, CD_nf, ← CD_CS, → PD_np, → TM_nt, → TM_tr, ti_link]
    have vS30 : (S19.1 19).toInt = -1 ∨ AV nx S30 (S19.1 19) := vS25.imp id (fun q => AV_m q (by (try clear hC hA hO hP hk tS0 aS25 cS25 uS25 tf25 oS25_ fi25 vS25 h qS27 tS27 dS27 nS27 aS27 tf27 dS28 tS28 nS28 oS28 av28 aS28 tf28 vz29 lS30 dS30 tS30 nS30 oS30 tf30 uS30 aS30 pin30 cS30 oS30_ fi30); (try clear j425); (try clear j394); (try clear j230); (try clear hr_block); (try clear hf_block); grind -mbtc (splits := 20) (gen := 30) (ematch := 15) [SI, PT, WB_ad2, WB_nt, WB_on, WB_fi, WB_nf, LA_n, LA_p, OR1, B01, PTc_up, ix_int, ix_1, XI, PI, PJ, BU, LV, LA_i, q_zz, q_za, q_zga, q_fza, q_fx, q_fga, q_gza, q_gfa, q_gx, q_zf1, q_zg1, q_ff, q_fg1, q_gf1, q_gg, ti_link, in1000]) (by (try clear hC hA hO hP hk tS0 aS25 cS25 uS25 tf25 oS25_ fi25 vS25 h qS27 tS27 dS27 nS27 aS27 tf27 dS28 tS28 nS28 oS28 av28 aS28 tf28 vz29 lS30 dS30 tS30 nS30 oS30 tf30 uS30 aS30 pin30 cS30 oS30_ fi30); (try clear j425); (try clear j394); (try clear j230); (try clear hr_block); (try clear hf_block); grind -mbtc (splits := 20) (gen := 30) (ematch := 15) [SI, PT, WB_ad2, WB_nt, WB_on, WB_fi, WB_nf, LA_n, LA_p, OR1, B01, PTc_up, ix_int, ix_1, XI, PI, PJ, BU, LV, LA_i, q_zz, q_za, q_zga, q_fza, q_fx, q_fga, q_gza, q_gfa, q_gx, q_zf1, q_zg1, q_ff, q_fg1, q_gf1, q_gg, ti_link, in1000]))
    have hs30 : SI nx n so pl wo ws S0 d (G - 6) GA (X + 4) (Y + 3) GW (GT + 5) S30 ∧ ((S30.1 4) = 0 → (S.1 3).toInt < (S30.1 3).toInt) ∧ (S.1 8).toInt ≤ (S30.1 8).toInt ∧ (S.1 10).toInt ≤ (S30.1 10).toInt ∧ (S.1 9).toInt < (S30.1 9).toInt ∧ 500 * nx ≤ (S.1 9).toInt ∧ (S30.1 13) = (S.1 13) ∧ (S30.1 15) = (S.1 15) ∧ (S30.1 16) = (S.1 16) + 1 ∧ (S30.2.1 10) (ix (S30.1 12)) = (S18.2.1 10) (ix (S18.1 12)) ∧ ¬ (S30.2.1 28) (ix (S.1 9)) = 0 ∧ LA nx (S19.1 19).toInt ∧ (S19.1 19).toInt < 12000 * nx + 12000 := by (try clear hC hA hO hP hk tS0 aS25 cS25 uS25 tf25 oS25_ fi25 vS25 h qS27 tS27 dS27 nS27 aS27 tf27 dS28 tS28 nS28 oS28 av28 aS28 tf28 vz29 lS30 dS30 tS30 nS30 oS30 tf30 uS30 aS30 pin30 cS30 oS30_ fi30 vS30); (try clear j425); (try clear j394); (try clear j230); (try clear hr_block); (try clear hf_block); grind -mbtc (splits := 20) (gen := 30) (ematch := 15) [SI, PT, WB_ad2, WB_nt, WB_on, WB_fi, WB_nf, LA_n, LA_p, OR1, B01, PTc_up, ix_int, ix_1, XI, PI, PJ, BU, LV, LA_i, q_zz, q_za, q_zga, q_fza, q_fx, q_fga, q_gza, q_gfa, q_gx, q_zf1, q_zg1, q_ff, q_fg1, q_gf1, q_gg, ti_link, in1000]
    (try clear eS30); (try clear ez29); (try clear eS28); (try clear fS27); (try clear ez26); (try clear oS30); (try clear nS30); (try clear tS30); (try clear dS30); (try clear lS30); (try clear vz29); (try clear tf28); (try clear aS28); (try clear av28); (try clear oS28); (try clear nS28); (try clear tS28); (try clear dS28); (try clear tf27); (try clear aS27); (try clear nS27); (try clear dS27); (try clear tS27); (try clear qS27); (try clear vS25); (try clear fi25); (try clear oS25_); (try clear tf25); (try clear uS25); (try clear cS25); (try clear aS25); (try clear g4a_S27); (try clear g4_S27); (try clear g3a_S27); (try clear g3_S27); (try clear f38a_S27); (try clear f38_S27); (try clear f37a_S27); (try clear f37_S27); (try clear f27a_S27); (try clear f27_S27); (try clear f29a_S27); (try clear f29_S27); (try clear f44a_S27); (try clear f44_S27); (try clear f42a_S27); (try clear f42_S27); (try clear f41a_S27); (try clear f41_S27); (try clear f40a_S27); (try clear f40_S27); (try clear f48a_S27); (try clear f48_S27); (try clear f46a_S27); (try clear f46_S27); (try clear f45a_S27); (try clear f45_S27); (try clear f36a_S27); (try clear f36_S27); (try clear f35a_S27); (try clear f35_S27); (try clear f28a_S27); (try clear f28_S27); (try clear f25a_S27); (try clear f25_S27); (try clear f10a_S27); (try clear f10_S27); (try clear f8a_S27); (try clear f8_S27); (try clear f2a_S27); (try clear f2_S27); (try clear f1a_S27); (try clear f1_S27); (try clear z16_S27); (try clear z20_S27); (try clear z19_S27); (try clear z18_S27); (try clear z17_S27); (try clear z15_S27); (try clear z13_S27); (try clear z12_S27); (try clear z11_S27); (try clear z10_S27); (try clear z9_S27); (try clear z7_S27); (try clear z6_S27); (try clear z4_S27); (try clear z3_S27); (try clear pS27); (try clear hs25)
    refine fm_inBlock hf_block _ _ _ _ _ (fun S31 hF23 pS31 => ?_) (sg_inBlock hf_block hr_block (nx := nx) (n := n) (so := so) (pl := pl) (wo := wo) (ws := ws) (S0 := S0) (d := d) (G := (G - 6)) (GA := GA) (X := (X + 4)) (Y := (Y + 3)) (GW := GW) (GT := (GT + 5)) (D := D) (kL := ((ix (S.1 9), 2, (0 : Int32)) :: (ix (S.1 9), 3, (0 : Int32)) :: kL)) (kd := (kd + 1)) _ _ (by (try clear hC hA hO hP hk tS0 tf30 uS30 aS30 pin30 cS30 oS30_ fi30 vS30); (try clear j425); (try clear j394); (try clear j230); (try clear hr_block); (try clear hf_block); grind -mbtc (splits := 20) (gen := 30) (ematch := 15) [SI, PT, WB_ad2, WB_nt, WB_on, WB_fi, WB_nf, LA_n, LA_p, OR1, B01, PTc_up, ix_int, ix_1, XI, PI, PJ, BU, LV, LA_i, q_zz, q_za, q_zga, q_fza, q_fx, q_fga, q_gza, q_gfa, q_gx, q_zf1, q_zg1, q_ff, q_fg1, q_gf1, q_gg, ti_link, in1000]) (by (try clear hC hA hO hP hk tS0 tf30 uS30 aS30 pin30 cS30 oS30_ fi30 vS30); (try clear j425); (try clear j394); (try clear j230); (try clear hr_block); (try clear hf_block); grind -mbtc (splits := 20) (gen := 30) (ematch := 15) [SI, PT, WB_ad2, WB_nt, WB_on, WB_fi, WB_nf, LA_n, LA_p, OR1, B01, PTc_up, ix_int, ix_1, XI, PI, PJ, BU, LV, LA_i, q_zz, q_za, q_zga, q_fza, q_fx, q_fga, q_gza, q_gfa, q_gx, q_zf1, q_zg1, q_ff, q_fg1, q_gf1, q_gg, ti_link, in1000]) (by (try clear hC hA hO hP hk tS0 tf30 uS30 aS30 pin30 cS30 oS30_ fi30 vS30); (try clear j425); (try clear j394); (try clear j230); (try clear hr_block); (try clear hf_block); grind -mbtc (splits := 20) (gen := 30) (ematch := 15) [SI, PT, WB_ad2, WB_nt, WB_on, WB_fi, WB_nf, LA_n, LA_p, OR1, B01, PTc_up, ix_int, ix_1, XI, PI, PJ, BU, LV, LA_i, q_zz, q_za, q_zga, q_fza, q_fx, q_fga, q_gza, q_gfa, q_gx, q_zf1, q_zg1, q_ff, q_fg1, q_gf1, q_gg, ti_link, in1000]) (by (try clear hC hA hO hP hk tS0 tf30 uS30 aS30 pin30 cS30 oS30_ fi30 vS30); (try clear j425); (try clear j394); (try clear j230); (try clear hr_block); (try clear hf_block); grind -mbtc (splits := 20) (gen := 30) (ematch := 15) [SI, PT, WB_ad2, WB_nt, WB_on, WB_fi, WB_nf, LA_n, LA_p, OR1, B01, PTc_up, ix_int, ix_1, XI, PI, PJ, BU, LV, LA_i, q_zz, q_za, q_zga, q_fza, q_fx, q_fga, q_gza, q_gfa, q_gx, q_zf1, q_zg1, q_ff, q_fg1, q_gf1, q_gg, ti_link, in1000]) (by (try clear hC hA hO hP hk tS0 tf30 uS30 aS30 pin30 cS30 oS30_ fi30 vS30); (try clear j425); (try clear j394); (try clear j230); (try clear hr_block); (try clear hf_block); grind -mbtc (splits := 20) (gen := 30) (ematch := 15) [SI, PT, WB_ad2, WB_nt, WB_on, WB_fi, WB_nf, LA_n, LA_p, OR1, B01, PTc_up, ix_int, ix_1, XI, PI, PJ, BU, LV, LA_i, q_zz, q_za, q_zga, q_fza, q_fx, q_fga, q_gza, q_gfa, q_gx, q_zf1, q_zg1, q_ff, q_fg1, q_gf1, q_gg, ti_link, in1000]) (by (try clear hC hA hO hP hk tS0 tf30 uS30 aS30 pin30 cS30 oS30_ fi30 vS30); (try clear j425); (try clear j394); (try clear j230); (try clear hr_block); (try clear hf_block); grind -mbtc (splits := 20) (gen := 30) (ematch := 15) [SI, PT, WB_ad2, WB_nt, WB_on, WB_fi, WB_nf, LA_n, LA_p, OR1, B01, PTc_up, ix_int, ix_1, XI, PI, PJ, BU, LV, LA_i, q_zz, q_za, q_zga, q_fza, q_fx, q_fga, q_gza, q_gfa, q_gx, q_zf1, q_zg1, q_ff, q_fg1, q_gf1, q_gg, ti_link, in1000]) (by (try clear j425); (try clear j394); (try clear j230); (try clear hr_block); (try clear hf_block); grind (ematch := 12) (gen := 12) (splits := 15) [→ CF_nc, → CS_nc, → AF_na, → OH_no, → CS_step, → CS_CF, AF_nf, AQ_o, CS_nf, q_zz, q_za, q_zga, q_fza, q_fx, q_fga, q_gza, q_gfa, q_gx, q_zf1, q_zg1, q_ff, q_fg1, q_gf1, q_gg, AV_i, → CD_nc, CD_nf, ← CD_CS, → PD_np, → TM_nt, → TM_tr, ti_link]) (by (try clear j425); (try clear j394); (try clear j230); (try clear hr_block); (try clear hf_block); grind (ematch := 12) (gen := 12) (splits := 15) [→ CF_nc, → CS_nc, → AF_na, → OH_no, → CS_step, → CS_CF, AF_nf, AQ_o, CS_nf, q_zz, q_za, q_zga, q_fza, q_fx, q_fga, q_gza, q_gfa, q_gx, q_zf1, q_zg1, q_ff, q_fg1, q_gf1, q_gg, AV_i, → CD_nc, CD_nf, ← CD_CS, → PD_np, → TM_nt, → TM_tr, ti_link]) (by (try clear j425); (try clear j394); (try clear j230); (try clear hr_block); (try clear hf_block); grind (ematch := 12) (gen := 12) (splits := 15) [→ CF_nc, → CS_nc, → AF_na, → OH_no, → CS_step, → CS_CF, AF_nf, AQ_o, CS_nf, q_zz, q_za, q_zga, q_fza, q_fx, q_fga, q_gza, q_gfa, q_gx, q_zf1, q_zg1, q_ff, q_fg1, q_gf1, q_gg, AV_i, → CD_nc, CD_nf, ← CD_CS, → PD_np, → TM_nt, → TM_tr, ti_link]) (by (try clear j425); (try clear j394); (try clear j230); (try clear hr_block); (try clear hf_block); grind (ematch := 12) (gen := 12) (splits := 15) [→ CF_nc, → CS_nc, → AF_na, → OH_no, → CS_step, → CS_CF, AF_nf, AQ_o, CS_nf, q_zz, q_za, q_zga, q_fza, q_fx, q_fga, q_gza, q_gfa, q_gx, q_zf1, q_zg1, q_ff, q_fg1, q_gf1, q_gg, AV_i, → CD_nc, CD_nf, ← CD_CS, → PD_np, → TM_nt, → TM_tr, ti_link]) (by (try clear j425); (try clear j394); (try clear j230); (try clear hr_block); (try clear hf_block); grind (ematch := 12) (gen := 12) (splits := 15) [→ CF_nc, → CS_nc, → AF_na, → OH_no, → CS_step, → CS_CF, AF_nf, AQ_o, CS_nf, q_zz, q_za, q_zga, q_fza, q_fx, q_fga, q_gza, q_gfa, q_gx, q_zf1, q_zg1, q_ff, q_fg1, q_gf1, q_gg, AV_i, → CD_nc, CD_nf, ← CD_CS, → PD_np, → TM_nt, → TM_tr, ti_link]))
    obtain ⟨pS31, qS31⟩ := pS31
    have z6_S31 := hF23.1 6 (by decide)
    have z12_S31 := hF23.1 12 (by decide)
    have f1_S31 := hF23.2.1 1 (by decide)
    have f1a_S31 := Fr_fa hF23 1 (by decide)
    have f2_S31 := hF23.2.1 2 (by decide)
    have f2a_S31 := Fr_fa hF23 2 (by decide)
    have g3_S31 := hF23.2.2 3 (by decide)
    have g3a_S31 := Fr_ga hF23 3 (by decide)
    have g4_S31 := hF23.2.2 4 (by decide)
    have g4a_S31 := Fr_ga hF23 4 (by decide)
    clear hF23
    have tf31 : TF nx S (S.1 9) S31 := TF_tm tf30 qS31.2.2.2
    have uS31 : TM S S31 := TM_tr uS30 qS31.2.2.2
    have fi31 : (S31.2.1 29) (ix (S.1 9)) = 0 := (qS31.2.2.2.2.2.1 (ix (S.1 9)) (by (try clear hC hA hO hP hk tS0 tf30 uS30 aS30 pin30 cS30 oS30_ fi30 vS30 qS31 tf31 uS31); (try clear j425); (try clear j394); (try clear j230); (try clear hr_block); (try clear hf_block); grind -mbtc (splits := 20) (gen := 30) (ematch := 15) [SI, PT, WB_ad2, WB_nt, WB_on, WB_fi, WB_nf, LA_n, LA_p, OR1, B01, PTc_up, ix_int, ix_1, XI, PI, PJ, BU, LV, LA_i, q_zz, q_za, q_zga, q_fza, q_fx, q_fga, q_gza, q_gfa, q_gx, q_zf1, q_zg1, q_ff, q_fg1, q_gf1, q_gg, ti_link, in1000])).2.2.2.trans fi30
    refine fm_emit _ _ _ _ _ _ (fun S32 r32 hF24 pS32 => ?_) (sg_emit (nx := nx) _ _ _ (by (try clear hC hA hO hP hk tS0 tf30 uS30 aS30 pin30 cS30 oS30_ fi30 vS30 qS31 tf31 uS31 fi31); (try clear j425); (try clear j394); (try clear j230); (try clear hr_block); (try clear hf_block); grind -mbtc (splits := 20) (gen := 30) (ematch := 15) [SI, PT, WB_ad2, WB_nt, WB_on, WB_fi, WB_nf, LA_n, LA_p, OR1, B01, PTc_up, ix_int, ix_1, XI, PI, PJ, BU, LV, LA_i, q_zz, q_za, q_zga, q_fza, q_fx, q_fga, q_gza, q_gfa, q_gx, q_zf1, q_zg1, q_ff, q_fg1, q_gf1, q_gg, ti_link, in1000]))
    obtain ⟨pS32, qS32⟩ := pS32
    have tS32 : NT S31 S32 := NT_fr hF24 (by decide) (by decide)
    have fS32 : S32.1 4 = 0 → S31.1 4 = 0 := fun q => (hF24.1 4 (by decide)).symm.trans q
    have dS32 : NP S31 S32 := NP_fr hF24 (by decide) (by decide) fS32
    have mS32 : NA S31 S32 := NA_fr hF24 (by decide) (by decide) fS32
    have z3_S32 := hF24.1 3 (by decide)
    have z4_S32 := hF24.1 4 (by decide)
    have z6_S32 := hF24.1 6 (by decide)
    have z8_S32 := hF24.1 8 (by decide)
    have z9_S32 := hF24.1 9 (by decide)
    have z10_S32 := hF24.1 10 (by decide)
    have z11_S32 := hF24.1 11 (by decide)
    have z12_S32 := hF24.1 12 (by decide)
    have z13_S32 := hF24.1 13 (by decide)
    have z15_S32 := hF24.1 15 (by decide)
    have z17_S32 := hF24.1 17 (by decide)
    have z18_S32 := hF24.1 18 (by decide)
    have z19_S32 := hF24.1 19 (by decide)
    have z20_S32 := hF24.1 20 (by decide)
    have z16_S32 := hF24.1 16 (by decide)
    have f1_S32 := hF24.2.1 1 (by decide)
    have f1a_S32 := Fr_fa hF24 1 (by decide)
    have f2_S32 := hF24.2.1 2 (by decide)
    have f2a_S32 := Fr_fa hF24 2 (by decide)
    have f8_S32 := hF24.2.1 8 (by decide)
    have f8a_S32 := Fr_fa hF24 8 (by decide)
    have f10_S32 := hF24.2.1 10 (by decide)
    have f10a_S32 := Fr_fa hF24 10 (by decide)
    have f25_S32 := hF24.2.1 25 (by decide)
    have f25a_S32 := Fr_fa hF24 25 (by decide)
    have f28_S32 := hF24.2.1 28 (by decide)
    have f28a_S32 := Fr_fa hF24 28 (by decide)
    have f35_S32 := hF24.2.1 35 (by decide)
    have f35a_S32 := Fr_fa hF24 35 (by decide)
    have f36_S32 := hF24.2.1 36 (by decide)
    have f36a_S32 := Fr_fa hF24 36 (by decide)
    have f45_S32 := hF24.2.1 45 (by decide)
    have f45a_S32 := Fr_fa hF24 45 (by decide)
    have f46_S32 := hF24.2.1 46 (by decide)
    have f46a_S32 := Fr_fa hF24 46 (by decide)
    have f48_S32 := hF24.2.1 48 (by decide)
    have f48a_S32 := Fr_fa hF24 48 (by decide)
    have f40_S32 := hF24.2.1 40 (by decide)
    have f40a_S32 := Fr_fa hF24 40 (by decide)
    have f41_S32 := hF24.2.1 41 (by decide)
    have f41a_S32 := Fr_fa hF24 41 (by decide)
    have f42_S32 := hF24.2.1 42 (by decide)
    have f42a_S32 := Fr_fa hF24 42 (by decide)
    have f44_S32 := hF24.2.1 44 (by decide)
    have f44a_S32 := Fr_fa hF24 44 (by decide)
    have f29_S32 := hF24.2.1 29 (by decide)
    have f29a_S32 := Fr_fa hF24 29 (by decide)
    have f27_S32 := hF24.2.1 27 (by decide)
    have f27a_S32 := Fr_fa hF24 27 (by decide)
    have f37_S32 := hF24.2.1 37 (by decide)
    have f37a_S32 := Fr_fa hF24 37 (by decide)
    have f38_S32 := hF24.2.1 38 (by decide)
    have f38a_S32 := Fr_fa hF24 38 (by decide)
    have g3_S32 := hF24.2.2 3 (by decide)
    have g3a_S32 := Fr_ga hF24 3 (by decide)
    have g4_S32 := hF24.2.2 4 (by decide)
    have g4a_S32 := Fr_ga hF24 4 (by decide)
    clear hF24
    have cS32 : CD nx ((ix (S.1 9), 2, (0 : Int32)) :: (ix (S.1 9), 3, (0 : Int32)) :: kL) (S31.1 9).toInt (S31.1 10).toInt S32 := CD_leave qS32.1 qS31.1 ⟨by (try clear hC hA hO hP hk tS0 tf30 uS30 aS30 pin30 cS30 oS30_ fi30 vS30 qS31 tf31 uS31 fi31 qS32 tS32 dS32 mS32); (try clear j425); (try clear j394); (try clear j230); (try clear hr_block); (try clear hf_block); grind -mbtc (splits := 20) (gen := 30) (ematch := 15) [SI, PT, WB_ad2, WB_nt, WB_on, WB_fi, WB_nf, LA_n, LA_p, OR1, B01, PTc_up, ix_int, ix_1, XI, PI, PJ, BU, LV, LA_i, q_zz, q_za, q_zga, q_fza, q_fx, q_fga, q_gza, q_gfa, q_gx, q_zf1, q_zg1, q_ff, q_fg1, q_gf1, q_gg, ti_link, in1000], tf31.2.2.2.2.2.2.1⟩
    have aS32 : AF nx ((S31.2.1 10) (ix (S31.1 12))).toInt S32 := AF_na mS32 qS31.2.1
    have tf32 : TF nx S (S.1 9) S32 := TF_tm tf31 tS32
    have fi32 : (S32.2.1 29) (ix (S.1 9)) = 0 := by (try clear j425); (try clear j394); (try clear j230); (try clear hr_block); (try clear hf_block); grind (ematch := 12) (gen := 12) (splits := 15) [→ CF_nc, → CS_nc, → AF_na, → OH_no, → CS_step, → CS_CF, AF_nf, AQ_o, CS_nf, q_zz, q_za, q_zga, q_fza, q_fx, q_fga, q_gza, q_gfa, q_gx, q_zf1, q_zg1, q_ff, q_fg1, q_gf1, q_gg, AV_i, → CD_nc, CD_nf, ← CD_CS, → PD_np, → TM_nt, → TM_tr, ti_link]
    have vS32 : (S19.1 19).toInt = -1 ∨ AV nx S32 (S19.1 19) := vS30.imp id (fun q => AV_m q (by (try clear hC hA hO hP hk tS0 tf30 uS30 aS30 pin30 cS30 oS30_ fi30 vS30 qS31 tf31 uS31 fi31 qS32 tS32 dS32 mS32 cS32 aS32 tf32 fi32); (try clear j425); (try clear j394); (try clear j230); (try clear hr_block); (try clear hf_block); grind -mbtc (splits := 20) (gen := 30) (ematch := 15) [SI, PT, WB_ad2, WB_nt, WB_on, WB_fi, WB_nf, LA_n, LA_p, OR1, B01, PTc_up, ix_int, ix_1, XI, PI, PJ, BU, LV, LA_i, q_zz, q_za, q_zga, q_fza, q_fx, q_fga, q_gza, q_gfa, q_gx, q_zf1, q_zg1, q_ff, q_fg1, q_gf1, q_gg, ti_link, in1000]) (by (try clear hC hA hO hP hk tS0 tf30 uS30 aS30 pin30 cS30 oS30_ fi30 vS30 qS31 tf31 uS31 fi31 qS32 tS32 dS32 mS32 cS32 aS32 tf32 fi32); (try clear j425); (try clear j394); (try clear j230); (try clear hr_block); (try clear hf_block); grind -mbtc (splits := 20) (gen := 30) (ematch := 15) [SI, PT, WB_ad2, WB_nt, WB_on, WB_fi, WB_nf, LA_n, LA_p, OR1, B01, PTc_up, ix_int, ix_1, XI, PI, PJ, BU, LV, LA_i, q_zz, q_za, q_zga, q_fza, q_fx, q_fga, q_gza, q_gfa, q_gx, q_zf1, q_zg1, q_ff, q_fg1, q_gf1, q_gg, ti_link, in1000]))
    have wS32 : (S32.1 19).toInt = -1 ∨ AV nx S32 (S32.1 19) := AV_last aS32
    exact j230 _ _ _ _ (⟨by (try clear hC hA hO hP hk tS0 tf30 uS30 aS30 pin30 cS30 oS30_ fi30 vS30 qS31 tf31 uS31 fi31 qS32 tS32 dS32 mS32 cS32 aS32 tf32 fi32 vS32 wS32); (try clear j425); (try clear j394); (try clear j230); (try clear hr_block); (try clear hf_block); grind -mbtc (splits := 20) (gen := 30) (ematch := 15) [SI, PT, WB_ad2, WB_nt, WB_on, WB_fi, WB_nf, LA_n, LA_p, OR1, B01, PTc_up, ix_int, ix_1, XI, PI, PJ, BU, LV, LA_i, q_zz, q_za, q_zga, q_fza, q_fx, q_fga, q_gza, q_gfa, q_gx, q_zf1, q_zg1, q_ff, q_fg1, q_gf1, q_gg, ti_link, in1000], by refine ⟨?_, ?_, ?_, ?_, ?_, ?_, ?_, ?_⟩ <;> ((try clear j425); (try clear j394); (try clear j230); (try clear hr_block); (try clear hf_block); grind (ematch := 12) (gen := 12) (splits := 15) [→ CF_nc, → CS_nc, → AF_na, → OH_no, → CS_step, → CS_CF, AF_nf, AQ_o, CS_nf, q_zz, q_za, q_zga, q_fza, q_fx, q_fga, q_gza, q_gfa, q_gx, q_zf1, q_zg1, q_ff, q_fg1, q_gf1, q_gg, AV_i, → CD_nc, CD_nf, ← CD_CS, → PD_np, → TM_nt, → TM_tr, ti_link])⟩)
