
set_option maxHeartbeats 4000000 in
theorem sg_product {nx n : Nat} {so pl : Nat → Int32} {wo ws : Nat → Int64} {S0 : mS} {D d : Nat} {G GA X Y : Int} {kL : LT3} {kn kw kh ki kc ko km : Int} {kt : Int32} {r_part : mS → (mS → Prop) → Prop} (hf_part : FmV [3, 4, 7, 8, 18, 19] [8, 12, 13, 14, 15, 16, 17, 18, 19, 20, 21] [9] (r_part)) (hr_part : ∀ (d : Nat) (G GA X Y : Int) (kL : LT3) (kn kw kh ki kc ko km : Int) (kt : Int32) (S : mS), D ≤ d → LV d G GA X Y → XI nx n so pl wo ws S0 d G GA X Y S → (CF nx kL kn kw kh 0 ki kc ko kt S) → (AF nx km S) → (OH nx S0 S) → (0 ≤ kh) → r_part S (fun S1 => (XI nx n so pl wo ws S0 d (G - 1) GA X Y S1 ∧ ((S1.1 4) = 0 → (S.1 4) = 0 ∧ (S.1 3).toInt < (S1.1 3).toInt) ∧ (S.1 8).toInt ≤ (S1.1 8).toInt) ∧ (CF nx kL kn kw (kh + 1) 0 ki kc ko kt S1 ∧ CF nx kL kn kw (kh + 1) 0 ki (kc + 1) ko kt S1 ∧ AF nx km S1 ∧ OH nx S0 S1))) {S : mS} (hL : LV d G GA X Y) (h : XI nx n so pl wo ws S0 d G GA X Y S) (hD : D ≤ d) (hC : CF nx kL kn kw kh 0 ki kc ko kt S) (hA : AF nx km S) (hO : OH nx S0 S) (hh : 0 ≤ kh) : wp_product r_part S (fun S1 => (XI nx n so pl wo ws S0 d (G - 1) GA (X + 2) (Y + 1) S1 ∧ ((S1.1 4) = 0 → (S.1 4) = 0 ∧ (S.1 3).toInt < (S1.1 3).toInt) ∧ (S.1 8).toInt ≤ (S1.1 8).toInt) ∧ (CF nx kL kn kw (kh + 1) 0 ki kc ko kt S1 ∧ CF nx kL kn kw (kh + 1) 0 ki (kc + 1) ko kt S1 ∧ AF nx km S1 ∧ OH nx S0 S1)) := by
  unfold wp_product
  refine hf_part _ _ _ (fun S1 hF1 pS1 => ?_) (hr_part d G GA X Y kL kn kw kh ki kc ko km kt _ (by (try clear hC hA hO hh); (try clear j31); (try clear j61); (try clear hk4); (try clear hr_part); (try clear hf_part); grind [XI, PI, PJ, BU, LV, LA_i, q_zz, q_za, q_zga, q_fza, q_fx, q_fga, q_gza, q_gfa, q_gx, q_zf1, q_zg1, q_ff, q_fg1, q_gf1, q_gg, ti_link]) (by (try clear hC hA hO hh); (try clear j31); (try clear j61); (try clear hk4); (try clear hr_part); (try clear hf_part); grind [XI, PI, PJ, BU, LV, LA_i, q_zz, q_za, q_zga, q_fza, q_fx, q_fga, q_gza, q_gfa, q_gx, q_zf1, q_zg1, q_ff, q_fg1, q_gf1, q_gg, ti_link]) (by (try clear hC hA hO hh); (try clear j31); (try clear j61); (try clear hk4); (try clear hr_part); (try clear hf_part); grind [XI, PI, PJ, BU, LV, LA_i, q_zz, q_za, q_zga, q_fza, q_fx, q_fga, q_gza, q_gfa, q_gx, q_zf1, q_zg1, q_ff, q_fg1, q_gf1, q_gg, ti_link]) (by (try clear j31); (try clear j61); (try clear hk4); (try clear hr_part); (try clear hf_part); grind [CF_nc, AF_na, OH_no, AQ_o, CF_nf, CF_dec, CF_e0, CF_bin, CF_step, CF_num, CF_clk, CF_cell, CF_neg, ti_link]) (by (try clear j31); (try clear j61); (try clear hk4); (try clear hr_part); (try clear hf_part); grind [CF_nc, AF_na, OH_no, AQ_o, CF_nf, CF_dec, CF_e0, CF_bin, CF_step, CF_num, CF_clk, CF_cell, CF_neg, ti_link]) (by (try clear j31); (try clear j61); (try clear hk4); (try clear hr_part); (try clear hf_part); grind [CF_nc, AF_na, OH_no, AQ_o, CF_nf, CF_dec, CF_e0, CF_bin, CF_step, CF_num, CF_clk, CF_cell, CF_neg, ti_link]) (by (try clear j31); (try clear j61); (try clear hk4); (try clear hr_part); (try clear hf_part); grind [CF_nc, AF_na, OH_no, AQ_o, CF_nf, CF_dec, CF_e0, CF_bin, CF_step, CF_num, CF_clk, CF_cell, CF_neg, ti_link]))
  obtain ⟨pS1, qS1⟩ := pS1
  have z6_S1 := hF1.1 6 (by decide)
  have z11_S1 := hF1.1 11 (by decide)
  have z12_S1 := hF1.1 12 (by decide)
  have f1_S1 := hF1.2.1 1 (by decide)
  have f1a_S1 := Fr_fa hF1 1 (by decide)
  have f2_S1 := hF1.2.1 2 (by decide)
  have f2a_S1 := Fr_fa hF1 2 (by decide)
  have f46_S1 := hF1.2.1 46 (by decide)
  have f46a_S1 := Fr_fa hF1 46 (by decide)
  have f48_S1 := hF1.2.1 48 (by decide)
  have f48a_S1 := Fr_fa hF1 48 (by decide)
  have g3_S1 := hF1.2.2 3 (by decide)
  have g3a_S1 := Fr_ga hF1 3 (by decide)
  have g4_S1 := hF1.2.2 4 (by decide)
  have g4a_S1 := Fr_ga hF1 4 (by decide)
  clear hF1
  refine it_rule (fun u : mS => (XI nx n so pl wo ws S0 d (G - 1) GA (X + 2) (Y + 1) u ∧ ((u.1 4) = 0 → (S.1 4) = 0 ∧ (S.1 3).toInt < (u.1 3).toInt) ∧ (S.1 8).toInt ≤ (u.1 8).toInt) ∧ (CF nx kL kn kw (kh + 1) 0 ki kc ko kt u ∧ CF nx kL kn kw (kh + 1) 0 ki (kc + 1) ko kt u ∧ AF nx km u ∧ OH nx S0 u)) (fun u => (if (u.1 4) = 0 then (n : Int) - (u.1 3).toInt + 1 else 0).toNat) ?_ (⟨by (try clear hC hA hO hh qS1); (try clear j31); (try clear j61); (try clear hk4); (try clear hr_part); (try clear hf_part); grind [XI, PI, PJ, BU, LV, LA_i, q_zz, q_za, q_zga, q_fza, q_fx, q_fga, q_gza, q_gfa, q_gx, q_zf1, q_zg1, q_ff, q_fg1, q_gf1, q_gg, ti_link], by refine ⟨?_, ?_, ?_, ?_⟩ <;> ((try clear j31); (try clear j61); (try clear hk4); (try clear hr_part); (try clear hf_part); grind [CF_nc, AF_na, OH_no, AQ_o, CF_nf, CF_dec, CF_e0, CF_bin, CF_step, CF_num, CF_clk, CF_cell, CF_neg, ti_link])⟩)
  rintro Sl4 k4 hI4 hk4
  replace hI4 : (XI nx n so pl wo ws S0 d (G - 1) GA (X + 2) (Y + 1) Sl4 ∧ ((Sl4.1 4) = 0 → (S.1 4) = 0 ∧ (S.1 3).toInt < (Sl4.1 3).toInt) ∧ (S.1 8).toInt ≤ (Sl4.1 8).toInt) ∧ (CF nx kL kn kw (kh + 1) 0 ki kc ko kt Sl4 ∧ CF nx kL kn kw (kh + 1) 0 ki (kc + 1) ko kt Sl4 ∧ AF nx km Sl4 ∧ OH nx S0 Sl4) := hI4
  replace hk4 : ∀ v : mS, (XI nx n so pl wo ws S0 d (G - 1) GA (X + 2) (Y + 1) v ∧ ((v.1 4) = 0 → (S.1 4) = 0 ∧ (S.1 3).toInt < (v.1 3).toInt) ∧ (S.1 8).toInt ≤ (v.1 8).toInt) ∧ (CF nx kL kn kw (kh + 1) 0 ki kc ko kt v ∧ CF nx kL kn kw (kh + 1) 0 ki (kc + 1) ko kt v ∧ AF nx km v ∧ OH nx S0 v) → (if (v.1 4) = 0 then (n : Int) - (v.1 3).toInt + 1 else 0).toNat < (if (Sl4.1 4) = 0 then (n : Int) - (Sl4.1 3).toInt + 1 else 0).toNat → k4 v := hk4
  show wp_product_4 r_part _ k4  Sl4
  unfold wp_product_4
  obtain ⟨hI4, iI4⟩ := hI4
  have j61 : ∀ (y0 : Int32) (Sx : mS), (XI nx n so pl wo ws S0 d (G - 1) GA (X + 2) (Y + 1) Sx ∧ ((Sx.1 4) = 0 → (S.1 4) = 0 ∧ (S.1 3).toInt < (Sx.1 3).toInt) ∧ (S.1 8).toInt ≤ (Sx.1 8).toInt ∧ (Sx.1 4) = 0 ∧ (Sx.1 3).toInt < n ∧ (Sl4.1 4) = 0 ∧ (Sl4.1 3).toInt ≤ (Sx.1 3).toInt ∧ 6 ≤ y0.toInt ∧ y0.toInt ≤ 8) ∧ (CF nx kL kn kw (kh + 1) 0 ki kc ko kt Sx ∧ CF nx kL kn kw (kh + 1) 0 ki (kc + 1) ko kt Sx ∧ AF nx km Sx ∧ OH nx S0 Sx) → wp_product_61 r_part (fun S1 => (XI nx n so pl wo ws S0 d (G - 1) GA (X + 2) (Y + 1) S1 ∧ ((S1.1 4) = 0 → (S.1 4) = 0 ∧ (S.1 3).toInt < (S1.1 3).toInt) ∧ (S.1 8).toInt ≤ (S1.1 8).toInt) ∧ (CF nx kL kn kw (kh + 1) 0 ki kc ko kt S1 ∧ CF nx kL kn kw (kh + 1) 0 ki (kc + 1) ko kt S1 ∧ AF nx km S1 ∧ OH nx S0 S1)) k4 y0 Sx := by
    intro y0 Sx hJ61
    unfold wp_product_61
    obtain ⟨hJ61, iJ61⟩ := hJ61
    intro z12 ez12
    intro S13 eS13
    have nS13 : NC Sx S13 := NC_z eS13 (by decide)
    have mS13 : NA Sx S13 := NA_z eS13 (by decide)
    have oS13 : NO nx Sx S13 := NO_z eS13
    refine hf_part _ _ _ (fun S14 hF2 pS14 => ?_) (hr_part d (G - 6) (GA - 2) X Y kL kn kw (kh + 1) ki kc ko km kt _ (by (try clear hC hA hO hh qS1 iI4 iJ61 nS13 mS13 oS13); (try clear j31); (try clear j61); (try clear hk4); (try clear hr_part); (try clear hf_part); grind [XI, PI, PJ, BU, LV, LA_i, q_zz, q_za, q_zga, q_fza, q_fx, q_fga, q_gza, q_gfa, q_gx, q_zf1, q_zg1, q_ff, q_fg1, q_gf1, q_gg, ti_link]) (by (try clear hC hA hO hh qS1 iI4 iJ61 nS13 mS13 oS13); (try clear j31); (try clear j61); (try clear hk4); (try clear hr_part); (try clear hf_part); grind [XI, PI, PJ, BU, LV, LA_i, q_zz, q_za, q_zga, q_fza, q_fx, q_fga, q_gza, q_gfa, q_gx, q_zf1, q_zg1, q_ff, q_fg1, q_gf1, q_gg, ti_link]) (by (try clear hC hA hO hh qS1 iI4 iJ61 nS13 mS13 oS13); (try clear j31); (try clear j61); (try clear hk4); (try clear hr_part); (try clear hf_part); grind [XI, PI, PJ, BU, LV, LA_i, q_zz, q_za, q_zga, q_fza, q_fx, q_fga, q_gza, q_gfa, q_gx, q_zf1, q_zg1, q_ff, q_fg1, q_gf1, q_gg, ti_link]) (by (try clear j31); (try clear j61); (try clear hk4); (try clear hr_part); (try clear hf_part); grind [CF_nc, AF_na, OH_no, AQ_o, CF_nf, CF_dec, CF_e0, CF_bin, CF_step, CF_num, CF_clk, CF_cell, CF_neg, ti_link]) (by (try clear j31); (try clear j61); (try clear hk4); (try clear hr_part); (try clear hf_part); grind [CF_nc, AF_na, OH_no, AQ_o, CF_nf, CF_dec, CF_e0, CF_bin, CF_step, CF_num, CF_clk, CF_cell, CF_neg, ti_link]) (by (try clear j31); (try clear j61); (try clear hk4); (try clear hr_part); (try clear hf_part); grind [CF_nc, AF_na, OH_no, AQ_o, CF_nf, CF_dec, CF_e0, CF_bin, CF_step, CF_num, CF_clk, CF_cell, CF_neg, ti_link]) (by (try clear j31); (try clear j61); (try clear hk4); (try clear hr_part); (try clear hf_part); grind [CF_nc, AF_na, OH_no, AQ_o, CF_nf, CF_dec, CF_e0, CF_bin, CF_step, CF_num, CF_clk, CF_cell, CF_neg, ti_link]))
    obtain ⟨pS14, qS14⟩ := pS14
    have z6_S14 := hF2.1 6 (by decide)
    have z11_S14 := hF2.1 11 (by decide)
    have z12_S14 := hF2.1 12 (by decide)
    have f1_S14 := hF2.2.1 1 (by decide)
    have f1a_S14 := Fr_fa hF2 1 (by decide)
    have f2_S14 := hF2.2.1 2 (by decide)
    have f2a_S14 := Fr_fa hF2 2 (by decide)
    have f46_S14 := hF2.2.1 46 (by decide)
    have f46a_S14 := Fr_fa hF2 46 (by decide)
    have f48_S14 := hF2.2.1 48 (by decide)
    have f48a_S14 := Fr_fa hF2 48 (by decide)
    have g3_S14 := hF2.2.2 3 (by decide)
    have g3a_S14 := Fr_ga hF2 3 (by decide)
    have g4_S14 := hF2.2.2 4 (by decide)
    have g4a_S14 := Fr_ga hF2 4 (by decide)
    clear hF2
    refine fm_emit _ _ _ _ _ _ (fun S15 r15 hF3 pS15 => ?_) (sg_emit (nx := nx) _ _ _ (by (try clear hC hA hO hh qS1 iI4 iJ61 nS13 mS13 oS13 qS14); (try clear j31); (try clear j61); (try clear hk4); (try clear hr_part); (try clear hf_part); grind [XI, PI, PJ, BU, LV, LA_i, q_zz, q_za, q_zga, q_fza, q_fx, q_fga, q_gza, q_gfa, q_gx, q_zf1, q_zg1, q_ff, q_fg1, q_gf1, q_gg, ti_link]))
    obtain ⟨pS15, qS15⟩ := pS15
    have fS15 : S15.1 4 = 0 → S14.1 4 = 0 := fun q => (hF3.1 4 (by decide)).symm.trans q
    have mS15 : NA S14 S15 := NA_fr hF3 (by decide) (by decide) fS15
    have z3_S15 := hF3.1 3 (by decide)
    have z4_S15 := hF3.1 4 (by decide)
    have z6_S15 := hF3.1 6 (by decide)
    have z8_S15 := hF3.1 8 (by decide)
    have z11_S15 := hF3.1 11 (by decide)
    have z12_S15 := hF3.1 12 (by decide)
    have z18_S15 := hF3.1 18 (by decide)
    have z19_S15 := hF3.1 19 (by decide)
    have f1_S15 := hF3.2.1 1 (by decide)
    have f1a_S15 := Fr_fa hF3 1 (by decide)
    have f2_S15 := hF3.2.1 2 (by decide)
    have f2a_S15 := Fr_fa hF3 2 (by decide)
    have f8_S15 := hF3.2.1 8 (by decide)
    have f8a_S15 := Fr_fa hF3 8 (by decide)
    have f46_S15 := hF3.2.1 46 (by decide)
    have f46a_S15 := Fr_fa hF3 46 (by decide)
    have f48_S15 := hF3.2.1 48 (by decide)
    have f48a_S15 := Fr_fa hF3 48 (by decide)
    have g3_S15 := hF3.2.2 3 (by decide)
    have g3a_S15 := Fr_ga hF3 3 (by decide)
    have g4_S15 := hF3.2.2 4 (by decide)
    have g4a_S15 := Fr_ga hF3 4 (by decide)
    clear hF3
    refine ⟨fun c4 => ?_, fun c4 => ?_⟩
    · unfold wp_product_97
      exact hk4 _ (⟨by (try clear hC hA hO hh qS1 iI4 iJ61 nS13 mS13 oS13 qS14 qS15 mS15); (try clear j31); (try clear j61); (try clear hk4); (try clear hr_part); (try clear hf_part); grind [XI, PI, PJ, BU, LV, LA_i, q_zz, q_za, q_zga, q_fza, q_fx, q_fga, q_gza, q_gfa, q_gx, q_zf1, q_zg1, q_ff, q_fg1, q_gf1, q_gg, ti_link], by refine ⟨?_, ?_, ?_, ?_⟩ <;> ((try clear j31); (try clear j61); (try clear hk4); (try clear hr_part); (try clear hf_part); grind [CF_nc, AF_na, OH_no, AQ_o, CF_nf, CF_dec, CF_e0, CF_bin, CF_step, CF_num, CF_clk, CF_cell, CF_neg, ti_link])⟩) (by (try clear hC hA hO hh qS1 iI4 iJ61 nS13 mS13 oS13 qS14 qS15 mS15); (try clear j31); (try clear j61); (try clear hk4); (try clear hr_part); (try clear hf_part); grind [XI, PI, PJ, BU, LV, LA_i, q_zz, q_za, q_zga, q_fza, q_fx, q_fga, q_gza, q_gfa, q_gx, q_zf1, q_zg1, q_ff, q_fg1, q_gf1, q_gg, ti_link])
    · refine fm_then _ _ _ _ _ (fun S17 r17 hF5 pS17 => ?_) (sg_then (nx := nx) _ _ (by (try clear hC hA hO hh qS1 iI4 iJ61 nS13 mS13 oS13 qS14 qS15 mS15); (try clear j31); (try clear j61); (try clear hk4); (try clear hr_part); (try clear hf_part); grind [XI, PI, PJ, BU, LV, LA_i, q_zz, q_za, q_zga, q_fza, q_fx, q_fga, q_gza, q_gfa, q_gx, q_zf1, q_zg1, q_ff, q_fg1, q_gf1, q_gg, ti_link]))
      obtain ⟨pS17, qS17⟩ := pS17
      have fS17 : S17.1 4 = 0 → S15.1 4 = 0 := fun q => (hF5.1 4 (by decide)).symm.trans q
      have nS17 : NC S15 S17 := NC_fr hF5 (by decide) (by decide) fS17
      have z3_S17 := hF5.1 3 (by decide)
      have z4_S17 := hF5.1 4 (by decide)
      have z6_S17 := hF5.1 6 (by decide)
      have z7_S17 := hF5.1 7 (by decide)
      have z11_S17 := hF5.1 11 (by decide)
      have z12_S17 := hF5.1 12 (by decide)
      have z18_S17 := hF5.1 18 (by decide)
      have f1_S17 := hF5.2.1 1 (by decide)
      have f1a_S17 := Fr_fa hF5 1 (by decide)
      have f2_S17 := hF5.2.1 2 (by decide)
      have f2a_S17 := Fr_fa hF5 2 (by decide)
      have f8_S17 := hF5.2.1 8 (by decide)
      have f8a_S17 := Fr_fa hF5 8 (by decide)
      have f46_S17 := hF5.2.1 46 (by decide)
      have f46a_S17 := Fr_fa hF5 46 (by decide)
      have f48_S17 := hF5.2.1 48 (by decide)
      have f48a_S17 := Fr_fa hF5 48 (by decide)
      have g3_S17 := hF5.2.2 3 (by decide)
      have g3a_S17 := Fr_ga hF5 3 (by decide)
      have g4_S17 := hF5.2.2 4 (by decide)
      have g4a_S17 := Fr_ga hF5 4 (by decide)
      clear hF5
      unfold wp_product_97
      exact hk4 _ (⟨by (try clear hC hA hO hh qS1 iI4 iJ61 nS13 mS13 oS13 qS14 qS15 mS15 qS17 nS17); (try clear j31); (try clear j61); (try clear hk4); (try clear hr_part); (try clear hf_part); grind [XI, PI, PJ, BU, LV, LA_i, q_zz, q_za, q_zga, q_fza, q_fx, q_fga, q_gza, q_gfa, q_gx, q_zf1, q_zg1, q_ff, q_fg1, q_gf1, q_gg, ti_link], by refine ⟨?_, ?_, ?_, ?_⟩ <;> ((try clear j31); (try clear j61); (try clear hk4); (try clear hr_part); (try clear hf_part); grind [CF_nc, AF_na, OH_no, AQ_o, CF_nf, CF_dec, CF_e0, CF_bin, CF_step, CF_num, CF_clk, CF_cell, CF_neg, ti_link])⟩) (by (try clear hC hA hO hh qS1 iI4 iJ61 nS13 mS13 oS13 qS14 qS15 mS15 qS17 nS17); (try clear j31); (try clear j61); (try clear hk4); (try clear hr_part); (try clear hf_part); grind [XI, PI, PJ, BU, LV, LA_i, q_zz, q_za, q_zga, q_fza, q_fx, q_fga, q_gza, q_gfa, q_gx, q_zf1, q_zg1, q_ff, q_fg1, q_gf1, q_gg, ti_link])
  have j31 : ∀ (Sx : mS), (XI nx n so pl wo ws S0 d (G - 1) GA (X + 2) (Y + 1) Sx ∧ ((Sx.1 4) = 0 → (S.1 4) = 0 ∧ (S.1 3).toInt < (Sx.1 3).toInt) ∧ (S.1 8).toInt ≤ (Sx.1 8).toInt ∧ (Sx.1 4) = 0 ∧ (Sx.1 3).toInt < n ∧ ((Sl4.1 4) = 0 → (Sl4.1 3).toInt ≤ (Sx.1 3).toInt) ∧ (Sl4.1 4) = 0) ∧ (CF nx kL kn kw (kh + 1) 0 ki kc ko kt Sx ∧ CF nx kL kn kw (kh + 1) 0 ki (kc + 1) ko kt Sx ∧ AF nx km Sx ∧ OH nx S0 Sx) → wp_product_31 r_part (fun S1 => (XI nx n so pl wo ws S0 d (G - 1) GA (X + 2) (Y + 1) S1 ∧ ((S1.1 4) = 0 → (S.1 4) = 0 ∧ (S.1 3).toInt < (S1.1 3).toInt) ∧ (S.1 8).toInt ≤ (S1.1 8).toInt) ∧ (CF nx kL kn kw (kh + 1) 0 ki kc ko kt S1 ∧ CF nx kL kn kw (kh + 1) 0 ki (kc + 1) ko kt S1 ∧ AF nx km S1 ∧ OH nx S0 S1)) k4 Sx := by
    intro Sx hJ31
    unfold wp_product_31
    obtain ⟨hJ31, iJ31⟩ := hJ31
    refine fm_isSign _ _ _ _ (fun S8 r8 hF6 pS8 => ?_) (sg_isSign (nx := nx) (n := n) (so := so) (pl := pl) (wo := wo) (ws := ws) _ (by (try clear hC hA hO hh qS1 iI4 iJ31); (try clear j31); (try clear j61); (try clear hk4); (try clear hr_part); (try clear hf_part); grind [XI, PI, PJ, BU, LV, LA_i, q_zz, q_za, q_zga, q_fza, q_fx, q_fga, q_gza, q_gfa, q_gx, q_zf1, q_zg1, q_ff, q_fg1, q_gf1, q_gg, ti_link]))
    have fS8 : S8.1 4 = 0 → Sx.1 4 = 0 := fun q => (hF6.1 4 (by decide)).symm.trans q
    have nS8 : NC Sx S8 := NC_fr hF6 (by decide) (by decide) fS8
    have mS8 : NA Sx S8 := NA_fr hF6 (by decide) (by decide) fS8
    have oS8 : NO nx Sx S8 := NO_fr hF6 (by decide) (by decide)
    have z3_S8 := hF6.1 3 (by decide)
    have z4_S8 := hF6.1 4 (by decide)
    have z6_S8 := hF6.1 6 (by decide)
    have z7_S8 := hF6.1 7 (by decide)
    have z8_S8 := hF6.1 8 (by decide)
    have z11_S8 := hF6.1 11 (by decide)
    have z12_S8 := hF6.1 12 (by decide)
    have z18_S8 := hF6.1 18 (by decide)
    have z19_S8 := hF6.1 19 (by decide)
    have f1_S8 := hF6.2.1 1 (by decide)
    have f1a_S8 := Fr_fa hF6 1 (by decide)
    have f2_S8 := hF6.2.1 2 (by decide)
    have f2a_S8 := Fr_fa hF6 2 (by decide)
    have f8_S8 := hF6.2.1 8 (by decide)
    have f8a_S8 := Fr_fa hF6 8 (by decide)
    have f46_S8 := hF6.2.1 46 (by decide)
    have f46a_S8 := Fr_fa hF6 46 (by decide)
    have f48_S8 := hF6.2.1 48 (by decide)
    have f48a_S8 := Fr_fa hF6 48 (by decide)
    have g3_S8 := hF6.2.2 3 (by decide)
    have g3a_S8 := Fr_ga hF6 3 (by decide)
    have g4_S8 := hF6.2.2 4 (by decide)
    have g4a_S8 := Fr_ga hF6 4 (by decide)
    clear hF6
    refine ⟨fun c7 => ?_, fun c7 => ?_⟩
    · refine fm_isSign _ _ _ _ (fun S10 r10 hF8 pS10 => ?_) (sg_isSign (nx := nx) (n := n) (so := so) (pl := pl) (wo := wo) (ws := ws) _ (by (try clear hC hA hO hh qS1 iI4 iJ31 nS8 mS8 oS8); (try clear j31); (try clear j61); (try clear hk4); (try clear hr_part); (try clear hf_part); grind [XI, PI, PJ, BU, LV, LA_i, q_zz, q_za, q_zga, q_fza, q_fx, q_fga, q_gza, q_gfa, q_gx, q_zf1, q_zg1, q_ff, q_fg1, q_gf1, q_gg, ti_link]))
      have fS10 : S10.1 4 = 0 → S8.1 4 = 0 := fun q => (hF8.1 4 (by decide)).symm.trans q
      have nS10 : NC S8 S10 := NC_fr hF8 (by decide) (by decide) fS10
      have mS10 : NA S8 S10 := NA_fr hF8 (by decide) (by decide) fS10
      have oS10 : NO nx S8 S10 := NO_fr hF8 (by decide) (by decide)
      have z3_S10 := hF8.1 3 (by decide)
      have z4_S10 := hF8.1 4 (by decide)
      have z6_S10 := hF8.1 6 (by decide)
      have z7_S10 := hF8.1 7 (by decide)
      have z8_S10 := hF8.1 8 (by decide)
      have z11_S10 := hF8.1 11 (by decide)
      have z12_S10 := hF8.1 12 (by decide)
      have z18_S10 := hF8.1 18 (by decide)
      have z19_S10 := hF8.1 19 (by decide)
      have f1_S10 := hF8.2.1 1 (by decide)
      have f1a_S10 := Fr_fa hF8 1 (by decide)
      have f2_S10 := hF8.2.1 2 (by decide)
      have f2a_S10 := Fr_fa hF8 2 (by decide)
      have f8_S10 := hF8.2.1 8 (by decide)
      have f8a_S10 := Fr_fa hF8 8 (by decide)
      have f46_S10 := hF8.2.1 46 (by decide)
      have f46a_S10 := Fr_fa hF8 46 (by decide)
      have f48_S10 := hF8.2.1 48 (by decide)
      have f48a_S10 := Fr_fa hF8 48 (by decide)
      have g3_S10 := hF8.2.2 3 (by decide)
      have g3a_S10 := Fr_ga hF8 3 (by decide)
      have g4_S10 := hF8.2.2 4 (by decide)
      have g4a_S10 := Fr_ga hF8 4 (by decide)
      clear hF8
      refine ⟨fun c9 => ?_, fun c9 => ?_⟩
      · exact j61 _ _ (⟨by (try clear hC hA hO hh qS1 iI4 iJ31 nS8 mS8 oS8 nS10 mS10 oS10); (try clear j31); (try clear j61); (try clear hk4); (try clear hr_part); (try clear hf_part); grind [XI, PI, PJ, BU, LV, LA_i, q_zz, q_za, q_zga, q_fza, q_fx, q_fga, q_gza, q_gfa, q_gx, q_zf1, q_zg1, q_ff, q_fg1, q_gf1, q_gg, ti_link], by refine ⟨?_, ?_, ?_, ?_⟩ <;> ((try clear j31); (try clear j61); (try clear hk4); (try clear hr_part); (try clear hf_part); grind [CF_nc, AF_na, OH_no, AQ_o, CF_nf, CF_dec, CF_e0, CF_bin, CF_step, CF_num, CF_clk, CF_cell, CF_neg, ti_link])⟩)
      · exact j61 _ _ (⟨by (try clear hC hA hO hh qS1 iI4 iJ31 nS8 mS8 oS8 nS10 mS10 oS10); (try clear j31); (try clear j61); (try clear hk4); (try clear hr_part); (try clear hf_part); grind [XI, PI, PJ, BU, LV, LA_i, q_zz, q_za, q_zga, q_fza, q_fx, q_fga, q_gza, q_gfa, q_gx, q_zf1, q_zg1, q_ff, q_fg1, q_gf1, q_gg, ti_link], by refine ⟨?_, ?_, ?_, ?_⟩ <;> ((try clear j31); (try clear j61); (try clear hk4); (try clear hr_part); (try clear hf_part); grind [CF_nc, AF_na, OH_no, AQ_o, CF_nf, CF_dec, CF_e0, CF_bin, CF_step, CF_num, CF_clk, CF_cell, CF_neg, ti_link])⟩)
    · exact j61 _ _ (⟨by (try clear hC hA hO hh qS1 iI4 iJ31 nS8 mS8 oS8); (try clear j31); (try clear j61); (try clear hk4); (try clear hr_part); (try clear hf_part); grind [XI, PI, PJ, BU, LV, LA_i, q_zz, q_za, q_zga, q_fza, q_fx, q_fga, q_gza, q_gfa, q_gx, q_zf1, q_zg1, q_ff, q_fg1, q_gf1, q_gg, ti_link], by refine ⟨?_, ?_, ?_, ?_⟩ <;> ((try clear j31); (try clear j61); (try clear hk4); (try clear hr_part); (try clear hf_part); grind [CF_nc, AF_na, OH_no, AQ_o, CF_nf, CF_dec, CF_e0, CF_bin, CF_step, CF_num, CF_clk, CF_cell, CF_neg, ti_link])⟩)
  refine fm_isSign _ _ _ _ (fun S2 r2 hF10 pS2 => ?_) (sg_isSign (nx := nx) (n := n) (so := so) (pl := pl) (wo := wo) (ws := ws) _ (by (try clear hC hA hO hh qS1 iI4); (try clear j31); (try clear j61); (try clear hk4); (try clear hr_part); (try clear hf_part); grind [XI, PI, PJ, BU, LV, LA_i, q_zz, q_za, q_zga, q_fza, q_fx, q_fga, q_gza, q_gfa, q_gx, q_zf1, q_zg1, q_ff, q_fg1, q_gf1, q_gg, ti_link]))
  have fS2 : S2.1 4 = 0 → Sl4.1 4 = 0 := fun q => (hF10.1 4 (by decide)).symm.trans q
  have nS2 : NC Sl4 S2 := NC_fr hF10 (by decide) (by decide) fS2
  have mS2 : NA Sl4 S2 := NA_fr hF10 (by decide) (by decide) fS2
  have oS2 : NO nx Sl4 S2 := NO_fr hF10 (by decide) (by decide)
  have z3_S2 := hF10.1 3 (by decide)
  have z4_S2 := hF10.1 4 (by decide)
  have z6_S2 := hF10.1 6 (by decide)
  have z7_S2 := hF10.1 7 (by decide)
  have z8_S2 := hF10.1 8 (by decide)
  have z11_S2 := hF10.1 11 (by decide)
  have z12_S2 := hF10.1 12 (by decide)
  have z18_S2 := hF10.1 18 (by decide)
  have z19_S2 := hF10.1 19 (by decide)
  have f1_S2 := hF10.2.1 1 (by decide)
  have f1a_S2 := Fr_fa hF10 1 (by decide)
  have f2_S2 := hF10.2.1 2 (by decide)
  have f2a_S2 := Fr_fa hF10 2 (by decide)
  have f8_S2 := hF10.2.1 8 (by decide)
  have f8a_S2 := Fr_fa hF10 8 (by decide)
  have f46_S2 := hF10.2.1 46 (by decide)
  have f46a_S2 := Fr_fa hF10 46 (by decide)
  have f48_S2 := hF10.2.1 48 (by decide)
  have f48a_S2 := Fr_fa hF10 48 (by decide)
  have g3_S2 := hF10.2.2 3 (by decide)
  have g3a_S2 := Fr_ga hF10 3 (by decide)
  have g4_S2 := hF10.2.2 4 (by decide)
  have g4a_S2 := Fr_ga hF10 4 (by decide)
  clear hF10
  refine ⟨fun c11 => ?_, fun c11 => ?_⟩
  · exact j31 _ (⟨by (try clear hC hA hO hh qS1 iI4 nS2 mS2 oS2); (try clear j31); (try clear j61); (try clear hk4); (try clear hr_part); (try clear hf_part); grind [XI, PI, PJ, BU, LV, LA_i, q_zz, q_za, q_zga, q_fza, q_fx, q_fga, q_gza, q_gfa, q_gx, q_zf1, q_zg1, q_ff, q_fg1, q_gf1, q_gg, ti_link], by refine ⟨?_, ?_, ?_, ?_⟩ <;> ((try clear j31); (try clear j61); (try clear hk4); (try clear hr_part); (try clear hf_part); grind [CF_nc, AF_na, OH_no, AQ_o, CF_nf, CF_dec, CF_e0, CF_bin, CF_step, CF_num, CF_clk, CF_cell, CF_neg, ti_link])⟩)
  · refine fm_isSign _ _ _ _ (fun S4 r4 hF12 pS4 => ?_) (sg_isSign (nx := nx) (n := n) (so := so) (pl := pl) (wo := wo) (ws := ws) _ (by (try clear hC hA hO hh qS1 iI4 nS2 mS2 oS2); (try clear j31); (try clear j61); (try clear hk4); (try clear hr_part); (try clear hf_part); grind [XI, PI, PJ, BU, LV, LA_i, q_zz, q_za, q_zga, q_fza, q_fx, q_fga, q_gza, q_gfa, q_gx, q_zf1, q_zg1, q_ff, q_fg1, q_gf1, q_gg, ti_link]))
    have fS4 : S4.1 4 = 0 → S2.1 4 = 0 := fun q => (hF12.1 4 (by decide)).symm.trans q
    have nS4 : NC S2 S4 := NC_fr hF12 (by decide) (by decide) fS4
    have mS4 : NA S2 S4 := NA_fr hF12 (by decide) (by decide) fS4
    have oS4 : NO nx S2 S4 := NO_fr hF12 (by decide) (by decide)
    have z3_S4 := hF12.1 3 (by decide)
    have z4_S4 := hF12.1 4 (by decide)
    have z6_S4 := hF12.1 6 (by decide)
    have z7_S4 := hF12.1 7 (by decide)
    have z8_S4 := hF12.1 8 (by decide)
    have z11_S4 := hF12.1 11 (by decide)
    have z12_S4 := hF12.1 12 (by decide)
    have z18_S4 := hF12.1 18 (by decide)
    have z19_S4 := hF12.1 19 (by decide)
    have f1_S4 := hF12.2.1 1 (by decide)
    have f1a_S4 := Fr_fa hF12 1 (by decide)
    have f2_S4 := hF12.2.1 2 (by decide)
    have f2a_S4 := Fr_fa hF12 2 (by decide)
    have f8_S4 := hF12.2.1 8 (by decide)
    have f8a_S4 := Fr_fa hF12 8 (by decide)
    have f46_S4 := hF12.2.1 46 (by decide)
    have f46a_S4 := Fr_fa hF12 46 (by decide)
    have f48_S4 := hF12.2.1 48 (by decide)
    have f48a_S4 := Fr_fa hF12 48 (by decide)
    have g3_S4 := hF12.2.2 3 (by decide)
    have g3a_S4 := Fr_ga hF12 3 (by decide)
    have g4_S4 := hF12.2.2 4 (by decide)
    have g4a_S4 := Fr_ga hF12 4 (by decide)
    clear hF12
    refine ⟨fun c13 => ?_, fun c13 => ?_⟩
    · exact j31 _ (⟨by (try clear hC hA hO hh qS1 iI4 nS2 mS2 oS2 nS4 mS4 oS4); (try clear j31); (try clear j61); (try clear hk4); (try clear hr_part); (try clear hf_part); grind [XI, PI, PJ, BU, LV, LA_i, q_zz, q_za, q_zga, q_fza, q_fx, q_fga, q_gza, q_gfa, q_gx, q_zf1, q_zg1, q_ff, q_fg1, q_gf1, q_gg, ti_link], by refine ⟨?_, ?_, ?_, ?_⟩ <;> ((try clear j31); (try clear j61); (try clear hk4); (try clear hr_part); (try clear hf_part); grind [CF_nc, AF_na, OH_no, AQ_o, CF_nf, CF_dec, CF_e0, CF_bin, CF_step, CF_num, CF_clk, CF_cell, CF_neg, ti_link])⟩)
    · refine fm_isSign _ _ _ _ (fun S6 r6 hF14 pS6 => ?_) (sg_isSign (nx := nx) (n := n) (so := so) (pl := pl) (wo := wo) (ws := ws) _ (by (try clear hC hA hO hh qS1 iI4 nS2 mS2 oS2 nS4 mS4 oS4); (try clear j31); (try clear j61); (try clear hk4); (try clear hr_part); (try clear hf_part); grind [XI, PI, PJ, BU, LV, LA_i, q_zz, q_za, q_zga, q_fza, q_fx, q_fga, q_gza, q_gfa, q_gx, q_zf1, q_zg1, q_ff, q_fg1, q_gf1, q_gg, ti_link]))
      have fS6 : S6.1 4 = 0 → S4.1 4 = 0 := fun q => (hF14.1 4 (by decide)).symm.trans q
      have nS6 : NC S4 S6 := NC_fr hF14 (by decide) (by decide) fS6
      have mS6 : NA S4 S6 := NA_fr hF14 (by decide) (by decide) fS6
      have oS6 : NO nx S4 S6 := NO_fr hF14 (by decide) (by decide)
      have z3_S6 := hF14.1 3 (by decide)
      have z4_S6 := hF14.1 4 (by decide)
      have z6_S6 := hF14.1 6 (by decide)
      have z7_S6 := hF14.1 7 (by decide)
      have z8_S6 := hF14.1 8 (by decide)
      have z11_S6 := hF14.1 11 (by decide)
      have z12_S6 := hF14.1 12 (by decide)
      have z18_S6 := hF14.1 18 (by decide)
      have z19_S6 := hF14.1 19 (by decide)
      have f1_S6 := hF14.2.1 1 (by decide)
      have f1a_S6 := Fr_fa hF14 1 (by decide)
      have f2_S6 := hF14.2.1 2 (by decide)
      have f2a_S6 := Fr_fa hF14 2 (by decide)
      have f8_S6 := hF14.2.1 8 (by decide)
      have f8a_S6 := Fr_fa hF14 8 (by decide)
      have f46_S6 := hF14.2.1 46 (by decide)
      have f46a_S6 := Fr_fa hF14 46 (by decide)
      have f48_S6 := hF14.2.1 48 (by decide)
      have f48a_S6 := Fr_fa hF14 48 (by decide)
      have g3_S6 := hF14.2.2 3 (by decide)
      have g3a_S6 := Fr_ga hF14 3 (by decide)
      have g4_S6 := hF14.2.2 4 (by decide)
      have g4a_S6 := Fr_ga hF14 4 (by decide)
      clear hF14
      refine ⟨fun c15 => ?_, fun c15 => ?_⟩
      · exact ⟨by (try clear hC hA hO hh qS1 iI4 nS2 mS2 oS2 nS4 mS4 oS4 nS6 mS6 oS6); (try clear j31); (try clear j61); (try clear hk4); (try clear hr_part); (try clear hf_part); grind [XI, PI, PJ, BU, LV, LA_i, q_zz, q_za, q_zga, q_fza, q_fx, q_fga, q_gza, q_gfa, q_gx, q_zf1, q_zg1, q_ff, q_fg1, q_gf1, q_gg, ti_link], by refine ⟨?_, ?_, ?_, ?_⟩ <;> ((try clear j31); (try clear j61); (try clear hk4); (try clear hr_part); (try clear hf_part); grind [CF_nc, AF_na, OH_no, AQ_o, CF_nf, CF_dec, CF_e0, CF_bin, CF_step, CF_num, CF_clk, CF_cell, CF_neg, ti_link])⟩
      · exact j31 _ (⟨by (try clear hC hA hO hh qS1 iI4 nS2 mS2 oS2 nS4 mS4 oS4 nS6 mS6 oS6); (try clear j31); (try clear j61); (try clear hk4); (try clear hr_part); (try clear hf_part); grind [XI, PI, PJ, BU, LV, LA_i, q_zz, q_za, q_zga, q_fza, q_fx, q_fga, q_gza, q_gfa, q_gx, q_zf1, q_zg1, q_ff, q_fg1, q_gf1, q_gg, ti_link], by refine ⟨?_, ?_, ?_, ?_⟩ <;> ((try clear j31); (try clear j61); (try clear hk4); (try clear hr_part); (try clear hf_part); grind [CF_nc, AF_na, OH_no, AQ_o, CF_nf, CF_dec, CF_e0, CF_bin, CF_step, CF_num, CF_clk, CF_cell, CF_neg, ti_link])⟩)
