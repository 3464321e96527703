
set_option maxHeartbeats 4000000 in
theorem sg_sum {nx n : Nat} {so pl : Nat → Int32} {wo ws : Nat → Int64} {S0 : mS} {D d : Nat} {G GA X Y : Int} {kL : LT3} {kn kw kh ki kc ko km : Int} {kt : Int32} {r_part : mS → (mS → Prop) → Prop} (hf_part : FmV [3, 4, 7, 8, 18, 19] [8, 12, 13, 14, 15, 16, 17, 18, 19, 20, 21] [9] (r_part)) (hr_part : ∀ (d : Nat) (G GA X Y : Int) (kL : LT3) (kn kw kh ki kc ko km : Int) (kt : Int32) (S : mS), D ≤ d → LV d G GA X Y → XI nx n so pl wo ws S0 d G GA X Y S → (CF nx kL kn kw kh 0 ki kc ko kt S) → (AF nx km S) → (OH nx S0 S) → (0 ≤ kh) → r_part S (fun S1 => (XI nx n so pl wo ws S0 d (G - 1) GA X Y S1 ∧ ((S1.1 4) = 0 → (S.1 4) = 0 ∧ (S.1 3).toInt < (S1.1 3).toInt) ∧ (S.1 8).toInt ≤ (S1.1 8).toInt) ∧ (CF nx kL kn kw (kh + 1) 0 ki kc ko kt S1 ∧ CF nx kL kn kw (kh + 1) 0 ki (kc + 1) ko kt S1 ∧ AF nx km S1 ∧ OH nx S0 S1))) {S : mS} (hL : LV d G GA X Y) (h : XI nx n so pl wo ws S0 d G GA X Y S) (hD : D ≤ d) (hC : CF nx kL kn kw kh 0 ki kc ko kt S) (hA : AF nx km S) (hO : OH nx S0 S) (hh : 0 ≤ kh) : wp_sum r_part S (fun S1 => (XI nx n so pl wo ws S0 d (G - 1) GA (X + 4) (Y + 1) S1 ∧ ((S1.1 4) = 0 → (S.1 4) = 0 ∧ (S.1 3).toInt < (S1.1 3).toInt) ∧ (S.1 8).toInt ≤ (S1.1 8).toInt) ∧ (CF nx kL kn kw (kh + 1) 0 ki kc ko kt S1 ∧ CF nx kL kn kw (kh + 1) 0 ki (kc + 1) ko kt S1 ∧ AF nx km S1 ∧ OH nx S0 S1)) := by
  unfold wp_sum
  refine fm_product hf_part _ _ _ (fun S1 hF1 pS1 => ?_) (sg_product hf_part hr_part (nx := nx) (n := n) (so := so) (pl := pl) (wo := wo) (ws := ws) (S0 := S0) (d := d) (G := G) (GA := GA) (X := X) (Y := Y) (kL := kL) (kn := kn) (kw := kw) (kh := kh) (ki := ki) (kc := kc) (ko := ko) (km := km) (kt := kt) (D := D) (by (try clear hC hA hO hh); (try clear j38); (try clear j22); (try clear hk4); (try clear hr_part); (try clear hf_part); grind [XI, PI, PJ, BU, LV, LA_i, q_zz, q_za, q_zga, q_fza, q_fx, q_fga, q_gza, q_gfa, q_gx, q_zf1, q_zg1, q_ff, q_fg1, q_gf1, q_gg, ti_link]) (by (try clear hC hA hO hh); (try clear j38); (try clear j22); (try clear hk4); (try clear hr_part); (try clear hf_part); grind [XI, PI, PJ, BU, LV, LA_i, q_zz, q_za, q_zga, q_fza, q_fx, q_fga, q_gza, q_gfa, q_gx, q_zf1, q_zg1, q_ff, q_fg1, q_gf1, q_gg, ti_link]) (by (try clear hC hA hO hh); (try clear j38); (try clear j22); (try clear hk4); (try clear hr_part); (try clear hf_part); grind [XI, PI, PJ, BU, LV, LA_i, q_zz, q_za, q_zga, q_fza, q_fx, q_fga, q_gza, q_gfa, q_gx, q_zf1, q_zg1, q_ff, q_fg1, q_gf1, q_gg, ti_link]) (by (try clear j38); (try clear j22); (try clear hk4); (try clear hr_part); (try clear hf_part); grind [CF_nc, AF_na, OH_no, AQ_o, CF_nf, CF_dec, CF_e0, CF_bin, CF_step, CF_num, CF_clk, CF_cell, CF_neg, ti_link]) (by (try clear j38); (try clear j22); (try clear hk4); (try clear hr_part); (try clear hf_part); grind [CF_nc, AF_na, OH_no, AQ_o, CF_nf, CF_dec, CF_e0, CF_bin, CF_step, CF_num, CF_clk, CF_cell, CF_neg, ti_link]) (by (try clear j38); (try clear j22); (try clear hk4); (try clear hr_part); (try clear hf_part); grind [CF_nc, AF_na, OH_no, AQ_o, CF_nf, CF_dec, CF_e0, CF_bin, CF_step, CF_num, CF_clk, CF_cell, CF_neg, ti_link]) (by (try clear j38); (try clear j22); (try clear hk4); (try clear hr_part); (try clear hf_part); grind [CF_nc, AF_na, OH_no, AQ_o, CF_nf, CF_dec, CF_e0, CF_bin, CF_step, CF_num, CF_clk, CF_cell, CF_neg, ti_link]))
  obtain ⟨pS1, qS1⟩ := pS1
  have z6_S1 := hF1.1 6 (by decide)
  have z11_S1 := hF1.1 11 (by decide)
  have z12_S1 := hF1.1 12 (by decide)
  have f1_S1 := hF1.2.1 1 (by decide)
  have f1a_S1 := Fr_fa hF1 1 (by decide)
  have f2_S1 := hF1.2.1 2 (by decide)
  have f2a_S1 := Fr_fa hF1 2 (by decide)
  have f46_S1 := hF1.2.1 46 (by decide)
  have f46a_S1 := Fr_fa hF1 46 (by decide)
  have f48_S1 := hF1.2.1 48 (by decide)
  have f48a_S1 := Fr_fa hF1 48 (by decide)
  have g3_S1 := hF1.2.2 3 (by decide)
  have g3a_S1 := Fr_ga hF1 3 (by decide)
  have g4_S1 := hF1.2.2 4 (by decide)
  have g4a_S1 := Fr_ga hF1 4 (by decide)
  clear hF1
  refine it_rule (fun u : mS => (XI nx n so pl wo ws S0 d (G - 1) GA (X + 4) (Y + 1) u ∧ ((u.1 4) = 0 → (S.1 4) = 0 ∧ (S.1 3).toInt < (u.1 3).toInt) ∧ (S.1 8).toInt ≤ (u.1 8).toInt) ∧ (CF nx kL kn kw (kh + 1) 0 ki kc ko kt u ∧ CF nx kL kn kw (kh + 1) 0 ki (kc + 1) ko kt u ∧ AF nx km u ∧ OH nx S0 u)) (fun u => (if (u.1 4) = 0 then (n : Int) - (u.1 3).toInt + 1 else 0).toNat) ?_ (⟨by (try clear hC hA hO hh qS1); (try clear j38); (try clear j22); (try clear hk4); (try clear hr_part); (try clear hf_part); grind [XI, PI, PJ, BU, LV, LA_i, q_zz, q_za, q_zga, q_fza, q_fx, q_fga, q_gza, q_gfa, q_gx, q_zf1, q_zg1, q_ff, q_fg1, q_gf1, q_gg, ti_link], by refine ⟨?_, ?_, ?_, ?_⟩ <;> ((try clear j38); (try clear j22); (try clear hk4); (try clear hr_part); (try clear hf_part); grind [CF_nc, AF_na, OH_no, AQ_o, CF_nf, CF_dec, CF_e0, CF_bin, CF_step, CF_num, CF_clk, CF_cell, CF_neg, ti_link])⟩)
  rintro Sl4 k4 hI4 hk4
  replace hI4 : (XI nx n so pl wo ws S0 d (G - 1) GA (X + 4) (Y + 1) Sl4 ∧ ((Sl4.1 4) = 0 → (S.1 4) = 0 ∧ (S.1 3).toInt < (Sl4.1 3).toInt) ∧ (S.1 8).toInt ≤ (Sl4.1 8).toInt) ∧ (CF nx kL kn kw (kh + 1) 0 ki kc ko kt Sl4 ∧ CF nx kL kn kw (kh + 1) 0 ki (kc + 1) ko kt Sl4 ∧ AF nx km Sl4 ∧ OH nx S0 Sl4) := hI4
  replace hk4 : ∀ v : mS, (XI nx n so pl wo ws S0 d (G - 1) GA (X + 4) (Y + 1) v ∧ ((v.1 4) = 0 → (S.1 4) = 0 ∧ (S.1 3).toInt < (v.1 3).toInt) ∧ (S.1 8).toInt ≤ (v.1 8).toInt) ∧ (CF nx kL kn kw (kh + 1) 0 ki kc ko kt v ∧ CF nx kL kn kw (kh + 1) 0 ki (kc + 1) ko kt v ∧ AF nx km v ∧ OH nx S0 v) → (if (v.1 4) = 0 then (n : Int) - (v.1 3).toInt + 1 else 0).toNat < (if (Sl4.1 4) = 0 then (n : Int) - (Sl4.1 3).toInt + 1 else 0).toNat → k4 v := hk4
  show wp_sum_4 r_part _ k4  Sl4
  unfold wp_sum_4
  obtain ⟨hI4, iI4⟩ := hI4
  have j38 : ∀ (y0 : Int32) (Sx : mS), (XI nx n so pl wo ws S0 d (G - 1) GA (X + 4) (Y + 1) Sx ∧ ((Sx.1 4) = 0 → (S.1 4) = 0 ∧ (S.1 3).toInt < (Sx.1 3).toInt) ∧ (S.1 8).toInt ≤ (Sx.1 8).toInt ∧ (Sx.1 4) = 0 ∧ (Sx.1 3).toInt < n ∧ (Sl4.1 4) = 0 ∧ (Sl4.1 3).toInt ≤ (Sx.1 3).toInt ∧ 9 ≤ y0.toInt ∧ y0.toInt ≤ 10) ∧ (CF nx kL kn kw (kh + 1) 0 ki kc ko kt Sx ∧ CF nx kL kn kw (kh + 1) 0 ki (kc + 1) ko kt Sx ∧ AF nx km Sx ∧ OH nx S0 Sx) → wp_sum_38 r_part (fun S1 => (XI nx n so pl wo ws S0 d (G - 1) GA (X + 4) (Y + 1) S1 ∧ ((S1.1 4) = 0 → (S.1 4) = 0 ∧ (S.1 3).toInt < (S1.1 3).toInt) ∧ (S.1 8).toInt ≤ (S1.1 8).toInt) ∧ (CF nx kL kn kw (kh + 1) 0 ki kc ko kt S1 ∧ CF nx kL kn kw (kh + 1) 0 ki (kc + 1) ko kt S1 ∧ AF nx km S1 ∧ OH nx S0 S1)) k4 y0 Sx := by
    intro y0 Sx hJ38
    unfold wp_sum_38
    obtain ⟨hJ38, iJ38⟩ := hJ38
    intro z8 ez8
    intro S9 eS9
    have nS9 : NC Sx S9 := NC_z eS9 (by decide)
    have mS9 : NA Sx S9 := NA_z eS9 (by decide)
    have oS9 : NO nx Sx S9 := NO_z eS9
    refine fm_product hf_part _ _ _ (fun S10 hF2 pS10 => ?_) (sg_product hf_part hr_part (nx := nx) (n := n) (so := so) (pl := pl) (wo := wo) (ws := ws) (S0 := S0) (d := d) (G := (G - 6)) (GA := GA) (X := X) (Y := Y) (kL := kL) (kn := kn) (kw := kw) (kh := (kh + 1)) (ki := ki) (kc := kc) (ko := ko) (km := km) (kt := kt) (D := D) (by (try clear hC hA hO hh qS1 iI4 iJ38 nS9 mS9 oS9); (try clear j38); (try clear j22); (try clear hk4); (try clear hr_part); (try clear hf_part); grind [XI, PI, PJ, BU, LV, LA_i, q_zz, q_za, q_zga, q_fza, q_fx, q_fga, q_gza, q_gfa, q_gx, q_zf1, q_zg1, q_ff, q_fg1, q_gf1, q_gg, ti_link]) (by (try clear hC hA hO hh qS1 iI4 iJ38 nS9 mS9 oS9); (try clear j38); (try clear j22); (try clear hk4); (try clear hr_part); (try clear hf_part); grind [XI, PI, PJ, BU, LV, LA_i, q_zz, q_za, q_zga, q_fza, q_fx, q_fga, q_gza, q_gfa, q_gx, q_zf1, q_zg1, q_ff, q_fg1, q_gf1, q_gg, ti_link]) (by (try clear hC hA hO hh qS1 iI4 iJ38 nS9 mS9 oS9); (try clear j38); (try clear j22); (try clear hk4); (try clear hr_part); (try clear hf_part); grind [XI, PI, PJ, BU, LV, LA_i, q_zz, q_za, q_zga, q_fza, q_fx, q_fga, q_gza, q_gfa, q_gx, q_zf1, q_zg1, q_ff, q_fg1, q_gf1, q_gg, ti_link]) (by (try clear j38); (try clear j22); (try clear hk4); (try clear hr_part); (try clear hf_part); grind [CF_nc, AF_na, OH_no, AQ_o, CF_nf, CF_dec, CF_e0, CF_bin, CF_step, CF_num, CF_clk, CF_cell, CF_neg, ti_link]) (by (try clear j38); (try clear j22); (try clear hk4); (try clear hr_part); (try clear hf_part); grind [CF_nc, AF_na, OH_no, AQ_o, CF_nf, CF_dec, CF_e0, CF_bin, CF_step, CF_num, CF_clk, CF_cell, CF_neg, ti_link]) (by (try clear j38); (try clear j22); (try clear hk4); (try clear hr_part); (try clear hf_part); grind [CF_nc, AF_na, OH_no, AQ_o, CF_nf, CF_dec, CF_e0, CF_bin, CF_step, CF_num, CF_clk, CF_cell, CF_neg, ti_link]) (by (try clear j38); (try clear j22); (try clear hk4); (try clear hr_part); (try clear hf_part); grind [CF_nc, AF_na, OH_no, AQ_o, CF_nf, CF_dec, CF_e0, CF_bin, CF_step, CF_num, CF_clk, CF_cell, CF_neg, ti_link]))
    obtain ⟨pS10, qS10⟩ := pS10
    have z6_S10 := hF2.1 6 (by decide)
    have z11_S10 := hF2.1 11 (by decide)
    have z12_S10 := hF2.1 12 (by decide)
    have f1_S10 := hF2.2.1 1 (by decide)
    have f1a_S10 := Fr_fa hF2 1 (by decide)
    have f2_S10 := hF2.2.1 2 (by decide)
    have f2a_S10 := Fr_fa hF2 2 (by decide)
    have f46_S10 := hF2.2.1 46 (by decide)
    have f46a_S10 := Fr_fa hF2 46 (by decide)
    have f48_S10 := hF2.2.1 48 (by decide)
    have f48a_S10 := Fr_fa hF2 48 (by decide)
    have g3_S10 := hF2.2.2 3 (by decide)
    have g3a_S10 := Fr_ga hF2 3 (by decide)
    have g4_S10 := hF2.2.2 4 (by decide)
    have g4a_S10 := Fr_ga hF2 4 (by decide)
    clear hF2
    refine fm_emit _ _ _ _ _ _ (fun S11 r11 hF3 pS11 => ?_) (sg_emit (nx := nx) _ _ _ (by (try clear hC hA hO hh qS1 iI4 iJ38 nS9 mS9 oS9 qS10); (try clear j38); (try clear j22); (try clear hk4); (try clear hr_part); (try clear hf_part); grind [XI, PI, PJ, BU, LV, LA_i, q_zz, q_za, q_zga, q_fza, q_fx, q_fga, q_gza, q_gfa, q_gx, q_zf1, q_zg1, q_ff, q_fg1, q_gf1, q_gg, ti_link]))
    obtain ⟨pS11, qS11⟩ := pS11
    have fS11 : S11.1 4 = 0 → S10.1 4 = 0 := fun q => (hF3.1 4 (by decide)).symm.trans q
    have mS11 : NA S10 S11 := NA_fr hF3 (by decide) (by decide) fS11
    have z3_S11 := hF3.1 3 (by decide)
    have z4_S11 := hF3.1 4 (by decide)
    have z6_S11 := hF3.1 6 (by decide)
    have z8_S11 := hF3.1 8 (by decide)
    have z11_S11 := hF3.1 11 (by decide)
    have z12_S11 := hF3.1 12 (by decide)
    have z18_S11 := hF3.1 18 (by decide)
    have z19_S11 := hF3.1 19 (by decide)
    have f1_S11 := hF3.2.1 1 (by decide)
    have f1a_S11 := Fr_fa hF3 1 (by decide)
    have f2_S11 := hF3.2.1 2 (by decide)
    have f2a_S11 := Fr_fa hF3 2 (by decide)
    have f8_S11 := hF3.2.1 8 (by decide)
    have f8a_S11 := Fr_fa hF3 8 (by decide)
    have f46_S11 := hF3.2.1 46 (by decide)
    have f46a_S11 := Fr_fa hF3 46 (by decide)
    have f48_S11 := hF3.2.1 48 (by decide)
    have f48a_S11 := Fr_fa hF3 48 (by decide)
    have g3_S11 := hF3.2.2 3 (by decide)
    have g3a_S11 := Fr_ga hF3 3 (by decide)
    have g4_S11 := hF3.2.2 4 (by decide)
    have g4a_S11 := Fr_ga hF3 4 (by decide)
    clear hF3
    exact hk4 _ (⟨by (try clear hC hA hO hh qS1 iI4 iJ38 nS9 mS9 oS9 qS10 qS11 mS11); (try clear j38); (try clear j22); (try clear hk4); (try clear hr_part); (try clear hf_part); grind [XI, PI, PJ, BU, LV, LA_i, q_zz, q_za, q_zga, q_fza, q_fx, q_fga, q_gza, q_gfa, q_gx, q_zf1, q_zg1, q_ff, q_fg1, q_gf1, q_gg, ti_link], by refine ⟨?_, ?_, ?_, ?_⟩ <;> ((try clear j38); (try clear j22); (try clear hk4); (try clear hr_part); (try clear hf_part); grind [CF_nc, AF_na, OH_no, AQ_o, CF_nf, CF_dec, CF_e0, CF_bin, CF_step, CF_num, CF_clk, CF_cell, CF_neg, ti_link])⟩) (by (try clear hC hA hO hh qS1 iI4 iJ38 nS9 mS9 oS9 qS10 qS11 mS11); (try clear j38); (try clear j22); (try clear hk4); (try clear hr_part); (try clear hf_part); grind [XI, PI, PJ, BU, LV, LA_i, q_zz, q_za, q_zga, q_fza, q_fx, q_fga, q_gza, q_gfa, q_gx, q_zf1, q_zg1, q_ff, q_fg1, q_gf1, q_gg, ti_link])
  have j22 : ∀ (Sx : mS), (XI nx n so pl wo ws S0 d (G - 1) GA (X + 4) (Y + 1) Sx ∧ ((Sx.1 4) = 0 → (S.1 4) = 0 ∧ (S.1 3).toInt < (Sx.1 3).toInt) ∧ (S.1 8).toInt ≤ (Sx.1 8).toInt ∧ (Sx.1 4) = 0 ∧ (Sx.1 3).toInt < n ∧ (Sl4.1 4) = 0 ∧ (Sl4.1 3).toInt ≤ (Sx.1 3).toInt) ∧ (CF nx kL kn kw (kh + 1) 0 ki kc ko kt Sx ∧ CF nx kL kn kw (kh + 1) 0 ki (kc + 1) ko kt Sx ∧ AF nx km Sx ∧ OH nx S0 Sx) → wp_sum_22 r_part (fun S1 => (XI nx n so pl wo ws S0 d (G - 1) GA (X + 4) (Y + 1) S1 ∧ ((S1.1 4) = 0 → (S.1 4) = 0 ∧ (S.1 3).toInt < (S1.1 3).toInt) ∧ (S.1 8).toInt ≤ (S1.1 8).toInt) ∧ (CF nx kL kn kw (kh + 1) 0 ki kc ko kt S1 ∧ CF nx kL kn kw (kh + 1) 0 ki (kc + 1) ko kt S1 ∧ AF nx km S1 ∧ OH nx S0 S1)) k4 Sx := by
    intro Sx hJ22
    unfold wp_sum_22
    obtain ⟨hJ22, iJ22⟩ := hJ22
    refine fm_isSign _ _ _ _ (fun S6 r6 hF4 pS6 => ?_) (sg_isSign (nx := nx) (n := n) (so := so) (pl := pl) (wo := wo) (ws := ws) _ (by (try clear hC hA hO hh qS1 iI4 iJ22); (try clear j38); (try clear j22); (try clear hk4); (try clear hr_part); (try clear hf_part); grind [XI, PI, PJ, BU, LV, LA_i, q_zz, q_za, q_zga, q_fza, q_fx, q_fga, q_gza, q_gfa, q_gx, q_zf1, q_zg1, q_ff, q_fg1, q_gf1, q_gg, ti_link]))
    have fS6 : S6.1 4 = 0 → Sx.1 4 = 0 := fun q => (hF4.1 4 (by decide)).symm.trans q
    have nS6 : NC Sx S6 := NC_fr hF4 (by decide) (by decide) fS6
    have mS6 : NA Sx S6 := NA_fr hF4 (by decide) (by decide) fS6
    have oS6 : NO nx Sx S6 := NO_fr hF4 (by decide) (by decide)
    have z3_S6 := hF4.1 3 (by decide)
    have z4_S6 := hF4.1 4 (by decide)
    have z6_S6 := hF4.1 6 (by decide)
    have z7_S6 := hF4.1 7 (by decide)
    have z8_S6 := hF4.1 8 (by decide)
    have z11_S6 := hF4.1 11 (by decide)
    have z12_S6 := hF4.1 12 (by decide)
    have z18_S6 := hF4.1 18 (by decide)
    have z19_S6 := hF4.1 19 (by decide)
    have f1_S6 := hF4.2.1 1 (by decide)
    have f1a_S6 := Fr_fa hF4 1 (by decide)
    have f2_S6 := hF4.2.1 2 (by decide)
    have f2a_S6 := Fr_fa hF4 2 (by decide)
    have f8_S6 := hF4.2.1 8 (by decide)
    have f8a_S6 := Fr_fa hF4 8 (by decide)
    have f46_S6 := hF4.2.1 46 (by decide)
    have f46a_S6 := Fr_fa hF4 46 (by decide)
    have f48_S6 := hF4.2.1 48 (by decide)
    have f48a_S6 := Fr_fa hF4 48 (by decide)
    have g3_S6 := hF4.2.2 3 (by decide)
    have g3a_S6 := Fr_ga hF4 3 (by decide)
    have g4_S6 := hF4.2.2 4 (by decide)
    have g4a_S6 := Fr_ga hF4 4 (by decide)
    clear hF4
    refine ⟨fun c5 => ?_, fun c5 => ?_⟩
    · exact j38 _ _ (⟨by (try clear hC hA hO hh qS1 iI4 iJ22 nS6 mS6 oS6); (try clear j38); (try clear j22); (try clear hk4); (try clear hr_part); (try clear hf_part); grind [XI, PI, PJ, BU, LV, LA_i, q_zz, q_za, q_zga, q_fza, q_fx, q_fga, q_gza, q_gfa, q_gx, q_zf1, q_zg1, q_ff, q_fg1, q_gf1, q_gg, ti_link], by refine ⟨?_, ?_, ?_, ?_⟩ <;> ((try clear j38); (try clear j22); (try clear hk4); (try clear hr_part); (try clear hf_part); grind [CF_nc, AF_na, OH_no, AQ_o, CF_nf, CF_dec, CF_e0, CF_bin, CF_step, CF_num, CF_clk, CF_cell, CF_neg, ti_link])⟩)
    · exact j38 _ _ (⟨by (try clear hC hA hO hh qS1 iI4 iJ22 nS6 mS6 oS6); (try clear j38); (try clear j22); (try clear hk4); (try clear hr_part); (try clear hf_part); grind [XI, PI, PJ, BU, LV, LA_i, q_zz, q_za, q_zga, q_fza, q_fx, q_fga, q_gza, q_gfa, q_gx, q_zf1, q_zg1, q_ff, q_fg1, q_gf1, q_gg, ti_link], by refine ⟨?_, ?_, ?_, ?_⟩ <;> ((try clear j38); (try clear j22); (try clear hk4); (try clear hr_part); (try clear hf_part); grind [CF_nc, AF_na, OH_no, AQ_o, CF_nf, CF_dec, CF_e0, CF_bin, CF_step, CF_num, CF_clk, CF_cell, CF_neg, ti_link])⟩)
  refine fm_isSign _ _ _ _ (fun S2 r2 hF6 pS2 => ?_) (sg_isSign (nx := nx) (n := n) (so := so) (pl := pl) (wo := wo) (ws := ws) _ (by (try clear hC hA hO hh qS1 iI4); (try clear j38); (try clear j22); (try clear hk4); (try clear hr_part); (try clear hf_part); grind [XI, PI, PJ, BU, LV, LA_i, q_zz, q_za, q_zga, q_fza, q_fx, q_fga, q_gza, q_gfa, q_gx, q_zf1, q_zg1, q_ff, q_fg1, q_gf1, q_gg, ti_link]))
  have fS2 : S2.1 4 = 0 → Sl4.1 4 = 0 := fun q => (hF6.1 4 (by decide)).symm.trans q
  have nS2 : NC Sl4 S2 := NC_fr hF6 (by decide) (by decide) fS2
  have mS2 : NA Sl4 S2 := NA_fr hF6 (by decide) (by decide) fS2
  have oS2 : NO nx Sl4 S2 := NO_fr hF6 (by decide) (by decide)
  have z3_S2 := hF6.1 3 (by decide)
  have z4_S2 := hF6.1 4 (by decide)
  have z6_S2 := hF6.1 6 (by decide)
  have z7_S2 := hF6.1 7 (by decide)
  have z8_S2 := hF6.1 8 (by decide)
  have z11_S2 := hF6.1 11 (by decide)
  have z12_S2 := hF6.1 12 (by decide)
  have z18_S2 := hF6.1 18 (by decide)
  have z19_S2 := hF6.1 19 (by decide)
  have f1_S2 := hF6.2.1 1 (by decide)
  have f1a_S2 := Fr_fa hF6 1 (by decide)
  have f2_S2 := hF6.2.1 2 (by decide)
  have f2a_S2 := Fr_fa hF6 2 (by decide)
  have f8_S2 := hF6.2.1 8 (by decide)
  have f8a_S2 := Fr_fa hF6 8 (by decide)
  have f46_S2 := hF6.2.1 46 (by decide)
  have f46a_S2 := Fr_fa hF6 46 (by decide)
  have f48_S2 := hF6.2.1 48 (by decide)
  have f48a_S2 := Fr_fa hF6 48 (by decide)
  have g3_S2 := hF6.2.2 3 (by decide)
  have g3a_S2 := Fr_ga hF6 3 (by decide)
  have g4_S2 := hF6.2.2 4 (by decide)
  have g4a_S2 := Fr_ga hF6 4 (by decide)
  clear hF6
  refine ⟨fun c7 => ?_, fun c7 => ?_⟩
  · exact j22 _ (⟨by (try clear hC hA hO hh qS1 iI4 nS2 mS2 oS2); (try clear j38); (try clear j22); (try clear hk4); (try clear hr_part); (try clear hf_part); grind [XI, PI, PJ, BU, LV, LA_i, q_zz, q_za, q_zga, q_fza, q_fx, q_fga, q_gza, q_gfa, q_gx, q_zf1, q_zg1, q_ff, q_fg1, q_gf1, q_gg, ti_link], by refine ⟨?_, ?_, ?_, ?_⟩ <;> ((try clear j38); (try clear j22); (try clear hk4); (try clear hr_part); (try clear hf_part); grind [CF_nc, AF_na, OH_no, AQ_o, CF_nf, CF_dec, CF_e0, CF_bin, CF_step, CF_num, CF_clk, CF_cell, CF_neg, ti_link])⟩)
  · refine fm_isSign _ _ _ _ (fun S4 r4 hF8 pS4 => ?_) (sg_isSign (nx := nx) (n := n) (so := so) (pl := pl) (wo := wo) (ws := ws) _ (by (try clear hC hA hO hh qS1 iI4 nS2 mS2 oS2); (try clear j38); (try clear j22); (try clear hk4); (try clear hr_part); (try clear hf_part); grind [XI, PI, PJ, BU, LV, LA_i, q_zz, q_za, q_zga, q_fza, q_fx, q_fga, q_gza, q_gfa, q_gx, q_zf1, q_zg1, q_ff, q_fg1, q_gf1, q_gg, ti_link]))
    have fS4 : S4.1 4 = 0 → S2.1 4 = 0 := fun q => (hF8.1 4 (by decide)).symm.trans q
    have nS4 : NC S2 S4 := NC_fr hF8 (by decide) (by decide) fS4
    have mS4 : NA S2 S4 := NA_fr hF8 (by decide) (by decide) fS4
    have oS4 : NO nx S2 S4 := NO_fr hF8 (by decide) (by decide)
    have z3_S4 := hF8.1 3 (by decide)
    have z4_S4 := hF8.1 4 (by decide)
    have z6_S4 := hF8.1 6 (by decide)
    have z7_S4 := hF8.1 7 (by decide)
    have z8_S4 := hF8.1 8 (by decide)
    have z11_S4 := hF8.1 11 (by decide)
    have z12_S4 := hF8.1 12 (by decide)
    have z18_S4 := hF8.1 18 (by decide)
    have z19_S4 := hF8.1 19 (by decide)
    have f1_S4 := hF8.2.1 1 (by decide)
    have f1a_S4 := Fr_fa hF8 1 (by decide)
    have f2_S4 := hF8.2.1 2 (by decide)
    have f2a_S4 := Fr_fa hF8 2 (by decide)
    have f8_S4 := hF8.2.1 8 (by decide)
    have f8a_S4 := Fr_fa hF8 8 (by decide)
    have f46_S4 := hF8.2.1 46 (by decide)
    have f46a_S4 := Fr_fa hF8 46 (by decide)
    have f48_S4 := hF8.2.1 48 (by decide)
    have f48a_S4 := Fr_fa hF8 48 (by decide)
    have g3_S4 := hF8.2.2 3 (by decide)
    have g3a_S4 := Fr_ga hF8 3 (by decide)
    have g4_S4 := hF8.2.2 4 (by decide)
    have g4a_S4 := Fr_ga hF8 4 (by decide)
    clear hF8
    refine ⟨fun c9 => ?_, fun c9 => ?_⟩
    · exact ⟨by (try clear hC hA hO hh qS1 iI4 nS2 mS2 oS2 nS4 mS4 oS4); (try clear j38); (try clear j22); (try clear hk4); (try clear hr_part); (try clear hf_part); grind [XI, PI, PJ, BU, LV, LA_i, q_zz, q_za, q_zga, q_fza, q_fx, q_fga, q_gza, q_gfa, q_gx, q_zf1, q_zg1, q_ff, q_fg1, q_gf1, q_gg, ti_link], by refine ⟨?_, ?_, ?_, ?_⟩ <;> ((try clear j38); (try clear j22); (try clear hk4); (try clear hr_part); (try clear hf_part); grind [CF_nc, AF_na, OH_no, AQ_o, CF_nf, CF_dec, CF_e0, CF_bin, CF_step, CF_num, CF_clk, CF_cell, CF_neg, ti_link])⟩
    · exact j22 _ (⟨by (try clear hC hA hO hh qS1 iI4 nS2 mS2 oS2 nS4 mS4 oS4); (try clear j38); (try clear j22); (try clear hk4); (try clear hr_part); (try clear hf_part); grind [XI, PI, PJ, BU, LV, LA_i, q_zz, q_za, q_zga, q_fza, q_fx, q_fga, q_gza, q_gfa, q_gx, q_zf1, q_zg1, q_ff, q_fg1, q_gf1, q_gg, ti_link], by refine ⟨?_, ?_, ?_, ?_⟩ <;> ((try clear j38); (try clear j22); (try clear hk4); (try clear hr_part); (try clear hf_part); grind [CF_nc, AF_na, OH_no, AQ_o, CF_nf, CF_dec, CF_e0, CF_bin, CF_step, CF_num, CF_clk, CF_cell, CF_neg, ti_link])⟩)
