
set_option maxHeartbeats 4000000 in
theorem sg_expression {nx n : Nat} {so pl : Nat → Int32} {wo ws : Nat → Int64} {S0 : mS} {D d : Nat} {G GA X Y : Int} {kL : LT3} {kn kw kh ki kc ko km : Int} {kt : Int32} {r_part : mS → (mS → Prop) → Prop} (hf_part : FmV [3, 4, 7, 8, 18, 19] [8, 12, 13, 14, 15, 16, 17, 18, 19, 20, 21] [9] (r_part)) (hr_part : ∀ (d : Nat) (G GA X Y : Int) (kL : LT3) (kn kw kh ki kc ko km : Int) (kt : Int32) (S : mS), D ≤ d → LV d G GA X Y → XI nx n so pl wo ws S0 d G GA X Y S → (CF nx kL kn kw kh 0 ki kc ko kt S) → (AF nx km S) → (OH nx S0 S) → (0 ≤ kh) → r_part S (fun S1 => (XI nx n so pl wo ws S0 d (G - 1) GA X Y S1 ∧ ((S1.1 4) = 0 → (S.1 4) = 0 ∧ (S.1 3).toInt < (S1.1 3).toInt) ∧ (S.1 8).toInt ≤ (S1.1 8).toInt) ∧ (CF nx kL kn kw (kh + 1) 0 ki kc ko kt S1 ∧ CF nx kL kn kw (kh + 1) 0 ki (kc + 1) ko kt S1 ∧ AF nx km S1 ∧ OH nx S0 S1))) {S : mS} (hL : LV d G GA X Y) (h : XI nx n so pl wo ws S0 d G GA X Y S) (hD : D ≤ d) (hC : CF nx kL kn kw kh 0 ki kc ko kt S) (hA : AF nx km S) (hO : OH nx S0 S) (hh : 0 ≤ kh) : wp_expression r_part S (fun S1 => (XI nx n so pl wo ws S0 d (G - 1) GA (X + 6) (Y + 1) S1 ∧ ((S1.1 4) = 0 → (S.1 4) = 0 ∧ (S.1 3).toInt < (S1.1 3).toInt) ∧ (S.1 8).toInt ≤ (S1.1 8).toInt) ∧ (CF nx kL kn kw (kh + 1) 0 ki kc ko kt S1 ∧ CF nx kL kn kw (kh + 1) 0 ki (kc + 1) ko kt S1 ∧ AF nx km S1 ∧ OH nx S0 S1)) := by
  unfold wp_expression
  have j24 : ∀ (x1 : Int32) (Sx : mS), (XI nx n so pl wo ws S0 d (G - 1) GA (X + 4) (Y + 1) Sx ∧ ((Sx.1 4) = 0 → (S.1 4) = 0 ∧ (S.1 3).toInt < (Sx.1 3).toInt) ∧ (S.1 8).toInt ≤ (Sx.1 8).toInt ∧ (Sx.1 4) = 0 ∧ (Sx.1 3).toInt < n) ∧ (CF nx kL kn kw (kh + 1) 0 ki kc ko kt Sx ∧ CF nx kL kn kw (kh + 1) 0 ki (kc + 1) ko kt Sx ∧ AF nx km Sx ∧ OH nx S0 Sx) → wp_expression_24 r_part (fun S1 => (XI nx n so pl wo ws S0 d (G - 1) GA (X + 6) (Y + 1) S1 ∧ ((S1.1 4) = 0 → (S.1 4) = 0 ∧ (S.1 3).toInt < (S1.1 3).toInt) ∧ (S.1 8).toInt ≤ (S1.1 8).toInt) ∧ (CF nx kL kn kw (kh + 1) 0 ki kc ko kt S1 ∧ CF nx kL kn kw (kh + 1) 0 ki (kc + 1) ko kt S1 ∧ AF nx km S1 ∧ OH nx S0 S1)) x1 Sx := by
    intro x1 Sx hJ24
    unfold wp_expression_24
    obtain ⟨hJ24, iJ24⟩ := hJ24
    intro z6 ez6
    intro S7 eS7
    have nS7 : NC Sx S7 := NC_z eS7 (by decide)
    have mS7 : NA Sx S7 := NA_z eS7 (by decide)
    have oS7 : NO nx Sx S7 := NO_z eS7
    refine fm_sum hf_part _ _ _ (fun S8 hF1 pS8 => ?_) (sg_sum hf_part hr_part (nx := nx) (n := n) (so := so) (pl := pl) (wo := wo) (ws := ws) (S0 := S0) (d := d) (G := (G - 6)) (GA := GA) (X := X) (Y := Y) (kL := kL) (kn := kn) (kw := kw) (kh := (kh + 1)) (ki := ki) (kc := kc) (ko := ko) (km := km) (kt := kt) (D := D) (by (try clear hC hA hO hh iJ24 nS7 mS7 oS7); (try clear j24); (try clear hr_part); (try clear hf_part); grind [XI, PI, PJ, BU, LV, LA_i, q_zz, q_za, q_zga, q_fza, q_fx, q_fga, q_gza, q_gfa, q_gx, q_zf1, q_zg1, q_ff, q_fg1, q_gf1, q_gg, ti_link]) (by (try clear hC hA hO hh iJ24 nS7 mS7 oS7); (try clear j24); (try clear hr_part); (try clear hf_part); grind [XI, PI, PJ, BU, LV, LA_i, q_zz, q_za, q_zga, q_fza, q_fx, q_fga, q_gza, q_gfa, q_gx, q_zf1, q_zg1, q_ff, q_fg1, q_gf1, q_gg, ti_link]) (by (try clear hC hA hO hh iJ24 nS7 mS7 oS7); (try clear j24); (try clear hr_part); (try clear hf_part); grind [XI, PI, PJ, BU, LV, LA_i, q_zz, q_za, q_zga, q_fza, q_fx, q_fga, q_gza, q_gfa, q_gx, q_zf1, q_zg1, q_ff, q_fg1, q_gf1, q_gg, ti_link]) (by (try clear j24); (try clear hr_part); (try clear hf_part); grind [CF_nc, AF_na, OH_no, AQ_o, CF_nf, CF_dec, CF_e0, CF_bin, CF_step, CF_num, CF_clk, CF_cell, CF_neg, ti_link]) (by (try clear j24); (try clear hr_part); (try clear hf_part); grind [CF_nc, AF_na, OH_no, AQ_o, CF_nf, CF_dec, CF_e0, CF_bin, CF_step, CF_num, CF_clk, CF_cell, CF_neg, ti_link]) (by (try clear j24); (try clear hr_part); (try clear hf_part); grind [CF_nc, AF_na, OH_no, AQ_o, CF_nf, CF_dec, CF_e0, CF_bin, CF_step, CF_num, CF_clk, CF_cell, CF_neg, ti_link]) (by (try clear j24); (try clear hr_part); (try clear hf_part); grind [CF_nc, AF_na, OH_no, AQ_o, CF_nf, CF_dec, CF_e0, CF_bin, CF_step, CF_num, CF_clk, CF_cell, CF_neg, ti_link]))
    obtain ⟨pS8, qS8⟩ := pS8
    have z6_S8 := hF1.1 6 (by decide)
    have z11_S8 := hF1.1 11 (by decide)
    have z12_S8 := hF1.1 12 (by decide)
    have f1_S8 := hF1.2.1 1 (by decide)
    have f1a_S8 := Fr_fa hF1 1 (by decide)
    have f2_S8 := hF1.2.1 2 (by decide)
    have f2a_S8 := Fr_fa hF1 2 (by decide)
    have f46_S8 := hF1.2.1 46 (by decide)
    have f46a_S8 := Fr_fa hF1 46 (by decide)
    have f48_S8 := hF1.2.1 48 (by decide)
    have f48a_S8 := Fr_fa hF1 48 (by decide)
    have g3_S8 := hF1.2.2 3 (by decide)
    have g3a_S8 := Fr_ga hF1 3 (by decide)
    have g4_S8 := hF1.2.2 4 (by decide)
    have g4a_S8 := Fr_ga hF1 4 (by decide)
    clear hF1
    refine ⟨fun c2 => ?_, fun c2 => ?_⟩
    · unfold wp_expression_50
      refine fm_emit _ _ _ _ _ _ (fun S10 r10 hF3 pS10 => ?_) (sg_emit (nx := nx) _ _ _ (by (try clear hC hA hO hh iJ24 nS7 mS7 oS7 qS8); (try clear j24); (try clear hr_part); (try clear hf_part); grind [XI, PI, PJ, BU, LV, LA_i, q_zz, q_za, q_zga, q_fza, q_fx, q_fga, q_gza, q_gfa, q_gx, q_zf1, q_zg1, q_ff, q_fg1, q_gf1, q_gg, ti_link]))
      obtain ⟨pS10, qS10⟩ := pS10
      have fS10 : S10.1 4 = 0 → S8.1 4 = 0 := fun q => (hF3.1 4 (by decide)).symm.trans q
      have mS10 : NA S8 S10 := NA_fr hF3 (by decide) (by decide) fS10
      have z3_S10 := hF3.1 3 (by decide)
      have z4_S10 := hF3.1 4 (by decide)
      have z6_S10 := hF3.1 6 (by decide)
      have z8_S10 := hF3.1 8 (by decide)
      have z11_S10 := hF3.1 11 (by decide)
      have z12_S10 := hF3.1 12 (by decide)
      have z18_S10 := hF3.1 18 (by decide)
      have z19_S10 := hF3.1 19 (by decide)
      have f1_S10 := hF3.2.1 1 (by decide)
      have f1a_S10 := Fr_fa hF3 1 (by decide)
      have f2_S10 := hF3.2.1 2 (by decide)
      have f2a_S10 := Fr_fa hF3 2 (by decide)
      have f8_S10 := hF3.2.1 8 (by decide)
      have f8a_S10 := Fr_fa hF3 8 (by decide)
      have f46_S10 := hF3.2.1 46 (by decide)
      have f46a_S10 := Fr_fa hF3 46 (by decide)
      have f48_S10 := hF3.2.1 48 (by decide)
      have f48a_S10 := Fr_fa hF3 48 (by decide)
      have g3_S10 := hF3.2.2 3 (by decide)
      have g3a_S10 := Fr_ga hF3 3 (by decide)
      have g4_S10 := hF3.2.2 4 (by decide)
      have g4a_S10 := Fr_ga hF3 4 (by decide)
      clear hF3
      exact ⟨by (try clear hC hA hO hh iJ24 nS7 mS7 oS7 qS8 qS10 mS10); (try clear j24); (try clear hr_part); (try clear hf_part); grind [XI, PI, PJ, BU, LV, LA_i, q_zz, q_za, q_zga, q_fza, q_fx, q_fga, q_gza, q_gfa, q_gx, q_zf1, q_zg1, q_ff, q_fg1, q_gf1, q_gg, ti_link], by refine ⟨?_, ?_, ?_, ?_⟩ <;> ((try clear j24); (try clear hr_part); (try clear hf_part); grind [CF_nc, AF_na, OH_no, AQ_o, CF_nf, CF_dec, CF_e0, CF_bin, CF_step, CF_num, CF_clk, CF_cell, CF_neg, ti_link])⟩
    · unfold wp_expression_50
      refine fm_emit _ _ _ _ _ _ (fun S10 r10 hF4 pS10 => ?_) (sg_emit (nx := nx) _ _ _ (by (try clear hC hA hO hh iJ24 nS7 mS7 oS7 qS8); (try clear j24); (try clear hr_part); (try clear hf_part); grind [XI, PI, PJ, BU, LV, LA_i, q_zz, q_za, q_zga, q_fza, q_fx, q_fga, q_gza, q_gfa, q_gx, q_zf1, q_zg1, q_ff, q_fg1, q_gf1, q_gg, ti_link]))
      obtain ⟨pS10, qS10⟩ := pS10
      have fS10 : S10.1 4 = 0 → S8.1 4 = 0 := fun q => (hF4.1 4 (by decide)).symm.trans q
      have mS10 : NA S8 S10 := NA_fr hF4 (by decide) (by decide) fS10
      have z3_S10 := hF4.1 3 (by decide)
      have z4_S10 := hF4.1 4 (by decide)
      have z6_S10 := hF4.1 6 (by decide)
      have z8_S10 := hF4.1 8 (by decide)
      have z11_S10 := hF4.1 11 (by decide)
      have z12_S10 := hF4.1 12 (by decide)
      have z18_S10 := hF4.1 18 (by decide)
      have z19_S10 := hF4.1 19 (by decide)
      have f1_S10 := hF4.2.1 1 (by decide)
      have f1a_S10 := Fr_fa hF4 1 (by decide)
      have f2_S10 := hF4.2.1 2 (by decide)
      have f2a_S10 := Fr_fa hF4 2 (by decide)
      have f8_S10 := hF4.2.1 8 (by decide)
      have f8a_S10 := Fr_fa hF4 8 (by decide)
      have f46_S10 := hF4.2.1 46 (by decide)
      have f46a_S10 := Fr_fa hF4 46 (by decide)
      have f48_S10 := hF4.2.1 48 (by decide)
      have f48a_S10 := Fr_fa hF4 48 (by decide)
      have g3_S10 := hF4.2.2 3 (by decide)
      have g3a_S10 := Fr_ga hF4 3 (by decide)
      have g4_S10 := hF4.2.2 4 (by decide)
      have g4a_S10 := Fr_ga hF4 4 (by decide)
      clear hF4
      exact ⟨by (try clear hC hA hO hh iJ24 nS7 mS7 oS7 qS8 qS10 mS10); (try clear j24); (try clear hr_part); (try clear hf_part); grind [XI, PI, PJ, BU, LV, LA_i, q_zz, q_za, q_zga, q_fza, q_fx, q_fga, q_gza, q_gfa, q_gx, q_zf1, q_zg1, q_ff, q_fg1, q_gf1, q_gg, ti_link], by refine ⟨?_, ?_, ?_, ?_⟩ <;> ((try clear j24); (try clear hr_part); (try clear hf_part); grind [CF_nc, AF_na, OH_no, AQ_o, CF_nf, CF_dec, CF_e0, CF_bin, CF_step, CF_num, CF_clk, CF_cell, CF_neg, ti_link])⟩
  refine fm_sum hf_part _ _ _ (fun S1 hF5 pS1 => ?_) (sg_sum hf_part hr_part (nx := nx) (n := n) (so := so) (pl := pl) (wo := wo) (ws := ws) (S0 := S0) (d := d) (G := G) (GA := GA) (X := X) (Y := Y) (kL := kL) (kn := kn) (kw := kw) (kh := kh) (ki := ki) (kc := kc) (ko := ko) (km := km) (kt := kt) (D := D) (by (try clear hC hA hO hh); (try clear j24); (try clear hr_part); (try clear hf_part); grind [XI, PI, PJ, BU, LV, LA_i, q_zz, q_za, q_zga, q_fza, q_fx, q_fga, q_gza, q_gfa, q_gx, q_zf1, q_zg1, q_ff, q_fg1, q_gf1, q_gg, ti_link]) (by (try clear hC hA hO hh); (try clear j24); (try clear hr_part); (try clear hf_part); grind [XI, PI, PJ, BU, LV, LA_i, q_zz, q_za, q_zga, q_fza, q_fx, q_fga, q_gza, q_gfa, q_gx, q_zf1, q_zg1, q_ff, q_fg1, q_gf1, q_gg, ti_link]) (by (try clear hC hA hO hh); (try clear j24); (try clear hr_part); (try clear hf_part); grind [XI, PI, PJ, BU, LV, LA_i, q_zz, q_za, q_zga, q_fza, q_fx, q_fga, q_gza, q_gfa, q_gx, q_zf1, q_zg1, q_ff, q_fg1, q_gf1, q_gg, ti_link]) (by (try clear j24); (try clear hr_part); (try clear hf_part); grind [CF_nc, AF_na, OH_no, AQ_o, CF_nf, CF_dec, CF_e0, CF_bin, CF_step, CF_num, CF_clk, CF_cell, CF_neg, ti_link]) (by (try clear j24); (try clear hr_part); (try clear hf_part); grind [CF_nc, AF_na, OH_no, AQ_o, CF_nf, CF_dec, CF_e0, CF_bin, CF_step, CF_num, CF_clk, CF_cell, CF_neg, ti_link]) (by (try clear j24); (try clear hr_part); (try clear hf_part); grind [CF_nc, AF_na, OH_no, AQ_o, CF_nf, CF_dec, CF_e0, CF_bin, CF_step, CF_num, CF_clk, CF_cell, CF_neg, ti_link]) (by (try clear j24); (try clear hr_part); (try clear hf_part); grind [CF_nc, AF_na, OH_no, AQ_o, CF_nf, CF_dec, CF_e0, CF_bin, CF_step, CF_num, CF_clk, CF_cell, CF_neg, ti_link]))
  obtain ⟨pS1, qS1⟩ := pS1
  have z6_S1 := hF5.1 6 (by decide)
  have z11_S1 := hF5.1 11 (by decide)
  have z12_S1 := hF5.1 12 (by decide)
  have f1_S1 := hF5.2.1 1 (by decide)
  have f1a_S1 := Fr_fa hF5 1 (by decide)
  have f2_S1 := hF5.2.1 2 (by decide)
  have f2a_S1 := Fr_fa hF5 2 (by decide)
  have f46_S1 := hF5.2.1 46 (by decide)
  have f46a_S1 := Fr_fa hF5 46 (by decide)
  have f48_S1 := hF5.2.1 48 (by decide)
  have f48a_S1 := Fr_fa hF5 48 (by decide)
  have g3_S1 := hF5.2.2 3 (by decide)
  have g3a_S1 := Fr_ga hF5 3 (by decide)
  have g4_S1 := hF5.2.2 4 (by decide)
  have g4a_S1 := Fr_ga hF5 4 (by decide)
  clear hF5
  refine fm_isSign _ _ _ _ (fun S2 r2 hF6 pS2 => ?_) (sg_isSign (nx := nx) (n := n) (so := so) (pl := pl) (wo := wo) (ws := ws) _ (by (try clear hC hA hO hh qS1); (try clear j24); (try clear hr_part); (try clear hf_part); grind [XI, PI, PJ, BU, LV, LA_i, q_zz, q_za, q_zga, q_fza, q_fx, q_fga, q_gza, q_gfa, q_gx, q_zf1, q_zg1, q_ff, q_fg1, q_gf1, q_gg, ti_link]))
  have fS2 : S2.1 4 = 0 → S1.1 4 = 0 := fun q => (hF6.1 4 (by decide)).symm.trans q
  have nS2 : NC S1 S2 := NC_fr hF6 (by decide) (by decide) fS2
  have mS2 : NA S1 S2 := NA_fr hF6 (by decide) (by decide) fS2
  have oS2 : NO nx S1 S2 := NO_fr hF6 (by decide) (by decide)
  have z3_S2 := hF6.1 3 (by decide)
  have z4_S2 := hF6.1 4 (by decide)
  have z6_S2 := hF6.1 6 (by decide)
  have z7_S2 := hF6.1 7 (by decide)
  have z8_S2 := hF6.1 8 (by decide)
  have z11_S2 := hF6.1 11 (by decide)
  have z12_S2 := hF6.1 12 (by decide)
  have z18_S2 := hF6.1 18 (by decide)
  have z19_S2 := hF6.1 19 (by decide)
  have f1_S2 := hF6.2.1 1 (by decide)
  have f1a_S2 := Fr_fa hF6 1 (by decide)
  have f2_S2 := hF6.2.1 2 (by decide)
  have f2a_S2 := Fr_fa hF6 2 (by decide)
  have f8_S2 := hF6.2.1 8 (by decide)
  have f8a_S2 := Fr_fa hF6 8 (by decide)
  have f46_S2 := hF6.2.1 46 (by decide)
  have f46a_S2 := Fr_fa hF6 46 (by decide)
  have f48_S2 := hF6.2.1 48 (by decide)
  have f48a_S2 := Fr_fa hF6 48 (by decide)
  have g3_S2 := hF6.2.2 3 (by decide)
  have g3a_S2 := Fr_ga hF6 3 (by decide)
  have g4_S2 := hF6.2.2 4 (by decide)
  have g4a_S2 := Fr_ga hF6 4 (by decide)
  clear hF6
  refine ⟨fun c7 => ?_, fun c7 => ?_⟩
  · exact j24 _ _ (⟨by (try clear hC hA hO hh qS1 nS2 mS2 oS2); (try clear j24); (try clear hr_part); (try clear hf_part); grind [XI, PI, PJ, BU, LV, LA_i, q_zz, q_za, q_zga, q_fza, q_fx, q_fga, q_gza, q_gfa, q_gx, q_zf1, q_zg1, q_ff, q_fg1, q_gf1, q_gg, ti_link], by refine ⟨?_, ?_, ?_, ?_⟩ <;> ((try clear j24); (try clear hr_part); (try clear hf_part); grind [CF_nc, AF_na, OH_no, AQ_o, CF_nf, CF_dec, CF_e0, CF_bin, CF_step, CF_num, CF_clk, CF_cell, CF_neg, ti_link])⟩)
  · refine fm_isSign _ _ _ _ (fun S4 r4 hF8 pS4 => ?_) (sg_isSign (nx := nx) (n := n) (so := so) (pl := pl) (wo := wo) (ws := ws) _ (by (try clear hC hA hO hh qS1 nS2 mS2 oS2); (try clear j24); (try clear hr_part); (try clear hf_part); grind [XI, PI, PJ, BU, LV, LA_i, q_zz, q_za, q_zga, q_fza, q_fx, q_fga, q_gza, q_gfa, q_gx, q_zf1, q_zg1, q_ff, q_fg1, q_gf1, q_gg, ti_link]))
    have fS4 : S4.1 4 = 0 → S2.1 4 = 0 := fun q => (hF8.1 4 (by decide)).symm.trans q
    have nS4 : NC S2 S4 := NC_fr hF8 (by decide) (by decide) fS4
    have mS4 : NA S2 S4 := NA_fr hF8 (by decide) (by decide) fS4
    have oS4 : NO nx S2 S4 := NO_fr hF8 (by decide) (by decide)
    have z3_S4 := hF8.1 3 (by decide)
    have z4_S4 := hF8.1 4 (by decide)
    have z6_S4 := hF8.1 6 (by decide)
    have z7_S4 := hF8.1 7 (by decide)
    have z8_S4 := hF8.1 8 (by decide)
    have z11_S4 := hF8.1 11 (by decide)
    have z12_S4 := hF8.1 12 (by decide)
    have z18_S4 := hF8.1 18 (by decide)
    have z19_S4 := hF8.1 19 (by decide)
    have f1_S4 := hF8.2.1 1 (by decide)
    have f1a_S4 := Fr_fa hF8 1 (by decide)
    have f2_S4 := hF8.2.1 2 (by decide)
    have f2a_S4 := Fr_fa hF8 2 (by decide)
    have f8_S4 := hF8.2.1 8 (by decide)
    have f8a_S4 := Fr_fa hF8 8 (by decide)
    have f46_S4 := hF8.2.1 46 (by decide)
    have f46a_S4 := Fr_fa hF8 46 (by decide)
    have f48_S4 := hF8.2.1 48 (by decide)
    have f48a_S4 := Fr_fa hF8 48 (by decide)
    have g3_S4 := hF8.2.2 3 (by decide)
    have g3a_S4 := Fr_ga hF8 3 (by decide)
    have g4_S4 := hF8.2.2 4 (by decide)
    have g4a_S4 := Fr_ga hF8 4 (by decide)
    clear hF8
    refine ⟨fun c9 => ?_, fun c9 => ?_⟩
    · exact ⟨by (try clear hC hA hO hh qS1 nS2 mS2 oS2 nS4 mS4 oS4); (try clear j24); (try clear hr_part); (try clear hf_part); grind [XI, PI, PJ, BU, LV, LA_i, q_zz, q_za, q_zga, q_fza, q_fx, q_fga, q_gza, q_gfa, q_gx, q_zf1, q_zg1, q_ff, q_fg1, q_gf1, q_gg, ti_link], by refine ⟨?_, ?_, ?_, ?_⟩ <;> ((try clear j24); (try clear hr_part); (try clear hf_part); grind [CF_nc, AF_na, OH_no, AQ_o, CF_nf, CF_dec, CF_e0, CF_bin, CF_step, CF_num, CF_clk, CF_cell, CF_neg, ti_link])⟩
    · exact j24 _ _ (⟨by (try clear hC hA hO hh qS1 nS2 mS2 oS2 nS4 mS4 oS4); (try clear j24); (try clear hr_part); (try clear hf_part); grind [XI, PI, PJ, BU, LV, LA_i, q_zz, q_za, q_zga, q_fza, q_fx, q_fga, q_gza, q_gfa, q_gx, q_zf1, q_zg1, q_ff, q_fg1, q_gf1, q_gg, ti_link], by refine ⟨?_, ?_, ?_, ?_⟩ <;> ((try clear j24); (try clear hr_part); (try clear hf_part); grind [CF_nc, AF_na, OH_no, AQ_o, CF_nf, CF_dec, CF_e0, CF_bin, CF_step, CF_num, CF_clk, CF_cell, CF_neg, ti_link])⟩)
