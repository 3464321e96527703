
set_option maxHeartbeats 4000000 in
theorem sg_child {nx n : Nat} {so pl : Nat → Int32} {wo ws : Nat → Int64} {S0 : mS} {d : Nat} {G GA X Y : Int} {kL : LT3} {kn kw kh ki kc ko km : Int} {kt : Int32} {S : mS} (hL : LV d G GA X Y) (h : XI nx n so pl wo ws S0 d G GA X Y S) (hl : (S.1 4) = 0 → 4 * (S.1 11).toInt + 1 ≤ (S.1 3).toInt) (hC : CF nx kL kn kw 0 0 1 (kc + 1) ko kt S) (hA : AF nx km S) (hO : OH nx S0 S) (hh : 0 ≤ kc ∧ 0 ≤ ko) : wp_child S (fun S1 => (XI nx n so pl wo ws S0 d (G - 5) GA (X + 8) (Y + 1) S1 ∧ ((S1.1 4) = 0 → (S.1 4) = 0 ∧ (S.1 3).toInt < (S1.1 3).toInt) ∧ (S.1 8).toInt ≤ (S1.1 8).toInt) ∧ (CF nx kL kn kw 0 0 1 kc ko kt S1 ∧ AF nx km S1 ∧ OH nx S0 S1)) := by
  unfold wp_child
  have j77 : ∀ (x1 : Int32) (x2 : Int32) (Sx : mS), (XI nx n so pl wo ws S0 d (G - 10) GA (X + 6) (Y + 1) Sx ∧ (S.1 8).toInt ≤ (Sx.1 8).toInt ∧ ((Sx.1 4) = 0 → (S.1 4) = 0 ∧ (S.1 3).toInt + 2 ≤ (Sx.1 3).toInt) ∧ (Sx.1 11) = (S.1 11) ∧ x1 = (S.1 3) ∧ 0 ≤ x2.toInt ∧ x2.toInt ≤ n + 1) ∧ (CF nx kL kn kw x2.toInt 0 1 (kc + 1) ko kt Sx ∧ AF nx km Sx ∧ OH nx S0 Sx) → wp_child_77 (fun S1 => (XI nx n so pl wo ws S0 d (G - 5) GA (X + 8) (Y + 1) S1 ∧ ((S1.1 4) = 0 → (S.1 4) = 0 ∧ (S.1 3).toInt < (S1.1 3).toInt) ∧ (S.1 8).toInt ≤ (S1.1 8).toInt) ∧ (CF nx kL kn kw 0 0 1 kc ko kt S1 ∧ AF nx km S1 ∧ OH nx S0 S1)) x1 x2 Sx := by
    intro x1 x2 Sx hJ77
    unfold wp_child_77
    obtain ⟨hJ77, iJ77⟩ := hJ77
    refine fm_takeSign _ _ _ _ (fun S15 hF1 pS15 => ?_) (sg_takeSign (nx := nx) (n := n) (so := so) (pl := pl) (wo := wo) (ws := ws) _ (by (try clear hC hA hO hh iJ77); (try clear j19); (try clear j77); (try clear hk58); grind [XI, PI, PJ, BU, LV, LA_i, PL_add, q_zz, q_za, q_zga, q_fza, q_fx, q_fga, q_gza, q_gfa, q_gx, q_zf1, q_zg1, q_ff, q_fg1, q_gf1, q_gg, ti_link, in1000]))
    have fS15 : S15.1 4 = 0 → Sx.1 4 = 0 := by (try clear hC hA hO hh iJ77); (try clear j19); (try clear j77); (try clear hk58); grind [ti_link]
    have nS15 : NC Sx S15 := NC_fr hF1 (by decide) (by decide) fS15
    have mS15 : NA Sx S15 := NA_fr hF1 (by decide) (by decide) fS15
    have oS15 : NO nx Sx S15 := NO_fr hF1 (by decide) (by decide)
    have z6_S15 := hF1.1 6 (by decide)
    have z7_S15 := hF1.1 7 (by decide)
    have z8_S15 := hF1.1 8 (by decide)
    have z11_S15 := hF1.1 11 (by decide)
    have z12_S15 := hF1.1 12 (by decide)
    have z18_S15 := hF1.1 18 (by decide)
    have z19_S15 := hF1.1 19 (by decide)
    have f1_S15 := hF1.2.1 1 (by decide)
    have f1a_S15 := Fr_fa hF1 1 (by decide)
    have f2_S15 := hF1.2.1 2 (by decide)
    have f2a_S15 := Fr_fa hF1 2 (by decide)
    have f8_S15 := hF1.2.1 8 (by decide)
    have f8a_S15 := Fr_fa hF1 8 (by decide)
    have f46_S15 := hF1.2.1 46 (by decide)
    have f46a_S15 := Fr_fa hF1 46 (by decide)
    have f48_S15 := hF1.2.1 48 (by decide)
    have f48a_S15 := Fr_fa hF1 48 (by decide)
    have g3_S15 := hF1.2.2 3 (by decide)
    have g3a_S15 := Fr_ga hF1 3 (by decide)
    have g4_S15 := hF1.2.2 4 (by decide)
    have g4a_S15 := Fr_ga hF1 4 (by decide)
    clear hF1
    refine fm_emit _ _ _ _ _ _ (fun S16 r16 hF2 pS16 => ?_) (sg_emit (nx := nx) _ _ _ (by (try clear hC hA hO hh iJ77 nS15 mS15 oS15); (try clear j19); (try clear j77); (try clear hk58); grind [XI, PI, PJ, BU, LV, LA_i, PL_add, q_zz, q_za, q_zga, q_fza, q_fx, q_fga, q_gza, q_gfa, q_gx, q_zf1, q_zg1, q_ff, q_fg1, q_gf1, q_gg, ti_link, in1000]))
    obtain ⟨pS16, qS16⟩ := pS16
    have fS16 : S16.1 4 = 0 → S15.1 4 = 0 := fun q => (hF2.1 4 (by decide)).symm.trans q
    have mS16 : NA S15 S16 := NA_fr hF2 (by decide) (by decide) fS16
    have z3_S16 := hF2.1 3 (by decide)
    have z4_S16 := hF2.1 4 (by decide)
    have z6_S16 := hF2.1 6 (by decide)
    have z8_S16 := hF2.1 8 (by decide)
    have z11_S16 := hF2.1 11 (by decide)
    have z12_S16 := hF2.1 12 (by decide)
    have z18_S16 := hF2.1 18 (by decide)
    have z19_S16 := hF2.1 19 (by decide)
    have f1_S16 := hF2.2.1 1 (by decide)
    have f1a_S16 := Fr_fa hF2 1 (by decide)
    have f2_S16 := hF2.2.1 2 (by decide)
    have f2a_S16 := Fr_fa hF2 2 (by decide)
    have f8_S16 := hF2.2.1 8 (by decide)
    have f8a_S16 := Fr_fa hF2 8 (by decide)
    have f46_S16 := hF2.2.1 46 (by decide)
    have f46a_S16 := Fr_fa hF2 46 (by decide)
    have f48_S16 := hF2.2.1 48 (by decide)
    have f48a_S16 := Fr_fa hF2 48 (by decide)
    have g3_S16 := hF2.2.2 3 (by decide)
    have g3a_S16 := Fr_ga hF2 3 (by decide)
    have g4_S16 := hF2.2.2 4 (by decide)
    have g4a_S16 := Fr_ga hF2 4 (by decide)
    clear hF2
    refine ⟨fun c3 => ?_, fun c3 => ?_⟩
    · exact ⟨by (try clear hC hA hO hh iJ77 nS15 mS15 oS15 qS16 mS16); (try clear j19); (try clear j77); (try clear hk58); grind [XI, PI, PJ, BU, LV, LA_i, PL_add, q_zz, q_za, q_zga, q_fza, q_fx, q_fga, q_gza, q_gfa, q_gx, q_zf1, q_zg1, q_ff, q_fg1, q_gf1, q_gg, ti_link, in1000], by refine ⟨?_, ?_, ?_⟩ <;> ((try clear j19); (try clear j77); (try clear hk58); grind [CF_nc, AF_na, OH_no, AQ_o, CF_nf, CF_dec, CF_e0, CF_bin, CF_step, CF_num, CF_clk, CF_cell, CF_neg, CF_letter, CF_tick, CF_yield, CF_childP, CF_open2, CF_openv, CF_shut, ti_link])⟩
    · refine ⟨by (try clear hC hA hO hh iJ77 nS15 mS15 oS15 qS16 mS16); (try clear j19); (try clear j77); (try clear hk58); grind [XI, PI, PJ, BU, LV, LA_i, PL_add, q_zz, q_za, q_zga, q_fza, q_fx, q_fga, q_gza, q_gfa, q_gx, q_zf1, q_zg1, q_ff, q_fg1, q_gf1, q_gg, ti_link, in1000], ?_⟩
      intro S18 eS18
      have nS18 : NC S16 S18 := NC_f eS18 (by decide)
      have mS18 : NA S16 S18 := NA_f eS18 (by decide)
      have oS18 : NO nx S16 S18 := NO_f eS18 (nH_n (by decide))
      refine ⟨by (try clear hC hA hO hh iJ77 nS15 mS15 oS15 qS16 mS16 nS18 mS18 oS18); (try clear j19); (try clear j77); (try clear hk58); grind [XI, PI, PJ, BU, LV, LA_i, PL_add, q_zz, q_za, q_zga, q_fza, q_fx, q_fga, q_gza, q_gfa, q_gx, q_zf1, q_zg1, q_ff, q_fg1, q_gf1, q_gg, ti_link, in1000], ?_⟩
      intro S19 eS19
      have mS19 : NA S18 S19 := NA_f eS19 (by decide)
      have oS19 : NO nx S18 S19 := NO_f eS19 (nH_n (by decide))
      refine ⟨by (try clear hC hA hO hh iJ77 nS15 mS15 oS15 qS16 mS16 nS18 mS18 oS18 mS19 oS19); (try clear j19); (try clear j77); (try clear hk58); grind [XI, PI, PJ, BU, LV, LA_i, PL_add, q_zz, q_za, q_zga, q_fza, q_fx, q_fga, q_gza, q_gfa, q_gx, q_zf1, q_zg1, q_ff, q_fg1, q_gf1, q_gg, ti_link, in1000], ?_⟩
      intro S20 eS20
      have mS20 : NA S19 S20 := NA_f eS20 (by decide)
      have oS20 : NO nx S19 S20 := NO_f eS20 (nH_n (by decide))
      intro z21 ez21
      intro S22 eS22
      have mS22 : NA S20 S22 := NA_z eS22 (by decide)
      have oS22 : NO nx S20 S22 := NO_z eS22
      have cL22 : CF nx kL kn kw 0 0 1 kc ko kt S22 := CF_late qS16.1 eS18 eS19 (by rw [← pS16.1]; exact eS20) ez21 eS22 (by (try clear hC hA hO hh iJ77 nS15 mS15 oS15 qS16 mS16 nS18 mS18 oS18 mS19 oS19 mS20 oS20 mS22 oS22); (try clear j19); (try clear j77); (try clear hk58); grind [XI, PI, PJ, BU, LV, LA_i, PL_add, q_zz, q_za, q_zga, q_fza, q_fx, q_fga, q_gza, q_gfa, q_gx, q_zf1, q_zg1, q_ff, q_fg1, q_gf1, q_gg, ti_link, in1000]) (CF_childP (h := 0) (hb1 := x2.toInt) qS16.1 (CF_nc nS15 iJ77.1) (Int.le_refl _) hh.1 ⟨by (try clear hC hA hO hh iJ77 nS15 mS15 oS15 qS16 mS16 nS18 mS18 oS18 mS19 oS19 mS20 oS20 mS22 oS22); (try clear j19); (try clear j77); (try clear hk58); grind [XI, PI, PJ, BU, LV, LA_i, PL_add, q_zz, q_za, q_zga, q_fza, q_fx, q_fga, q_gza, q_gfa, q_gx, q_zf1, q_zg1, q_ff, q_fg1, q_gf1, q_gg, ti_link, in1000], by omega⟩)
      exact ⟨by (try clear hC hA hO hh iJ77 nS15 mS15 oS15 qS16 mS16 nS18 mS18 oS18 mS19 oS19 mS20 oS20 mS22 oS22 cL22); (try clear j19); (try clear j77); (try clear hk58); grind [XI, PI, PJ, BU, LV, LA_i, PL_add, q_zz, q_za, q_zga, q_fza, q_fx, q_fga, q_gza, q_gfa, q_gx, q_zf1, q_zg1, q_ff, q_fg1, q_gf1, q_gg, ti_link, in1000], by refine ⟨?_, ?_, ?_⟩ <;> ((try clear j19); (try clear j77); (try clear hk58); grind [CF_nc, AF_na, OH_no, AQ_o, CF_nf, CF_dec, CF_e0, CF_bin, CF_step, CF_num, CF_clk, CF_cell, CF_neg, CF_letter, CF_tick, CF_yield, CF_childP, CF_open2, CF_openv, CF_shut, ti_link])⟩
  have j19 : ∀ (Sx : mS), (XI nx n so pl wo ws S0 d G GA X Y Sx ∧ (S.1 8).toInt ≤ (Sx.1 8).toInt ∧ (Sx.1 11) = (S.1 11) ∧ (Sx.1 3) = (S.1 3) ∧ ((Sx.1 4) = 0 → (S.1 4) = 0 ∧ (S.1 3).toInt < n)) ∧ (CF nx kL kn kw 0 0 1 (kc + 1) ko kt Sx ∧ AF nx km Sx ∧ OH nx S0 Sx) → wp_child_19 (fun S1 => (XI nx n so pl wo ws S0 d (G - 5) GA (X + 8) (Y + 1) S1 ∧ ((S1.1 4) = 0 → (S.1 4) = 0 ∧ (S.1 3).toInt < (S1.1 3).toInt) ∧ (S.1 8).toInt ≤ (S1.1 8).toInt) ∧ (CF nx kL kn kw 0 0 1 kc ko kt S1 ∧ AF nx km S1 ∧ OH nx S0 S1)) Sx := by
    intro Sx hJ19
    unfold wp_child_19
    obtain ⟨hJ19, iJ19⟩ := hJ19
    intro z5 ez5
    intro S6 eS6
    have nS6 : NC Sx S6 := NC_z eS6 (by decide)
    have mS6 : NA Sx S6 := NA_z eS6 (by decide)
    have oS6 : NO nx Sx S6 := NO_z eS6
    refine fm_takeSign _ _ _ _ (fun S7 hF4 pS7 => ?_) (sg_takeSign (nx := nx) (n := n) (so := so) (pl := pl) (wo := wo) (ws := ws) _ (by (try clear hC hA hO hh iJ19 nS6 mS6 oS6); (try clear j19); (try clear j77); (try clear hk58); grind [XI, PI, PJ, BU, LV, LA_i, PL_add, q_zz, q_za, q_zga, q_fza, q_fx, q_fga, q_gza, q_gfa, q_gx, q_zf1, q_zg1, q_ff, q_fg1, q_gf1, q_gg, ti_link, in1000]))
    have fS7 : S7.1 4 = 0 → S6.1 4 = 0 := by (try clear hC hA hO hh iJ19 nS6 mS6 oS6); (try clear j19); (try clear j77); (try clear hk58); grind [ti_link]
    have nS7 : NC S6 S7 := NC_fr hF4 (by decide) (by decide) fS7
    have mS7 : NA S6 S7 := NA_fr hF4 (by decide) (by decide) fS7
    have oS7 : NO nx S6 S7 := NO_fr hF4 (by decide) (by decide)
    have z6_S7 := hF4.1 6 (by decide)
    have z7_S7 := hF4.1 7 (by decide)
    have z8_S7 := hF4.1 8 (by decide)
    have z11_S7 := hF4.1 11 (by decide)
    have z12_S7 := hF4.1 12 (by decide)
    have z18_S7 := hF4.1 18 (by decide)
    have z19_S7 := hF4.1 19 (by decide)
    have f1_S7 := hF4.2.1 1 (by decide)
    have f1a_S7 := Fr_fa hF4 1 (by decide)
    have f2_S7 := hF4.2.1 2 (by decide)
    have f2a_S7 := Fr_fa hF4 2 (by decide)
    have f8_S7 := hF4.2.1 8 (by decide)
    have f8a_S7 := Fr_fa hF4 8 (by decide)
    have f46_S7 := hF4.2.1 46 (by decide)
    have f46a_S7 := Fr_fa hF4 46 (by decide)
    have f48_S7 := hF4.2.1 48 (by decide)
    have f48a_S7 := Fr_fa hF4 48 (by decide)
    have g3_S7 := hF4.2.2 3 (by decide)
    have g3a_S7 := Fr_ga hF4 3 (by decide)
    have g4_S7 := hF4.2.2 4 (by decide)
    have g4a_S7 := Fr_ga hF4 4 (by decide)
    clear hF4
    refine fm_isSign _ _ _ _ (fun S8 r8 hF5 pS8 => ?_) (sg_isSign (nx := nx) (n := n) (so := so) (pl := pl) (wo := wo) (ws := ws) _ (by (try clear hC hA hO hh iJ19 nS6 mS6 oS6 nS7 mS7 oS7); (try clear j19); (try clear j77); (try clear hk58); grind [XI, PI, PJ, BU, LV, LA_i, PL_add, q_zz, q_za, q_zga, q_fza, q_fx, q_fga, q_gza, q_gfa, q_gx, q_zf1, q_zg1, q_ff, q_fg1, q_gf1, q_gg, ti_link, in1000]))
    have fS8 : S8.1 4 = 0 → S7.1 4 = 0 := fun q => (hF5.1 4 (by decide)).symm.trans q
    have nS8 : NC S7 S8 := NC_fr hF5 (by decide) (by decide) fS8
    have mS8 : NA S7 S8 := NA_fr hF5 (by decide) (by decide) fS8
    have oS8 : NO nx S7 S8 := NO_fr hF5 (by decide) (by decide)
    have z3_S8 := hF5.1 3 (by decide)
    have z4_S8 := hF5.1 4 (by decide)
    have z6_S8 := hF5.1 6 (by decide)
    have z7_S8 := hF5.1 7 (by decide)
    have z8_S8 := hF5.1 8 (by decide)
    have z11_S8 := hF5.1 11 (by decide)
    have z12_S8 := hF5.1 12 (by decide)
    have z18_S8 := hF5.1 18 (by decide)
    have z19_S8 := hF5.1 19 (by decide)
    have f1_S8 := hF5.2.1 1 (by decide)
    have f1a_S8 := Fr_fa hF5 1 (by decide)
    have f2_S8 := hF5.2.1 2 (by decide)
    have f2a_S8 := Fr_fa hF5 2 (by decide)
    have f8_S8 := hF5.2.1 8 (by decide)
    have f8a_S8 := Fr_fa hF5 8 (by decide)
    have f46_S8 := hF5.2.1 46 (by decide)
    have f46a_S8 := Fr_fa hF5 46 (by decide)
    have f48_S8 := hF5.2.1 48 (by decide)
    have f48a_S8 := Fr_fa hF5 48 (by decide)
    have g3_S8 := hF5.2.2 3 (by decide)
    have g3a_S8 := Fr_ga hF5 3 (by decide)
    have g4_S8 := hF5.2.2 4 (by decide)
    have g4a_S8 := Fr_ga hF5 4 (by decide)
    clear hF5
    refine ⟨fun c6 => ?_, fun c6 => ?_⟩
    · exact j77 _ _ _ (⟨by (try clear hC hA hO hh iJ19 nS6 mS6 oS6 nS7 mS7 oS7 nS8 mS8 oS8); (try clear j19); (try clear j77); (try clear hk58); grind [XI, PI, PJ, BU, LV, LA_i, PL_add, q_zz, q_za, q_zga, q_fza, q_fx, q_fga, q_gza, q_gfa, q_gx, q_zf1, q_zg1, q_ff, q_fg1, q_gf1, q_gg, ti_link, in1000], by refine ⟨?_, ?_, ?_⟩ <;> ((try clear j19); (try clear j77); (try clear hk58); grind [CF_nc, AF_na, OH_no, AQ_o, CF_nf, CF_dec, CF_e0, CF_bin, CF_step, CF_num, CF_clk, CF_cell, CF_neg, CF_letter, CF_tick, CF_yield, CF_childP, CF_open2, CF_openv, CF_shut, ti_link])⟩)
    · refine fq_expression _ _ _ (fun S10 hF7 pS10 => ?_) (sq_expression (nx := nx) (n := n) (so := so) (pl := pl) (wo := wo) (ws := ws) (S0 := S0) (d := d) (G := (G - 10)) (GA := GA) (X := X) (Y := Y) (kL := kL) (kn := kn) (kw := kw) (kh := 0) (ki := 1) (kc := (kc + 1)) (ko := ko) (km := km) (kt := kt) (by (try clear hC hA hO hh iJ19 nS6 mS6 oS6 nS7 mS7 oS7 nS8 mS8 oS8); (try clear j19); (try clear j77); (try clear hk58); grind [XI, PI, PJ, BU, LV, LA_i, PL_add, q_zz, q_za, q_zga, q_fza, q_fx, q_fga, q_gza, q_gfa, q_gx, q_zf1, q_zg1, q_ff, q_fg1, q_gf1, q_gg, ti_link, in1000]) (by (try clear hC hA hO hh iJ19 nS6 mS6 oS6 nS7 mS7 oS7 nS8 mS8 oS8); (try clear j19); (try clear j77); (try clear hk58); grind [XI, PI, PJ, BU, LV, LA_i, PL_add, q_zz, q_za, q_zga, q_fza, q_fx, q_fga, q_gza, q_gfa, q_gx, q_zf1, q_zg1, q_ff, q_fg1, q_gf1, q_gg, ti_link, in1000]) (by (try clear j19); (try clear j77); (try clear hk58); grind [CF_nc, AF_na, OH_no, AQ_o, CF_nf, CF_dec, CF_e0, CF_bin, CF_step, CF_num, CF_clk, CF_cell, CF_neg, CF_letter, CF_tick, CF_yield, CF_childP, CF_open2, CF_openv, CF_shut, ti_link]) (by (try clear j19); (try clear j77); (try clear hk58); grind [CF_nc, AF_na, OH_no, AQ_o, CF_nf, CF_dec, CF_e0, CF_bin, CF_step, CF_num, CF_clk, CF_cell, CF_neg, CF_letter, CF_tick, CF_yield, CF_childP, CF_open2, CF_openv, CF_shut, ti_link]) (by (try clear j19); (try clear j77); (try clear hk58); grind [CF_nc, AF_na, OH_no, AQ_o, CF_nf, CF_dec, CF_e0, CF_bin, CF_step, CF_num, CF_clk, CF_cell, CF_neg, CF_letter, CF_tick, CF_yield, CF_childP, CF_open2, CF_openv, CF_shut, ti_link]) (by (try clear j19); (try clear j77); (try clear hk58); grind [CF_nc, AF_na, OH_no, AQ_o, CF_nf, CF_dec, CF_e0, CF_bin, CF_step, CF_num, CF_clk, CF_cell, CF_neg, CF_letter, CF_tick, CF_yield, CF_childP, CF_open2, CF_openv, CF_shut, ti_link]))
      obtain ⟨pS10, qS10⟩ := pS10
      have z6_S10 := hF7.1 6 (by decide)
      have z11_S10 := hF7.1 11 (by decide)
      have z12_S10 := hF7.1 12 (by decide)
      have f1_S10 := hF7.2.1 1 (by decide)
      have f1a_S10 := Fr_fa hF7 1 (by decide)
      have f2_S10 := hF7.2.1 2 (by decide)
      have f2a_S10 := Fr_fa hF7 2 (by decide)
      have f46_S10 := hF7.2.1 46 (by decide)
      have f46a_S10 := Fr_fa hF7 46 (by decide)
      have f48_S10 := hF7.2.1 48 (by decide)
      have f48a_S10 := Fr_fa hF7 48 (by decide)
      have g3_S10 := hF7.2.2 3 (by decide)
      have g3a_S10 := Fr_ga hF7 3 (by decide)
      have g4_S10 := hF7.2.2 4 (by decide)
      have g4a_S10 := Fr_ga hF7 4 (by decide)
      clear hF7
      refine it_rule (fun u : Int32 × Int32 × mS => (XI nx n so pl wo ws S0 d (G - 10) GA (X + 6) (Y + 1) u.2.2 ∧ ((u.2.2.1 4) = 0 → (S.1 4) = 0 ∧ (S.1 3).toInt + 3 ≤ (u.2.2.1 3).toInt) ∧ (S.1 8).toInt ≤ (u.2.2.1 8).toInt ∧ (u.2.2.1 11) = (S.1 11) ∧ u.1 = (S.1 3) ∧ 0 ≤ u.2.1.toInt ∧ u.2.1.toInt ≤ n + 1 ∧ ((u.2.2.1 4) = 0 → u.2.1.toInt ≤ (u.2.2.1 3).toInt)) ∧ (CF nx kL kn kw u.2.1.toInt 0 1 (kc + 1) ko kt u.2.2 ∧ AF nx km u.2.2 ∧ OH nx S0 u.2.2)) (fun u => (if (u.2.2.1 4) = 0 then (n : Int) - (u.2.2.1 3).toInt + 1 else 0).toNat) ?_ (⟨by (try clear hC hA hO hh iJ19 nS6 mS6 oS6 nS7 mS7 oS7 nS8 mS8 oS8 qS10); (try clear j19); (try clear j77); (try clear hk58); grind [XI, PI, PJ, BU, LV, LA_i, PL_add, q_zz, q_za, q_zga, q_fza, q_fx, q_fga, q_gza, q_gfa, q_gx, q_zf1, q_zg1, q_ff, q_fg1, q_gf1, q_gg, ti_link, in1000], by refine ⟨?_, ?_, ?_⟩ <;> ((try clear j19); (try clear j77); (try clear hk58); grind [CF_nc, AF_na, OH_no, AQ_o, CF_nf, CF_dec, CF_e0, CF_bin, CF_step, CF_num, CF_clk, CF_cell, CF_neg, CF_letter, CF_tick, CF_yield, CF_childP, CF_open2, CF_openv, CF_shut, ti_link])⟩)
      rintro ⟨x1, x2, Sl58⟩ k58 hI58 hk58
      replace hI58 : (XI nx n so pl wo ws S0 d (G - 10) GA (X + 6) (Y + 1) Sl58 ∧ ((Sl58.1 4) = 0 → (S.1 4) = 0 ∧ (S.1 3).toInt + 3 ≤ (Sl58.1 3).toInt) ∧ (S.1 8).toInt ≤ (Sl58.1 8).toInt ∧ (Sl58.1 11) = (S.1 11) ∧ x1 = (S.1 3) ∧ 0 ≤ x2.toInt ∧ x2.toInt ≤ n + 1 ∧ ((Sl58.1 4) = 0 → x2.toInt ≤ (Sl58.1 3).toInt)) ∧ (CF nx kL kn kw x2.toInt 0 1 (kc + 1) ko kt Sl58 ∧ AF nx km Sl58 ∧ OH nx S0 Sl58) := hI58
      replace hk58 : ∀ v : Int32 × Int32 × mS, (XI nx n so pl wo ws S0 d (G - 10) GA (X + 6) (Y + 1) v.2.2 ∧ ((v.2.2.1 4) = 0 → (S.1 4) = 0 ∧ (S.1 3).toInt + 3 ≤ (v.2.2.1 3).toInt) ∧ (S.1 8).toInt ≤ (v.2.2.1 8).toInt ∧ (v.2.2.1 11) = (S.1 11) ∧ v.1 = (S.1 3) ∧ 0 ≤ v.2.1.toInt ∧ v.2.1.toInt ≤ n + 1 ∧ ((v.2.2.1 4) = 0 → v.2.1.toInt ≤ (v.2.2.1 3).toInt)) ∧ (CF nx kL kn kw v.2.1.toInt 0 1 (kc + 1) ko kt v.2.2 ∧ AF nx km v.2.2 ∧ OH nx S0 v.2.2) → (if (v.2.2.1 4) = 0 then (n : Int) - (v.2.2.1 3).toInt + 1 else 0).toNat < (if (Sl58.1 4) = 0 then (n : Int) - (Sl58.1 3).toInt + 1 else 0).toNat → k58 v := hk58
      show wp_child_58 _ k58 x1 x2 Sl58
      unfold wp_child_58
      obtain ⟨hI58, iI58⟩ := hI58
      refine fm_hasSign _ _ _ _ (fun S11 r11 hF8 pS11 => ?_) (sg_hasSign (nx := nx) (n := n) (so := so) (pl := pl) (wo := wo) (ws := ws) _ (by (try clear hC hA hO hh iJ19 nS6 mS6 oS6 nS7 mS7 oS7 nS8 mS8 oS8 qS10 iI58); (try clear j19); (try clear j77); (try clear hk58); grind [XI, PI, PJ, BU, LV, LA_i, PL_add, q_zz, q_za, q_zga, q_fza, q_fx, q_fga, q_gza, q_gfa, q_gx, q_zf1, q_zg1, q_ff, q_fg1, q_gf1, q_gg, ti_link, in1000]))
      have fS11 : S11.1 4 = 0 → Sl58.1 4 = 0 := fun q => (hF8.1 4 (by decide)).symm.trans q
      have nS11 : NC Sl58 S11 := NC_fr hF8 (by decide) (by decide) fS11
      have mS11 : NA Sl58 S11 := NA_fr hF8 (by decide) (by decide) fS11
      have oS11 : NO nx Sl58 S11 := NO_fr hF8 (by decide) (by decide)
      have z4_S11 := hF8.1 4 (by decide)
      have z6_S11 := hF8.1 6 (by decide)
      have z7_S11 := hF8.1 7 (by decide)
      have z8_S11 := hF8.1 8 (by decide)
      have z11_S11 := hF8.1 11 (by decide)
      have z12_S11 := hF8.1 12 (by decide)
      have z18_S11 := hF8.1 18 (by decide)
      have z19_S11 := hF8.1 19 (by decide)
      have f1_S11 := hF8.2.1 1 (by decide)
      have f1a_S11 := Fr_fa hF8 1 (by decide)
      have f2_S11 := hF8.2.1 2 (by decide)
      have f2a_S11 := Fr_fa hF8 2 (by decide)
      have f8_S11 := hF8.2.1 8 (by decide)
      have f8a_S11 := Fr_fa hF8 8 (by decide)
      have f46_S11 := hF8.2.1 46 (by decide)
      have f46a_S11 := Fr_fa hF8 46 (by decide)
      have f48_S11 := hF8.2.1 48 (by decide)
      have f48a_S11 := Fr_fa hF8 48 (by decide)
      have g3_S11 := hF8.2.2 3 (by decide)
      have g3a_S11 := Fr_ga hF8 3 (by decide)
      have g4_S11 := hF8.2.2 4 (by decide)
      have g4a_S11 := Fr_ga hF8 4 (by decide)
      clear hF8
      refine ⟨fun c9 => ?_, fun c9 => ?_⟩
      · exact j77 _ _ _ (⟨by (try clear hC hA hO hh iJ19 nS6 mS6 oS6 nS7 mS7 oS7 nS8 mS8 oS8 qS10 iI58 nS11 mS11 oS11); (try clear j19); (try clear j77); (try clear hk58); grind [XI, PI, PJ, BU, LV, LA_i, PL_add, q_zz, q_za, q_zga, q_fza, q_fx, q_fga, q_gza, q_gfa, q_gx, q_zf1, q_zg1, q_ff, q_fg1, q_gf1, q_gg, ti_link, in1000], by refine ⟨?_, ?_, ?_⟩ <;> ((try clear j19); (try clear j77); (try clear hk58); grind [CF_nc, AF_na, OH_no, AQ_o, CF_nf, CF_dec, CF_e0, CF_bin, CF_step, CF_num, CF_clk, CF_cell, CF_neg, CF_letter, CF_tick, CF_yield, CF_childP, CF_open2, CF_openv, CF_shut, ti_link])⟩)
      · refine fq_expression _ _ _ (fun S13 hF10 pS13 => ?_) (sq_expression (nx := nx) (n := n) (so := so) (pl := pl) (wo := wo) (ws := ws) (S0 := S0) (d := d) (G := (G - 15)) (GA := GA) (X := X) (Y := Y) (kL := kL) (kn := kn) (kw := kw) (kh := x2.toInt) (ki := 1) (kc := (kc + 1)) (ko := ko) (km := km) (kt := kt) (by (try clear hC hA hO hh iJ19 nS6 mS6 oS6 nS7 mS7 oS7 nS8 mS8 oS8 qS10 iI58 nS11 mS11 oS11); (try clear j19); (try clear j77); (try clear hk58); grind [XI, PI, PJ, BU, LV, LA_i, PL_add, q_zz, q_za, q_zga, q_fza, q_fx, q_fga, q_gza, q_gfa, q_gx, q_zf1, q_zg1, q_ff, q_fg1, q_gf1, q_gg, ti_link, in1000]) (by (try clear hC hA hO hh iJ19 nS6 mS6 oS6 nS7 mS7 oS7 nS8 mS8 oS8 qS10 iI58 nS11 mS11 oS11); (try clear j19); (try clear j77); (try clear hk58); grind [XI, PI, PJ, BU, LV, LA_i, PL_add, q_zz, q_za, q_zga, q_fza, q_fx, q_fga, q_gza, q_gfa, q_gx, q_zf1, q_zg1, q_ff, q_fg1, q_gf1, q_gg, ti_link, in1000]) (by (try clear j19); (try clear j77); (try clear hk58); grind [CF_nc, AF_na, OH_no, AQ_o, CF_nf, CF_dec, CF_e0, CF_bin, CF_step, CF_num, CF_clk, CF_cell, CF_neg, CF_letter, CF_tick, CF_yield, CF_childP, CF_open2, CF_openv, CF_shut, ti_link]) (by (try clear j19); (try clear j77); (try clear hk58); grind [CF_nc, AF_na, OH_no, AQ_o, CF_nf, CF_dec, CF_e0, CF_bin, CF_step, CF_num, CF_clk, CF_cell, CF_neg, CF_letter, CF_tick, CF_yield, CF_childP, CF_open2, CF_openv, CF_shut, ti_link]) (by (try clear j19); (try clear j77); (try clear hk58); grind [CF_nc, AF_na, OH_no, AQ_o, CF_nf, CF_dec, CF_e0, CF_bin, CF_step, CF_num, CF_clk, CF_cell, CF_neg, CF_letter, CF_tick, CF_yield, CF_childP, CF_open2, CF_openv, CF_shut, ti_link]) (by (try clear j19); (try clear j77); (try clear hk58); grind [CF_nc, AF_na, OH_no, AQ_o, CF_nf, CF_dec, CF_e0, CF_bin, CF_step, CF_num, CF_clk, CF_cell, CF_neg, CF_letter, CF_tick, CF_yield, CF_childP, CF_open2, CF_openv, CF_shut, ti_link]))
        obtain ⟨pS13, qS13⟩ := pS13
        have z6_S13 := hF10.1 6 (by decide)
        have z11_S13 := hF10.1 11 (by decide)
        have z12_S13 := hF10.1 12 (by decide)
        have f1_S13 := hF10.2.1 1 (by decide)
        have f1a_S13 := Fr_fa hF10 1 (by decide)
        have f2_S13 := hF10.2.1 2 (by decide)
        have f2a_S13 := Fr_fa hF10 2 (by decide)
        have f46_S13 := hF10.2.1 46 (by decide)
        have f46a_S13 := Fr_fa hF10 46 (by decide)
        have f48_S13 := hF10.2.1 48 (by decide)
        have f48a_S13 := Fr_fa hF10 48 (by decide)
        have g3_S13 := hF10.2.2 3 (by decide)
        have g3a_S13 := Fr_ga hF10 3 (by decide)
        have g4_S13 := hF10.2.2 4 (by decide)
        have g4a_S13 := Fr_ga hF10 4 (by decide)
        clear hF10
        intro z14 ez14
        exact hk58 _ (⟨by (try clear hC hA hO hh iJ19 nS6 mS6 oS6 nS7 mS7 oS7 nS8 mS8 oS8 qS10 iI58 nS11 mS11 oS11 qS13); (try clear j19); (try clear j77); (try clear hk58); grind [XI, PI, PJ, BU, LV, LA_i, PL_add, q_zz, q_za, q_zga, q_fza, q_fx, q_fga, q_gza, q_gfa, q_gx, q_zf1, q_zg1, q_ff, q_fg1, q_gf1, q_gg, ti_link, in1000], by refine ⟨?_, ?_, ?_⟩ <;> ((try clear j19); (try clear j77); (try clear hk58); grind [CF_nc, AF_na, OH_no, AQ_o, CF_nf, CF_dec, CF_e0, CF_bin, CF_step, CF_num, CF_clk, CF_cell, CF_neg, CF_letter, CF_tick, CF_yield, CF_childP, CF_open2, CF_openv, CF_shut, ti_link])⟩) (by (try clear hC hA hO hh iJ19 nS6 mS6 oS6 nS7 mS7 oS7 nS8 mS8 oS8 qS10 iI58 nS11 mS11 oS11 qS13); (try clear j19); (try clear j77); (try clear hk58); grind [XI, PI, PJ, BU, LV, LA_i, PL_add, q_zz, q_za, q_zga, q_fza, q_fx, q_fga, q_gza, q_gfa, q_gx, q_zf1, q_zg1, q_ff, q_fg1, q_gf1, q_gg, ti_link, in1000])
  refine ⟨fun c11 => ?_, fun c11 => ?_⟩
  · exact j19 _ (⟨by (try clear hC hA hO hh); (try clear j19); (try clear j77); (try clear hk58); grind [XI, PI, PJ, BU, LV, LA_i, PL_add, q_zz, q_za, q_zga, q_fza, q_fx, q_fga, q_gza, q_gfa, q_gx, q_zf1, q_zg1, q_ff, q_fg1, q_gf1, q_gg, ti_link, in1000], by refine ⟨?_, ?_, ?_⟩ <;> ((try clear j19); (try clear j77); (try clear hk58); grind [CF_nc, AF_na, OH_no, AQ_o, CF_nf, CF_dec, CF_e0, CF_bin, CF_step, CF_num, CF_clk, CF_cell, CF_neg, CF_letter, CF_tick, CF_yield, CF_childP, CF_open2, CF_openv, CF_shut, ti_link])⟩)
  · refine fm_isName _ _ _ (fun S2 r2 hF12 pS2 => ?_) (sg_isName (nx := nx) (n := n) (so := so) (pl := pl) (wo := wo) (ws := ws) (by (try clear hC hA hO hh); (try clear j19); (try clear j77); (try clear hk58); grind [XI, PI, PJ, BU, LV, LA_i, PL_add, q_zz, q_za, q_zga, q_fza, q_fx, q_fga, q_gza, q_gfa, q_gx, q_zf1, q_zg1, q_ff, q_fg1, q_gf1, q_gg, ti_link, in1000]))
    have fS2 : S2.1 4 = 0 → S.1 4 = 0 := fun q => (hF12.1 4 (by decide)).symm.trans q
    have nS2 : NC S S2 := NC_fr hF12 (by decide) (by decide) fS2
    have mS2 : NA S S2 := NA_fr hF12 (by decide) (by decide) fS2
    have oS2 : NO nx S S2 := NO_fr hF12 (by decide) (by decide)
    have z3_S2 := hF12.1 3 (by decide)
    have z4_S2 := hF12.1 4 (by decide)
    have z6_S2 := hF12.1 6 (by decide)
    have z7_S2 := hF12.1 7 (by decide)
    have z8_S2 := hF12.1 8 (by decide)
    have z11_S2 := hF12.1 11 (by decide)
    have z12_S2 := hF12.1 12 (by decide)
    have z18_S2 := hF12.1 18 (by decide)
    have z19_S2 := hF12.1 19 (by decide)
    have f1_S2 := hF12.2.1 1 (by decide)
    have f1a_S2 := Fr_fa hF12 1 (by decide)
    have f2_S2 := hF12.2.1 2 (by decide)
    have f2a_S2 := Fr_fa hF12 2 (by decide)
    have f8_S2 := hF12.2.1 8 (by decide)
    have f8a_S2 := Fr_fa hF12 8 (by decide)
    have f46_S2 := hF12.2.1 46 (by decide)
    have f46a_S2 := Fr_fa hF12 46 (by decide)
    have f48_S2 := hF12.2.1 48 (by decide)
    have f48a_S2 := Fr_fa hF12 48 (by decide)
    have g3_S2 := hF12.2.2 3 (by decide)
    have g3a_S2 := Fr_ga hF12 3 (by decide)
    have g4_S2 := hF12.2.2 4 (by decide)
    have g4a_S2 := Fr_ga hF12 4 (by decide)
    clear hF12
    refine ⟨fun c13 => ?_, fun c13 => ?_⟩
    · exact j19 _ (⟨by (try clear hC hA hO hh nS2 mS2 oS2); (try clear j19); (try clear j77); (try clear hk58); grind [XI, PI, PJ, BU, LV, LA_i, PL_add, q_zz, q_za, q_zga, q_fza, q_fx, q_fga, q_gza, q_gfa, q_gx, q_zf1, q_zg1, q_ff, q_fg1, q_gf1, q_gg, ti_link, in1000], by refine ⟨?_, ?_, ?_⟩ <;> ((try clear j19); (try clear j77); (try clear hk58); grind [CF_nc, AF_na, OH_no, AQ_o, CF_nf, CF_dec, CF_e0, CF_bin, CF_step, CF_num, CF_clk, CF_cell, CF_neg, CF_letter, CF_tick, CF_yield, CF_childP, CF_open2, CF_openv, CF_shut, ti_link])⟩)
    · refine fm_wrong _ _ _ _ (fun S4 hF14 pS4 => ?_) (sg_wrong (nx := nx) (n := n) (so := so) (pl := pl) (wo := wo) (ws := ws) _ (by (try clear hC hA hO hh nS2 mS2 oS2); (try clear j19); (try clear j77); (try clear hk58); grind [XI, PI, PJ, BU, LV, LA_i, PL_add, q_zz, q_za, q_zga, q_fza, q_fx, q_fga, q_gza, q_gfa, q_gx, q_zf1, q_zg1, q_ff, q_fg1, q_gf1, q_gg, ti_link, in1000]) (by (try clear hC hA hO hh nS2 mS2 oS2); (try clear j19); (try clear j77); (try clear hk58); grind [XI, PI, PJ, BU, LV, LA_i, PL_add, q_zz, q_za, q_zga, q_fza, q_fx, q_fga, q_gza, q_gfa, q_gx, q_zf1, q_zg1, q_ff, q_fg1, q_gf1, q_gg, ti_link, in1000]))
      have fS4 : S4.1 4 = 0 → S2.1 4 = 0 := by (try clear hC hA hO hh nS2 mS2 oS2); (try clear j19); (try clear j77); (try clear hk58); grind [ti_link]
      have nS4 : NC S2 S4 := NC_fr hF14 (by decide) (by decide) fS4
      have mS4 : NA S2 S4 := NA_fr hF14 (by decide) (by decide) fS4
      have oS4 : NO nx S2 S4 := NO_fr hF14 (by decide) (by decide)
      have z3_S4 := hF14.1 3 (by decide)
      have z6_S4 := hF14.1 6 (by decide)
      have z7_S4 := hF14.1 7 (by decide)
      have z8_S4 := hF14.1 8 (by decide)
      have z11_S4 := hF14.1 11 (by decide)
      have z12_S4 := hF14.1 12 (by decide)
      have z18_S4 := hF14.1 18 (by decide)
      have z19_S4 := hF14.1 19 (by decide)
      have f1_S4 := hF14.2.1 1 (by decide)
      have f1a_S4 := Fr_fa hF14 1 (by decide)
      have f2_S4 := hF14.2.1 2 (by decide)
      have f2a_S4 := Fr_fa hF14 2 (by decide)
      have f8_S4 := hF14.2.1 8 (by decide)
      have f8a_S4 := Fr_fa hF14 8 (by decide)
      have f46_S4 := hF14.2.1 46 (by decide)
      have f46a_S4 := Fr_fa hF14 46 (by decide)
      have f48_S4 := hF14.2.1 48 (by decide)
      have f48a_S4 := Fr_fa hF14 48 (by decide)
      have g3_S4 := hF14.2.2 3 (by decide)
      have g3a_S4 := Fr_ga hF14 3 (by decide)
      have g4_S4 := hF14.2.2 4 (by decide)
      have g4a_S4 := Fr_ga hF14 4 (by decide)
      clear hF14
      exact j19 _ (⟨by (try clear hC hA hO hh nS2 mS2 oS2 nS4 mS4 oS4); (try clear j19); (try clear j77); (try clear hk58); grind [XI, PI, PJ, BU, LV, LA_i, PL_add, q_zz, q_za, q_zga, q_fza, q_fx, q_fga, q_gza, q_gfa, q_gx, q_zf1, q_zg1, q_ff, q_fg1, q_gf1, q_gg, ti_link, in1000], by refine ⟨?_, ?_, ?_⟩ <;> ((try clear j19); (try clear j77); (try clear hk58); grind [CF_nc, AF_na, OH_no, AQ_o, CF_nf, CF_dec, CF_e0, CF_bin, CF_step, CF_num, CF_clk, CF_cell, CF_neg, CF_letter, CF_tick, CF_yield, CF_childP, CF_open2, CF_openv, CF_shut, ti_link])⟩)
