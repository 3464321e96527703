
set_option maxHeartbeats 4000000 in
theorem sg_part {nx n : Nat} {so pl : Nat → Int32} {wo ws : Nat → Int64} {S0 : mS} {D d : Nat} {G GA X Y : Int} {kL : LT3} {kn kw kh ki kc ko km : Int} {kt : Int32} {r_part : mS → (mS → Prop) → Prop} (hf_part : FmV [3, 4, 7, 8, 18, 19] [8, 12, 13, 14, 15, 16, 17, 18, 19, 20, 21] [9] (r_part)) (hr_part : ∀ (d : Nat) (G GA X Y : Int) (kL : LT3) (kn kw kh ki kc ko km : Int) (kt : Int32) (S : mS), D ≤ d → LV d G GA X Y → XI nx n so pl wo ws S0 d G GA X Y S → (CF nx kL kn kw kh 0 ki kc ko kt S) → (AF nx km S) → (OH nx S0 S) → (0 ≤ kh) → r_part S (fun S1 => (XI nx n so pl wo ws S0 d (G - 1) GA X Y S1 ∧ ((S1.1 4) = 0 → (S.1 4) = 0 ∧ (S.1 3).toInt < (S1.1 3).toInt) ∧ (S.1 8).toInt ≤ (S1.1 8).toInt) ∧ (CF nx kL kn kw (kh + 1) 0 ki kc ko kt S1 ∧ CF nx kL kn kw (kh + 1) 0 ki (kc + 1) ko kt S1 ∧ AF nx km S1 ∧ OH nx S0 S1))) {S : mS} (hL : LV d G GA X Y) (h : XI nx n so pl wo ws S0 d G GA X Y S) (hD : D ≤ d + 1) (hC : CF nx kL kn kw kh 0 ki kc ko kt S) (hA : AF nx km S) (hO : OH nx S0 S) (hh : 0 ≤ kh) : wp_part r_part S (fun S1 => (XI nx n so pl wo ws S0 d (G - 1) GA X Y S1 ∧ ((S1.1 4) = 0 → (S.1 4) = 0 ∧ (S.1 3).toInt < (S1.1 3).toInt) ∧ (S.1 8).toInt ≤ (S1.1 8).toInt) ∧ (CF nx kL kn kw (kh + 1) 0 ki kc ko kt S1 ∧ CF nx kL kn kw (kh + 1) 0 ki (kc + 1) ko kt S1 ∧ AF nx km S1 ∧ OH nx S0 S1)) := by
  unfold wp_part
  have j60 : ∀ (y1 : Int32) (Sx : mS), (Sx = S ∧ (¬ y1 = 0 → (S.1 4) = 0 ∧ (S.1 3).toInt < n)) → wp_part_60 r_part (fun S1 => (XI nx n so pl wo ws S0 d (G - 1) GA X Y S1 ∧ ((S1.1 4) = 0 → (S.1 4) = 0 ∧ (S.1 3).toInt < (S1.1 3).toInt) ∧ (S.1 8).toInt ≤ (S1.1 8).toInt) ∧ (CF nx kL kn kw (kh + 1) 0 ki kc ko kt S1 ∧ CF nx kL kn kw (kh + 1) 0 ki (kc + 1) ko kt S1 ∧ AF nx km S1 ∧ OH nx S0 S1)) y1 Sx := by
    intro y1 Sx hJ60
    unfold wp_part_60
    refine fm_within _ _ _ _ (fun S12 hF1 pS12 => ?_) (sg_within (nx := nx) (n := n) (so := so) (pl := pl) (wo := wo) (ws := ws) _ (by (try clear hC hA hO hh); (try clear j60); (try clear hr_part); (try clear hf_part); grind [XI, PI, PJ, BU, LV, LA_i, TK, LG, ix_int, q_zz, q_za, q_zga, q_fza, q_fx, q_fga, q_gza, q_gfa, q_gx, q_zf1, q_zg1, q_ff, q_fg1, q_gf1, q_gg, ti_link, in4002]) (by (try clear hC hA hO hh); (try clear j60); (try clear hr_part); (try clear hf_part); grind [XI, PI, PJ, BU, LV, LA_i, TK, LG, ix_int, q_zz, q_za, q_zga, q_fza, q_fx, q_fga, q_gza, q_gfa, q_gx, q_zf1, q_zg1, q_ff, q_fg1, q_gf1, q_gg, ti_link, in4002]))
    have fS12 : S12.1 4 = 0 → Sx.1 4 = 0 := by (try clear hC hA hO hh); (try clear j60); (try clear hr_part); (try clear hf_part); grind [ti_link]
    have nS12 : NC Sx S12 := NC_fr hF1 (by decide) (by decide) fS12
    have mS12 : NA Sx S12 := NA_fr hF1 (by decide) (by decide) fS12
    have oS12 : NO nx Sx S12 := NO_fr hF1 (by decide) (by decide)
    have z3_S12 := hF1.1 3 (by decide)
    have z6_S12 := hF1.1 6 (by decide)
    have z7_S12 := hF1.1 7 (by decide)
    have z8_S12 := hF1.1 8 (by decide)
    have z11_S12 := hF1.1 11 (by decide)
    have z12_S12 := hF1.1 12 (by decide)
    have z19_S12 := hF1.1 19 (by decide)
    have f1_S12 := hF1.2.1 1 (by decide)
    have f1a_S12 := Fr_fa hF1 1 (by decide)
    have f2_S12 := hF1.2.1 2 (by decide)
    have f2a_S12 := Fr_fa hF1 2 (by decide)
    have f8_S12 := hF1.2.1 8 (by decide)
    have f8a_S12 := Fr_fa hF1 8 (by decide)
    have f46_S12 := hF1.2.1 46 (by decide)
    have f46a_S12 := Fr_fa hF1 46 (by decide)
    have f48_S12 := hF1.2.1 48 (by decide)
    have f48a_S12 := Fr_fa hF1 48 (by decide)
    have g3_S12 := hF1.2.2 3 (by decide)
    have g3a_S12 := Fr_ga hF1 3 (by decide)
    have g4_S12 := hF1.2.2 4 (by decide)
    have g4a_S12 := Fr_ga hF1 4 (by decide)
    clear hF1
    refine ⟨fun c2 => ?_, fun c2 => ?_⟩
    · unfold wp_part_74
      intro z15 ez15
      intro S16 eS16
      have nS16 : NC S12 S16 := NC_z eS16 (by decide)
      have mS16 : NA S12 S16 := NA_z eS16 (by decide)
      have oS16 : NO nx S12 S16 := NO_z eS16
      exact ⟨by (try clear hC hA hO hh nS12 mS12 oS12 nS16 mS16 oS16); (try clear j60); (try clear hr_part); (try clear hf_part); grind [XI, PI, PJ, BU, LV, LA_i, TK, LG, ix_int, q_zz, q_za, q_zga, q_fza, q_fx, q_fga, q_gza, q_gfa, q_gx, q_zf1, q_zg1, q_ff, q_fg1, q_gf1, q_gg, ti_link, in4002], by refine ⟨?_, ?_, ?_, ?_⟩ <;> ((try clear j60); (try clear hr_part); (try clear hf_part); grind [CF_nc, AF_na, OH_no, AQ_o, CF_nf, CF_dec, CF_e0, CF_bin, CF_step, CF_num, CF_clk, CF_cell, CF_neg, ti_link])⟩
    · refine fm_partWithin hf_part _ _ _ (fun S14 hF3 pS14 => ?_) (sg_partWithin hf_part hr_part (nx := nx) (n := n) (so := so) (pl := pl) (wo := wo) (ws := ws) (S0 := S0) (d := (d + 1)) (G := G) (GA := GA) (X := (1000 - 40 * (d + 1))) (Y := (400 - 20 * (d + 1))) (kL := kL) (kn := kn) (kw := kw) (kh := kh) (ki := ki) (kc := kc) (ko := ko) (km := km) (kt := kt) (D := D) (by (try clear hC hA hO hh nS12 mS12 oS12); (try clear j60); (try clear hr_part); (try clear hf_part); grind [XI, PI, PJ, BU, LV, LA_i, TK, LG, ix_int, q_zz, q_za, q_zga, q_fza, q_fx, q_fga, q_gza, q_gfa, q_gx, q_zf1, q_zg1, q_ff, q_fg1, q_gf1, q_gg, ti_link, in4002]) (by (try clear hC hA hO hh nS12 mS12 oS12); (try clear j60); (try clear hr_part); (try clear hf_part); grind [XI, PI, PJ, BU, LV, LA_i, TK, LG, ix_int, q_zz, q_za, q_zga, q_fza, q_fx, q_fga, q_gza, q_gfa, q_gx, q_zf1, q_zg1, q_ff, q_fg1, q_gf1, q_gg, ti_link, in4002]) (by (try clear hC hA hO hh nS12 mS12 oS12); (try clear j60); (try clear hr_part); (try clear hf_part); grind [XI, PI, PJ, BU, LV, LA_i, TK, LG, ix_int, q_zz, q_za, q_zga, q_fza, q_fx, q_fga, q_gza, q_gfa, q_gx, q_zf1, q_zg1, q_ff, q_fg1, q_gf1, q_gg, ti_link, in4002]) (by (try clear hC hA hO hh nS12 mS12 oS12); (try clear j60); (try clear hr_part); (try clear hf_part); grind [XI, PI, PJ, BU, LV, LA_i, TK, LG, ix_int, q_zz, q_za, q_zga, q_fza, q_fx, q_fga, q_gza, q_gfa, q_gx, q_zf1, q_zg1, q_ff, q_fg1, q_gf1, q_gg, ti_link, in4002]) (by (try clear j60); (try clear hr_part); (try clear hf_part); grind [CF_nc, AF_na, OH_no, AQ_o, CF_nf, CF_dec, CF_e0, CF_bin, CF_step, CF_num, CF_clk, CF_cell, CF_neg, ti_link]) (by (try clear j60); (try clear hr_part); (try clear hf_part); grind [CF_nc, AF_na, OH_no, AQ_o, CF_nf, CF_dec, CF_e0, CF_bin, CF_step, CF_num, CF_clk, CF_cell, CF_neg, ti_link]) (by (try clear j60); (try clear hr_part); (try clear hf_part); grind [CF_nc, AF_na, OH_no, AQ_o, CF_nf, CF_dec, CF_e0, CF_bin, CF_step, CF_num, CF_clk, CF_cell, CF_neg, ti_link]) (by (try clear j60); (try clear hr_part); (try clear hf_part); grind [CF_nc, AF_na, OH_no, AQ_o, CF_nf, CF_dec, CF_e0, CF_bin, CF_step, CF_num, CF_clk, CF_cell, CF_neg, ti_link]))
      obtain ⟨pS14, qS14⟩ := pS14
      have z6_S14 := hF3.1 6 (by decide)
      have z11_S14 := hF3.1 11 (by decide)
      have z12_S14 := hF3.1 12 (by decide)
      have f1_S14 := hF3.2.1 1 (by decide)
      have f1a_S14 := Fr_fa hF3 1 (by decide)
      have f2_S14 := hF3.2.1 2 (by decide)
      have f2a_S14 := Fr_fa hF3 2 (by decide)
      have f46_S14 := hF3.2.1 46 (by decide)
      have f46a_S14 := Fr_fa hF3 46 (by decide)
      have f48_S14 := hF3.2.1 48 (by decide)
      have f48a_S14 := Fr_fa hF3 48 (by decide)
      have g3_S14 := hF3.2.2 3 (by decide)
      have g3a_S14 := Fr_ga hF3 3 (by decide)
      have g4_S14 := hF3.2.2 4 (by decide)
      have g4a_S14 := Fr_ga hF3 4 (by decide)
      clear hF3
      unfold wp_part_74
      intro z15 ez15
      intro S16 eS16
      have nS16 : NC S14 S16 := NC_z eS16 (by decide)
      have mS16 : NA S14 S16 := NA_z eS16 (by decide)
      have oS16 : NO nx S14 S16 := NO_z eS16
      exact ⟨by (try clear hC hA hO hh nS12 mS12 oS12 qS14 nS16 mS16 oS16); (try clear j60); (try clear hr_part); (try clear hf_part); grind [XI, PI, PJ, BU, LV, LA_i, TK, LG, ix_int, q_zz, q_za, q_zga, q_fza, q_fx, q_fga, q_gza, q_gfa, q_gx, q_zf1, q_zg1, q_ff, q_fg1, q_gf1, q_gg, ti_link, in4002], by refine ⟨?_, ?_, ?_, ?_⟩ <;> ((try clear j60); (try clear hr_part); (try clear hf_part); grind [CF_nc, AF_na, OH_no, AQ_o, CF_nf, CF_dec, CF_e0, CF_bin, CF_step, CF_num, CF_clk, CF_cell, CF_neg, ti_link])⟩
  refine ⟨fun c4 => ?_, fun c4 => ?_⟩
  · unfold wp_part_59
    exact j60 _ _ (by (try clear hC hA hO hh); (try clear j60); (try clear hr_part); (try clear hf_part); grind [XI, PI, PJ, BU, LV, LA_i, TK, LG, ix_int, q_zz, q_za, q_zga, q_fza, q_fx, q_fga, q_gza, q_gfa, q_gx, q_zf1, q_zg1, q_ff, q_fg1, q_gf1, q_gg, ti_link, in4002])
  · refine ⟨by (try clear hC hA hO hh); (try clear j60); (try clear hr_part); (try clear hf_part); grind [XI, PI, PJ, BU, LV, LA_i, TK, LG, ix_int, q_zz, q_za, q_zga, q_fza, q_fx, q_fga, q_gza, q_gfa, q_gx, q_zf1, q_zg1, q_ff, q_fg1, q_gf1, q_gg, ti_link, in4002], ?_⟩
    intro z2 ez2
    refine ⟨fun c5 => ?_, fun c5 => ?_⟩
    · unfold wp_part_55
      exact j60 _ _ (by (try clear hC hA hO hh); (try clear j60); (try clear hr_part); (try clear hf_part); grind [XI, PI, PJ, BU, LV, LA_i, TK, LG, ix_int, q_zz, q_za, q_zga, q_fza, q_fx, q_fga, q_gza, q_gfa, q_gx, q_zf1, q_zg1, q_ff, q_fg1, q_gf1, q_gg, ti_link, in4002])
    · refine fm_isSign _ _ _ _ (fun S4 r4 hF6 pS4 => ?_) (sg_isSign (nx := nx) (n := n) (so := so) (pl := pl) (wo := wo) (ws := ws) _ (by (try clear hC hA hO hh); (try clear j60); (try clear hr_part); (try clear hf_part); grind [XI, PI, PJ, BU, LV, LA_i, TK, LG, ix_int, q_zz, q_za, q_zga, q_fza, q_fx, q_fga, q_gza, q_gfa, q_gx, q_zf1, q_zg1, q_ff, q_fg1, q_gf1, q_gg, ti_link, in4002]))
      have fS4 : S4.1 4 = 0 → S.1 4 = 0 := fun q => (hF6.1 4 (by decide)).symm.trans q
      have nS4 : NC S S4 := NC_fr hF6 (by decide) (by decide) fS4
      have mS4 : NA S S4 := NA_fr hF6 (by decide) (by decide) fS4
      have oS4 : NO nx S S4 := NO_fr hF6 (by decide) (by decide)
      have z3_S4 := hF6.1 3 (by decide)
      have z4_S4 := hF6.1 4 (by decide)
      have z6_S4 := hF6.1 6 (by decide)
      have z7_S4 := hF6.1 7 (by decide)
      have z8_S4 := hF6.1 8 (by decide)
      have z11_S4 := hF6.1 11 (by decide)
      have z12_S4 := hF6.1 12 (by decide)
      have z18_S4 := hF6.1 18 (by decide)
      have z19_S4 := hF6.1 19 (by decide)
      have f1_S4 := hF6.2.1 1 (by decide)
      have f1a_S4 := Fr_fa hF6 1 (by decide)
      have f2_S4 := hF6.2.1 2 (by decide)
      have f2a_S4 := Fr_fa hF6 2 (by decide)
      have f8_S4 := hF6.2.1 8 (by decide)
      have f8a_S4 := Fr_fa hF6 8 (by decide)
      have f46_S4 := hF6.2.1 46 (by decide)
      have f46a_S4 := Fr_fa hF6 46 (by decide)
      have f48_S4 := hF6.2.1 48 (by decide)
      have f48a_S4 := Fr_fa hF6 48 (by decide)
      have g3_S4 := hF6.2.2 3 (by decide)
      have g3a_S4 := Fr_ga hF6 3 (by decide)
      have g4_S4 := hF6.2.2 4 (by decide)
      have g4a_S4 := Fr_ga hF6 4 (by decide)
      clear hF6
      refine ⟨fun c7 => ?_, fun c7 => ?_⟩
      · unfold wp_part_55
        exact j60 _ _ (by (try clear hC hA hO hh nS4 mS4 oS4); (try clear j60); (try clear hr_part); (try clear hf_part); grind [XI, PI, PJ, BU, LV, LA_i, TK, LG, ix_int, q_zz, q_za, q_zga, q_fza, q_fx, q_fga, q_gza, q_gfa, q_gx, q_zf1, q_zg1, q_ff, q_fg1, q_gf1, q_gg, ti_link, in4002])
      · refine fm_isSign _ _ _ _ (fun S6 r6 hF8 pS6 => ?_) (sg_isSign (nx := nx) (n := n) (so := so) (pl := pl) (wo := wo) (ws := ws) _ (by (try clear hC hA hO hh nS4 mS4 oS4); (try clear j60); (try clear hr_part); (try clear hf_part); grind [XI, PI, PJ, BU, LV, LA_i, TK, LG, ix_int, q_zz, q_za, q_zga, q_fza, q_fx, q_fga, q_gza, q_gfa, q_gx, q_zf1, q_zg1, q_ff, q_fg1, q_gf1, q_gg, ti_link, in4002]))
        have fS6 : S6.1 4 = 0 → S4.1 4 = 0 := fun q => (hF8.1 4 (by decide)).symm.trans q
        have nS6 : NC S4 S6 := NC_fr hF8 (by decide) (by decide) fS6
        have mS6 : NA S4 S6 := NA_fr hF8 (by decide) (by decide) fS6
        have oS6 : NO nx S4 S6 := NO_fr hF8 (by decide) (by decide)
        have z3_S6 := hF8.1 3 (by decide)
        have z4_S6 := hF8.1 4 (by decide)
        have z6_S6 := hF8.1 6 (by decide)
        have z7_S6 := hF8.1 7 (by decide)
        have z8_S6 := hF8.1 8 (by decide)
        have z11_S6 := hF8.1 11 (by decide)
        have z12_S6 := hF8.1 12 (by decide)
        have z18_S6 := hF8.1 18 (by decide)
        have z19_S6 := hF8.1 19 (by decide)
        have f1_S6 := hF8.2.1 1 (by decide)
        have f1a_S6 := Fr_fa hF8 1 (by decide)
        have f2_S6 := hF8.2.1 2 (by decide)
        have f2a_S6 := Fr_fa hF8 2 (by decide)
        have f8_S6 := hF8.2.1 8 (by decide)
        have f8a_S6 := Fr_fa hF8 8 (by decide)
        have f46_S6 := hF8.2.1 46 (by decide)
        have f46a_S6 := Fr_fa hF8 46 (by decide)
        have f48_S6 := hF8.2.1 48 (by decide)
        have f48a_S6 := Fr_fa hF8 48 (by decide)
        have g3_S6 := hF8.2.2 3 (by decide)
        have g3a_S6 := Fr_ga hF8 3 (by decide)
        have g4_S6 := hF8.2.2 4 (by decide)
        have g4a_S6 := Fr_ga hF8 4 (by decide)
        clear hF8
        refine ⟨fun c9 => ?_, fun c9 => ?_⟩
        · unfold wp_part_55
          exact j60 _ _ (by (try clear hC hA hO hh nS4 mS4 oS4 nS6 mS6 oS6); (try clear j60); (try clear hr_part); (try clear hf_part); grind [XI, PI, PJ, BU, LV, LA_i, TK, LG, ix_int, q_zz, q_za, q_zga, q_fza, q_fx, q_fga, q_gza, q_gfa, q_gx, q_zf1, q_zg1, q_ff, q_fg1, q_gf1, q_gg, ti_link, in4002])
        · refine fm_isWord _ _ _ _ (fun S8 r8 hF10 pS8 => ?_) (sg_isWord (nx := nx) (n := n) (so := so) (pl := pl) (wo := wo) (ws := ws) _ (by (try clear hC hA hO hh nS4 mS4 oS4 nS6 mS6 oS6); (try clear j60); (try clear hr_part); (try clear hf_part); grind [XI, PI, PJ, BU, LV, LA_i, TK, LG, ix_int, q_zz, q_za, q_zga, q_fza, q_fx, q_fga, q_gza, q_gfa, q_gx, q_zf1, q_zg1, q_ff, q_fg1, q_gf1, q_gg, ti_link, in4002]) (by (try clear hC hA hO hh nS4 mS4 oS4 nS6 mS6 oS6); (try clear j60); (try clear hr_part); (try clear hf_part); grind [XI, PI, PJ, BU, LV, LA_i, TK, LG, ix_int, q_zz, q_za, q_zga, q_fza, q_fx, q_fga, q_gza, q_gfa, q_gx, q_zf1, q_zg1, q_ff, q_fg1, q_gf1, q_gg, ti_link, in4002]))
          have fS8 : S8.1 4 = 0 → S6.1 4 = 0 := fun q => (hF10.1 4 (by decide)).symm.trans q
          have nS8 : NC S6 S8 := NC_fr hF10 (by decide) (by decide) fS8
          have mS8 : NA S6 S8 := NA_fr hF10 (by decide) (by decide) fS8
          have oS8 : NO nx S6 S8 := NO_fr hF10 (by decide) (by decide)
          have z3_S8 := hF10.1 3 (by decide)
          have z4_S8 := hF10.1 4 (by decide)
          have z6_S8 := hF10.1 6 (by decide)
          have z7_S8 := hF10.1 7 (by decide)
          have z8_S8 := hF10.1 8 (by decide)
          have z11_S8 := hF10.1 11 (by decide)
          have z12_S8 := hF10.1 12 (by decide)
          have z18_S8 := hF10.1 18 (by decide)
          have z19_S8 := hF10.1 19 (by decide)
          have f1_S8 := hF10.2.1 1 (by decide)
          have f1a_S8 := Fr_fa hF10 1 (by decide)
          have f2_S8 := hF10.2.1 2 (by decide)
          have f2a_S8 := Fr_fa hF10 2 (by decide)
          have f8_S8 := hF10.2.1 8 (by decide)
          have f8a_S8 := Fr_fa hF10 8 (by decide)
          have f46_S8 := hF10.2.1 46 (by decide)
          have f46a_S8 := Fr_fa hF10 46 (by decide)
          have f48_S8 := hF10.2.1 48 (by decide)
          have f48a_S8 := Fr_fa hF10 48 (by decide)
          have g3_S8 := hF10.2.2 3 (by decide)
          have g3a_S8 := Fr_ga hF10 3 (by decide)
          have g4_S8 := hF10.2.2 4 (by decide)
          have g4a_S8 := Fr_ga hF10 4 (by decide)
          clear hF10
          refine ⟨fun c11 => ?_, fun c11 => ?_⟩
          · unfold wp_part_55
            exact j60 _ _ (by (try clear hC hA hO hh nS4 mS4 oS4 nS6 mS6 oS6 nS8 mS8 oS8); (try clear j60); (try clear hr_part); (try clear hf_part); grind [XI, PI, PJ, BU, LV, LA_i, TK, LG, ix_int, q_zz, q_za, q_zga, q_fza, q_fx, q_fga, q_gza, q_gfa, q_gx, q_zf1, q_zg1, q_ff, q_fg1, q_gf1, q_gg, ti_link, in4002])
          · refine fm_isName _ _ _ (fun S10 r10 hF12 pS10 => ?_) (sg_isName (nx := nx) (n := n) (so := so) (pl := pl) (wo := wo) (ws := ws) (by (try clear hC hA hO hh nS4 mS4 oS4 nS6 mS6 oS6 nS8 mS8 oS8); (try clear j60); (try clear hr_part); (try clear hf_part); grind [XI, PI, PJ, BU, LV, LA_i, TK, LG, ix_int, q_zz, q_za, q_zga, q_fza, q_fx, q_fga, q_gza, q_gfa, q_gx, q_zf1, q_zg1, q_ff, q_fg1, q_gf1, q_gg, ti_link, in4002]))
            have fS10 : S10.1 4 = 0 → S8.1 4 = 0 := fun q => (hF12.1 4 (by decide)).symm.trans q
            have nS10 : NC S8 S10 := NC_fr hF12 (by decide) (by decide) fS10
            have mS10 : NA S8 S10 := NA_fr hF12 (by decide) (by decide) fS10
            have oS10 : NO nx S8 S10 := NO_fr hF12 (by decide) (by decide)
            have z3_S10 := hF12.1 3 (by decide)
            have z4_S10 := hF12.1 4 (by decide)
            have z6_S10 := hF12.1 6 (by decide)
            have z7_S10 := hF12.1 7 (by decide)
            have z8_S10 := hF12.1 8 (by decide)
            have z11_S10 := hF12.1 11 (by decide)
            have z12_S10 := hF12.1 12 (by decide)
            have z18_S10 := hF12.1 18 (by decide)
            have z19_S10 := hF12.1 19 (by decide)
            have f1_S10 := hF12.2.1 1 (by decide)
            have f1a_S10 := Fr_fa hF12 1 (by decide)
            have f2_S10 := hF12.2.1 2 (by decide)
            have f2a_S10 := Fr_fa hF12 2 (by decide)
            have f8_S10 := hF12.2.1 8 (by decide)
            have f8a_S10 := Fr_fa hF12 8 (by decide)
            have f46_S10 := hF12.2.1 46 (by decide)
            have f46a_S10 := Fr_fa hF12 46 (by decide)
            have f48_S10 := hF12.2.1 48 (by decide)
            have f48a_S10 := Fr_fa hF12 48 (by decide)
            have g3_S10 := hF12.2.2 3 (by decide)
            have g3a_S10 := Fr_ga hF12 3 (by decide)
            have g4_S10 := hF12.2.2 4 (by decide)
            have g4a_S10 := Fr_ga hF12 4 (by decide)
            clear hF12
            refine ⟨fun c13 => ?_, fun c13 => ?_⟩
            · unfold wp_part_59
              exact j60 _ _ (by (try clear hC hA hO hh nS4 mS4 oS4 nS6 mS6 oS6 nS8 mS8 oS8 nS10 mS10 oS10); (try clear j60); (try clear hr_part); (try clear hf_part); grind [XI, PI, PJ, BU, LV, LA_i, TK, LG, ix_int, q_zz, q_za, q_zga, q_fza, q_fx, q_fga, q_gza, q_gfa, q_gx, q_zf1, q_zg1, q_ff, q_fg1, q_gf1, q_gg, ti_link, in4002])
            · unfold wp_part_55
              exact j60 _ _ (by (try clear hC hA hO hh nS4 mS4 oS4 nS6 mS6 oS6 nS8 mS8 oS8 nS10 mS10 oS10); (try clear j60); (try clear hr_part); (try clear hf_part); grind [XI, PI, PJ, BU, LV, LA_i, TK, LG, ix_int, q_zz, q_za, q_zga, q_fza, q_fx, q_fga, q_gza, q_gfa, q_gx, q_zf1, q_zg1, q_ff, q_fg1, q_gf1, q_gg, ti_link, in4002])
