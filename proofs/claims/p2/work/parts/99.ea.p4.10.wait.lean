
set_option maxHeartbeats 4000000 in
theorem sg_wait {nx n : Nat} {so pl : Nat → Int32} {wo ws : Nat → Int64} {S0 : mS} {d : Nat} {G GA X Y : Int} {kL : LT3} {kn kw : Int} {kt : Int32} (a0 : Int32) {S : mS} (hL : LV d G GA X Y) (h : XI nx n so pl wo ws S0 d G GA X Y S) (hw : ((S.1 4) = 0 → 0 ≤ ((S.2.1 10) (ix (S.1 12))).toInt ∧ ((S.2.1 10) (ix (S.1 12))).toInt ≤ 16)) (hn : (S.1 4) = 0 → (S.1 3).toInt < n) (hX : X ≤ 2000 ∧ Y ≤ 1000) (hce : (S.1 4) = 0 → -1 ≤ a0.toInt ∧ a0.toInt < 12) (hC : CS nx kL kn kw kt S) (hA : AF nx ((S.2.1 10) (ix (S.1 12))).toInt S) (hO : OH nx S0 S) : wp_wait a0 S (fun S1 => (XI nx n so pl wo ws S0 d G GA (X + 4) (Y + 2) S1 ∧ ((S1.1 4) = 0 → (S.1 4) = 0 ∧ (S.1 3).toInt < (S1.1 3).toInt) ∧ (S.1 8).toInt ≤ (S1.1 8).toInt ∧ ((S1.1 4) = 0 → 0 ≤ ((S1.2.1 10) (ix (S1.1 12))).toInt ∧ ((S1.2.1 10) (ix (S1.1 12))).toInt ≤ 16)) ∧ (CS nx kL kn kw kt S1 ∧ AF nx ((S1.2.1 10) (ix (S1.1 12))).toInt S1 ∧ OH nx S0 S1)) := by
  unfold wp_wait
  have j124 : ∀ (x1 : Int32) (Sx : mS), (XI nx n so pl wo ws S0 d G (GA - 1) (X + 4) (Y + 1) Sx ∧ ((Sx.1 4) = 0 → (S.1 4) = 0 ∧ (S.1 3).toInt < (Sx.1 3).toInt) ∧ (S.1 8).toInt ≤ (Sx.1 8).toInt ∧ ((Sx.1 4) = 0 → 0 ≤ ((Sx.2.1 10) (ix (Sx.1 12))).toInt ∧ ((Sx.2.1 10) (ix (Sx.1 12))).toInt ≤ 16)) ∧ (CS nx kL kn kw kt Sx ∧ AF nx ((Sx.2.1 10) (ix (Sx.1 12))).toInt Sx ∧ OH nx S0 Sx) → wp_wait_124 (fun S1 => (XI nx n so pl wo ws S0 d G GA (X + 4) (Y + 2) S1 ∧ ((S1.1 4) = 0 → (S.1 4) = 0 ∧ (S.1 3).toInt < (S1.1 3).toInt) ∧ (S.1 8).toInt ≤ (S1.1 8).toInt ∧ ((S1.1 4) = 0 → 0 ≤ ((S1.2.1 10) (ix (S1.1 12))).toInt ∧ ((S1.2.1 10) (ix (S1.1 12))).toInt ≤ 16)) ∧ (CS nx kL kn kw kt S1 ∧ AF nx ((S1.2.1 10) (ix (S1.1 12))).toInt S1 ∧ OH nx S0 S1)) x1 Sx := by
    intro x1 Sx hJ124
    unfold wp_wait_124
    obtain ⟨hJ124, iJ124⟩ := hJ124
    refine ⟨fun c1 => ?_, fun c1 => ?_⟩
    · exact ⟨by (try clear hC hA hO iJ124); (try clear j19); (try clear j124); grind [XI, PI, PJ, BU, LV, LA_i, q_zz, q_za, q_zga, q_fza, q_fx, q_fga, q_gza, q_gfa, q_gx, q_zf1, q_zg1, q_ff, q_fg1, q_gf1, q_gg, ti_link, in24, in24000, in408], by refine ⟨?_, ?_, ?_⟩ <;> ((try clear j19); (try clear j124); grind (ematch := 12) (gen := 12) (splits := 15) [→ CF_nc, → CS_nc, → AF_na, → OH_no, → CS_step, → CS_CF, AF_nf, AQ_o, CS_nf, ti_link])⟩
    · refine fm_then _ _ _ _ _ (fun S21 r21 hF2 pS21 => ?_) (sg_then (nx := nx) _ _ (by (try clear hC hA hO iJ124); (try clear j19); (try clear j124); grind [XI, PI, PJ, BU, LV, LA_i, q_zz, q_za, q_zga, q_fza, q_fx, q_fga, q_gza, q_gfa, q_gx, q_zf1, q_zg1, q_ff, q_fg1, q_gf1, q_gg, ti_link, in24, in24000, in408]))
      obtain ⟨pS21, qS21⟩ := pS21
      have fS21 : S21.1 4 = 0 → Sx.1 4 = 0 := fun q => (hF2.1 4 (by decide)).symm.trans q
      have nS21 : NC Sx S21 := NC_fr hF2 (by decide) (by decide) fS21
      have z3_S21 := hF2.1 3 (by decide)
      have z4_S21 := hF2.1 4 (by decide)
      have z6_S21 := hF2.1 6 (by decide)
      have z7_S21 := hF2.1 7 (by decide)
      have z11_S21 := hF2.1 11 (by decide)
      have z12_S21 := hF2.1 12 (by decide)
      have z18_S21 := hF2.1 18 (by decide)
      have f1_S21 := hF2.2.1 1 (by decide)
      have f1a_S21 := Fr_fa hF2 1 (by decide)
      have f2_S21 := hF2.2.1 2 (by decide)
      have f2a_S21 := Fr_fa hF2 2 (by decide)
      have f8_S21 := hF2.2.1 8 (by decide)
      have f8a_S21 := Fr_fa hF2 8 (by decide)
      have f46_S21 := hF2.2.1 46 (by decide)
      have f46a_S21 := Fr_fa hF2 46 (by decide)
      have f48_S21 := hF2.2.1 48 (by decide)
      have f48a_S21 := Fr_fa hF2 48 (by decide)
      have f10_S21 := hF2.2.1 10 (by decide)
      have f10a_S21 := Fr_fa hF2 10 (by decide)
      have g3_S21 := hF2.2.2 3 (by decide)
      have g3a_S21 := Fr_ga hF2 3 (by decide)
      have g4_S21 := hF2.2.2 4 (by decide)
      have g4a_S21 := Fr_ga hF2 4 (by decide)
      clear hF2
      exact ⟨by (try clear hC hA hO iJ124 qS21 nS21); (try clear j19); (try clear j124); grind [XI, PI, PJ, BU, LV, LA_i, q_zz, q_za, q_zga, q_fza, q_fx, q_fga, q_gza, q_gfa, q_gx, q_zf1, q_zg1, q_ff, q_fg1, q_gf1, q_gg, ti_link, in24, in24000, in408], by refine ⟨?_, ?_, ?_⟩ <;> ((try clear j19); (try clear j124); grind (ematch := 12) (gen := 12) (splits := 15) [→ CF_nc, → CS_nc, → AF_na, → OH_no, → CS_step, → CS_CF, AF_nf, AQ_o, CS_nf, ti_link])⟩
  have j19 : ∀ (x1 : Int32) (Sx : mS), (XI nx n so pl wo ws S0 d G GA X Y Sx ∧ ((Sx.1 4) = 0 → 0 ≤ ((Sx.2.1 10) (ix (Sx.1 12))).toInt ∧ ((Sx.2.1 10) (ix (Sx.1 12))).toInt ≤ 16) ∧ (S.1 8).toInt ≤ (Sx.1 8).toInt ∧ (Sx.1 12) = (S.1 12) ∧ (Sx.1 3) = (S.1 3) ∧ x1 = a0 ∧ ((Sx.1 4) = 0 → (S.1 4) = 0 ∧ (S.1 3).toInt < n ∧ ((Sx.2.1 10) (ix (Sx.1 12))).toInt < 16)) ∧ (CS nx kL kn kw kt Sx ∧ AF nx ((Sx.2.1 10) (ix (Sx.1 12))).toInt Sx ∧ OH nx S0 Sx) → wp_wait_19 (fun S1 => (XI nx n so pl wo ws S0 d G GA (X + 4) (Y + 2) S1 ∧ ((S1.1 4) = 0 → (S.1 4) = 0 ∧ (S.1 3).toInt < (S1.1 3).toInt) ∧ (S.1 8).toInt ≤ (S1.1 8).toInt ∧ ((S1.1 4) = 0 → 0 ≤ ((S1.2.1 10) (ix (S1.1 12))).toInt ∧ ((S1.2.1 10) (ix (S1.1 12))).toInt ≤ 16)) ∧ (CS nx kL kn kw kt S1 ∧ AF nx ((S1.2.1 10) (ix (S1.1 12))).toInt S1 ∧ OH nx S0 S1)) x1 Sx := by
    intro x1 Sx hJ19
    unfold wp_wait_19
    obtain ⟨hJ19, iJ19⟩ := hJ19
    intro z4 ez4
    intro S5 eS5
    have nS5 : NC Sx S5 := NC_z eS5 (by decide)
    have mS5 : NA Sx S5 := NA_z eS5 (by decide)
    have oS5 : NO nx Sx S5 := NO_z eS5
    refine ⟨by (try clear hC hA hO iJ19 nS5 mS5 oS5); (try clear j19); (try clear j124); grind [XI, PI, PJ, BU, LV, LA_i, q_zz, q_za, q_zga, q_fza, q_fx, q_fga, q_gza, q_gfa, q_gx, q_zf1, q_zg1, q_ff, q_fg1, q_gf1, q_gg, ti_link, in24, in24000, in408], ?_⟩
    intro z6 ez6
    refine ⟨by (try clear hC hA hO iJ19 nS5 mS5 oS5); (try clear j19); (try clear j124); grind [XI, PI, PJ, BU, LV, LA_i, q_zz, q_za, q_zga, q_fza, q_fx, q_fga, q_gza, q_gfa, q_gx, q_zf1, q_zg1, q_ff, q_fg1, q_gf1, q_gg, ti_link, in24, in24000, in408], ?_⟩
    intro z7 ez7
    intro z8 ez8
    refine ⟨by (try clear hC hA hO iJ19 nS5 mS5 oS5); (try clear j19); (try clear j124); grind [XI, PI, PJ, BU, LV, LA_i, q_zz, q_za, q_zga, q_fza, q_fx, q_fga, q_gza, q_gfa, q_gx, q_zf1, q_zg1, q_ff, q_fg1, q_gf1, q_gg, ti_link, in24, in24000, in408], ?_⟩
    intro S9 eS9
    have nS9 : NC S5 S9 := NC_f eS9 (by decide)
    have oS9 : NO nx S5 S9 := NO_f eS9 (nH_r (by decide) (by (try clear hC hA hO iJ19 nS5 mS5 oS5 nS9); (try clear j19); (try clear j124); grind [XI, PI, PJ, BU, LV, LA_i, q_zz, q_za, q_zga, q_fza, q_fx, q_fga, q_gza, q_gfa, q_gx, q_zf1, q_zg1, q_ff, q_fg1, q_gf1, q_gg, ti_link, in24, in24000, in408]))
    have aS9 : AF nx z6.toInt S9 := by
          have e1 : z6 = Sx.2.1 10 (ix (Sx.1 12)) := by rw [ez6, eS5]; rfl
          exact AF_w10 eS9 (by unfold ix; omega) (AF_na mS5 (by rw [e1]; exact iJ19.2.1))
    refine fm_emit _ _ _ _ _ _ (fun S10 r10 hF3 pS10 => ?_) (sg_emit (nx := nx) _ _ _ (by (try clear hC hA hO iJ19 nS5 mS5 oS5 nS9 oS9 aS9); (try clear j19); (try clear j124); grind [XI, PI, PJ, BU, LV, LA_i, q_zz, q_za, q_zga, q_fza, q_fx, q_fga, q_gza, q_gfa, q_gx, q_zf1, q_zg1, q_ff, q_fg1, q_gf1, q_gg, ti_link, in24, in24000, in408]))
    obtain ⟨pS10, qS10⟩ := pS10
    have fS10 : S10.1 4 = 0 → S9.1 4 = 0 := fun q => (hF3.1 4 (by decide)).symm.trans q
    have mS10 : NA S9 S10 := NA_fr hF3 (by decide) (by decide) fS10
    have z3_S10 := hF3.1 3 (by decide)
    have z4_S10 := hF3.1 4 (by decide)
    have z6_S10 := hF3.1 6 (by decide)
    have z8_S10 := hF3.1 8 (by decide)
    have z11_S10 := hF3.1 11 (by decide)
    have z12_S10 := hF3.1 12 (by decide)
    have z18_S10 := hF3.1 18 (by decide)
    have z19_S10 := hF3.1 19 (by decide)
    have f1_S10 := hF3.2.1 1 (by decide)
    have f1a_S10 := Fr_fa hF3 1 (by decide)
    have f2_S10 := hF3.2.1 2 (by decide)
    have f2a_S10 := Fr_fa hF3 2 (by decide)
    have f8_S10 := hF3.2.1 8 (by decide)
    have f8a_S10 := Fr_fa hF3 8 (by decide)
    have f46_S10 := hF3.2.1 46 (by decide)
    have f46a_S10 := Fr_fa hF3 46 (by decide)
    have f48_S10 := hF3.2.1 48 (by decide)
    have f48a_S10 := Fr_fa hF3 48 (by decide)
    have f10_S10 := hF3.2.1 10 (by decide)
    have f10a_S10 := Fr_fa hF3 10 (by decide)
    have g3_S10 := hF3.2.2 3 (by decide)
    have g3a_S10 := Fr_ga hF3 3 (by decide)
    have g4_S10 := hF3.2.2 4 (by decide)
    have g4a_S10 := Fr_ga hF3 4 (by decide)
    clear hF3
    have cS10 : CF nx ((ix r10, 0, kt) :: kL) kn kw 0 0 1 0 0 kt S10 := by
          rw [pS10.1]
          exact CF_begins qS10.1 (by (try clear j19); (try clear j124); grind (ematch := 12) (gen := 12) (splits := 15) [→ CF_nc, → CS_nc, → AF_na, → OH_no, → CS_step, → CS_CF, AF_nf, AQ_o, CS_nf, ti_link])
    have bS10 : AF nx z6.toInt S10 ∧ OH nx S0 S10 := by (try clear j19); (try clear j124); grind (ematch := 12) (gen := 12) (splits := 15) [→ CF_nc, → CS_nc, → AF_na, → OH_no, → CS_step, → CS_CF, AF_nf, AQ_o, CS_nf, ti_link]
    have hs10 : XI nx n so pl wo ws S0 d (G - 3) (GA - 2) (X + 2) Y S10 ∧ ((S10.1 4) = 0 → (S.1 4) = 0 ∧ (S.1 3).toInt < (S10.1 3).toInt ∧ 0 ≤ z6.toInt ∧ z6.toInt < 16 ∧ ((S10.2.1 10) (ix (S10.1 12))).toInt = z6.toInt + 1) ∧ (S10.1 12) = (S.1 12) ∧ (S.1 8).toInt ≤ (S10.1 8).toInt ∧ 12000 * nx ≤ r10.toInt ∧ r10.toInt < 12000 * nx + 12000 ∧ ((S10.1 4) = 0 → -1 ≤ x1.toInt ∧ x1.toInt < 12) := by (try clear hC hA hO iJ19 nS5 mS5 oS5 nS9 oS9 aS9 qS10 mS10 cS10 bS10); (try clear j19); (try clear j124); grind (splits := 20) (ematch := 10) [XI, PI, PJ, BU, LV, LA_i, q_zz, q_za, q_zga, q_fza, q_fx, q_fga, q_gza, q_gfa, q_gx, q_zf1, q_zg1, q_ff, q_fg1, q_gf1, q_gg, ti_link, in24, in24000, in408]
    (try clear pS10); (try clear z3_S10); (try clear z4_S10); (try clear z6_S10); (try clear z7_S10); (try clear z8_S10); (try clear z11_S10); (try clear z12_S10); (try clear z18_S10); (try clear z19_S10); (try clear f1_S10); (try clear f1a_S10); (try clear f2_S10); (try clear f2a_S10); (try clear f8_S10); (try clear f8a_S10); (try clear f46_S10); (try clear f46a_S10); (try clear f48_S10); (try clear f48a_S10); (try clear f10_S10); (try clear f10a_S10); (try clear g3_S10); (try clear g3a_S10); (try clear g4_S10); (try clear g4a_S10)
    (try clear eS9); (try clear ez8); (try clear ez7); (try clear ez6); (try clear eS5); (try clear ez4); (try clear hJ19); (try clear h); (try clear hw)
    refine fq_waitTree _ _ _ (fun S11 hF4 pS11 => ?_) (sq_waitTree (nx := nx) (n := n) (so := so) (pl := pl) (wo := wo) (ws := ws) (S0 := S0) (d := d) (G := (G - 3)) (GA := (GA - 2)) (X := (X + 2)) (Y := Y) (kL := ((ix r10, 0, kt) :: kL)) (kn := kn) (kw := kw) (kc := 0) (ko := 0) (km := z6.toInt) (kt := kt) (by (try clear hC hA hO iJ19 nS5 mS5 oS5 nS9 oS9 aS9 qS10 mS10 cS10 bS10); (try clear j19); (try clear j124); grind [XI, PI, PJ, BU, LV, LA_i, q_zz, q_za, q_zga, q_fza, q_fx, q_fga, q_gza, q_gfa, q_gx, q_zf1, q_zg1, q_ff, q_fg1, q_gf1, q_gg, ti_link, in24, in24000, in408]) (by (try clear hC hA hO iJ19 nS5 mS5 oS5 nS9 oS9 aS9 qS10 mS10 cS10 bS10); (try clear j19); (try clear j124); grind [XI, PI, PJ, BU, LV, LA_i, q_zz, q_za, q_zga, q_fza, q_fx, q_fga, q_gza, q_gfa, q_gx, q_zf1, q_zg1, q_ff, q_fg1, q_gf1, q_gg, ti_link, in24, in24000, in408]) (by (try clear j19); (try clear j124); grind (ematch := 12) (gen := 12) (splits := 15) [→ CF_nc, → CS_nc, → AF_na, → OH_no, → CS_step, → CS_CF, AF_nf, AQ_o, CS_nf, ti_link]) (by (try clear j19); (try clear j124); grind (ematch := 12) (gen := 12) (splits := 15) [→ CF_nc, → CS_nc, → AF_na, → OH_no, → CS_step, → CS_CF, AF_nf, AQ_o, CS_nf, ti_link]) (by (try clear j19); (try clear j124); grind (ematch := 12) (gen := 12) (splits := 15) [→ CF_nc, → CS_nc, → AF_na, → OH_no, → CS_step, → CS_CF, AF_nf, AQ_o, CS_nf, ti_link]) (by (try clear j19); (try clear j124); grind (ematch := 12) (gen := 12) (splits := 15) [→ CF_nc, → CS_nc, → AF_na, → OH_no, → CS_step, → CS_CF, AF_nf, AQ_o, CS_nf, ti_link]))
    obtain ⟨pS11, qS11⟩ := pS11
    have z6_S11 := hF4.1 6 (by decide)
    have z12_S11 := hF4.1 12 (by decide)
    have f1_S11 := hF4.2.1 1 (by decide)
    have f1a_S11 := Fr_fa hF4 1 (by decide)
    have f2_S11 := hF4.2.1 2 (by decide)
    have f2a_S11 := Fr_fa hF4 2 (by decide)
    have f10_S11 := hF4.2.1 10 (by decide)
    have f10a_S11 := Fr_fa hF4 10 (by decide)
    have g3_S11 := hF4.2.2 3 (by decide)
    have g3a_S11 := Fr_ga hF4 3 (by decide)
    have g4_S11 := hF4.2.2 4 (by decide)
    have g4a_S11 := Fr_ga hF4 4 (by decide)
    clear hF4
    have hs11 : XI nx n so pl wo ws S0 d (G - 3) (GA - 2) (X + 2) Y S11 ∧ ((S11.1 4) = 0 → (S.1 4) = 0 ∧ (S.1 3).toInt < (S11.1 3).toInt ∧ 0 ≤ z6.toInt ∧ z6.toInt < 16 ∧ ((S11.2.1 10) (ix (S11.1 12))).toInt = z6.toInt + 1) ∧ (S11.1 12) = (S.1 12) ∧ (S.1 8).toInt ≤ (S11.1 8).toInt ∧ 12000 * nx ≤ r10.toInt ∧ r10.toInt < 12000 * nx + 12000 ∧ ((S11.1 4) = 0 → -1 ≤ x1.toInt ∧ x1.toInt < 12) := by (try clear hC hA hO iJ19 nS5 mS5 oS5 nS9 oS9 aS9 qS10 mS10 cS10 bS10 qS11); (try clear j19); (try clear j124); grind (splits := 20) (ematch := 10) [XI, PI, PJ, BU, LV, LA_i, q_zz, q_za, q_zga, q_fza, q_fx, q_fga, q_gza, q_gfa, q_gx, q_zf1, q_zg1, q_ff, q_fg1, q_gf1, q_gg, ti_link, in24, in24000, in408]
    (try clear pS11); (try clear z3_S11); (try clear z4_S11); (try clear z6_S11); (try clear z7_S11); (try clear z8_S11); (try clear z11_S11); (try clear z12_S11); (try clear z18_S11); (try clear z19_S11); (try clear f1_S11); (try clear f1a_S11); (try clear f2_S11); (try clear f2a_S11); (try clear f8_S11); (try clear f8a_S11); (try clear f46_S11); (try clear f46a_S11); (try clear f48_S11); (try clear f48a_S11); (try clear f10_S11); (try clear f10a_S11); (try clear g3_S11); (try clear g3a_S11); (try clear g4_S11); (try clear g4a_S11)
    (try clear hs10)
    refine fm_emit _ _ _ _ _ _ (fun S12 r12 hF5 pS12 => ?_) (sg_emit (nx := nx) _ _ _ (by (try clear hC hA hO iJ19 nS5 mS5 oS5 nS9 oS9 aS9 qS10 mS10 cS10 bS10 qS11); (try clear j19); (try clear j124); grind [XI, PI, PJ, BU, LV, LA_i, q_zz, q_za, q_zga, q_fza, q_fx, q_fga, q_gza, q_gfa, q_gx, q_zf1, q_zg1, q_ff, q_fg1, q_gf1, q_gg, ti_link, in24, in24000, in408]))
    obtain ⟨pS12, qS12⟩ := pS12
    have fS12 : S12.1 4 = 0 → S11.1 4 = 0 := fun q => (hF5.1 4 (by decide)).symm.trans q
    have mS12 : NA S11 S12 := NA_fr hF5 (by decide) (by decide) fS12
    have z3_S12 := hF5.1 3 (by decide)
    have z4_S12 := hF5.1 4 (by decide)
    have z6_S12 := hF5.1 6 (by decide)
    have z8_S12 := hF5.1 8 (by decide)
    have z11_S12 := hF5.1 11 (by decide)
    have z12_S12 := hF5.1 12 (by decide)
    have z18_S12 := hF5.1 18 (by decide)
    have z19_S12 := hF5.1 19 (by decide)
    have f1_S12 := hF5.2.1 1 (by decide)
    have f1a_S12 := Fr_fa hF5 1 (by decide)
    have f2_S12 := hF5.2.1 2 (by decide)
    have f2a_S12 := Fr_fa hF5 2 (by decide)
    have f8_S12 := hF5.2.1 8 (by decide)
    have f8a_S12 := Fr_fa hF5 8 (by decide)
    have f46_S12 := hF5.2.1 46 (by decide)
    have f46a_S12 := Fr_fa hF5 46 (by decide)
    have f48_S12 := hF5.2.1 48 (by decide)
    have f48a_S12 := Fr_fa hF5 48 (by decide)
    have f10_S12 := hF5.2.1 10 (by decide)
    have f10a_S12 := Fr_fa hF5 10 (by decide)
    have g3_S12 := hF5.2.2 3 (by decide)
    have g3a_S12 := Fr_ga hF5 3 (by decide)
    have g4_S12 := hF5.2.2 4 (by decide)
    have g4a_S12 := Fr_ga hF5 4 (by decide)
    clear hF5
    have cS12 : CS nx ((ix r10, 0, kt) :: kL) kn kw kt S12 := CS_wait qS12.1 qS11.1 (by (try clear hC hA hO iJ19 nS5 mS5 oS5 nS9 oS9 aS9 qS10 mS10 cS10 bS10 qS11 qS12 mS12); (try clear j19); (try clear j124); grind [XI, PI, PJ, BU, LV, LA_i, q_zz, q_za, q_zga, q_fza, q_fx, q_fga, q_gza, q_gfa, q_gx, q_zf1, q_zg1, q_ff, q_fg1, q_gf1, q_gg, ti_link, in24, in24000, in408])
    have bS12 : AF nx z6.toInt S12 ∧ OH nx S0 S12 := by (try clear j19); (try clear j124); grind (ematch := 12) (gen := 12) (splits := 15) [→ CF_nc, → CS_nc, → AF_na, → OH_no, → CS_step, → CS_CF, AF_nf, AQ_o, CS_nf, ti_link]
    refine ⟨by (try clear hC hA hO iJ19 nS5 mS5 oS5 nS9 oS9 aS9 qS10 mS10 cS10 bS10 qS11 qS12 mS12 cS12 bS12); (try clear j19); (try clear j124); grind [XI, PI, PJ, BU, LV, LA_i, q_zz, q_za, q_zga, q_fza, q_fx, q_fga, q_gza, q_gfa, q_gx, q_zf1, q_zg1, q_ff, q_fg1, q_gf1, q_gg, ti_link, in24, in24000, in408], ?_⟩
    intro S13 eS13
    have mS13 : NA S12 S13 := NA_f eS13 (by decide)
    have oS13 : NO nx S12 S13 := NO_f eS13 (nH_c (by decide) (by (try clear hC hA hO iJ19 nS5 mS5 oS5 nS9 oS9 aS9 qS10 mS10 cS10 bS10 qS11 qS12 mS12 cS12 bS12 mS13); (try clear j19); (try clear j124); grind [XI, PI, PJ, BU, LV, LA_i, q_zz, q_za, q_zga, q_fza, q_fx, q_fga, q_gza, q_gfa, q_gx, q_zf1, q_zg1, q_ff, q_fg1, q_gf1, q_gg, ti_link, in24, in24000, in408]))
    have cS13 : CS nx kL kn kw kt S13 := CS_patch eS13 (by (try clear hC hA hO iJ19 nS5 mS5 oS5 nS9 oS9 aS9 qS10 mS10 cS10 bS10 qS11 qS12 mS12 cS12 bS12 mS13 oS13); (try clear j19); (try clear j124); grind [XI, PI, PJ, BU, LV, LA_i, q_zz, q_za, q_zga, q_fza, q_fx, q_fga, q_gza, q_gfa, q_gx, q_zf1, q_zg1, q_ff, q_fg1, q_gf1, q_gg, ti_link, in24, in24000, in408]) cS12
    refine ⟨by (try clear hC hA hO iJ19 nS5 mS5 oS5 nS9 oS9 aS9 qS10 mS10 cS10 bS10 qS11 qS12 mS12 cS12 bS12 mS13 oS13 cS13); (try clear j19); (try clear j124); grind [XI, PI, PJ, BU, LV, LA_i, q_zz, q_za, q_zga, q_fza, q_fx, q_fga, q_gza, q_gfa, q_gx, q_zf1, q_zg1, q_ff, q_fg1, q_gf1, q_gg, ti_link, in24, in24000, in408], ?_⟩
    intro S14 eS14
    have mS14 : NA S13 S14 := NA_f eS14 (by decide)
    have oS14 : NO nx S13 S14 := NO_f eS14 (nH_c (by decide) (by (try clear hC hA hO iJ19 nS5 mS5 oS5 nS9 oS9 aS9 qS10 mS10 cS10 bS10 qS11 qS12 mS12 cS12 bS12 mS13 oS13 cS13 mS14); (try clear j19); (try clear j124); grind [XI, PI, PJ, BU, LV, LA_i, q_zz, q_za, q_zga, q_fza, q_fx, q_fga, q_gza, q_gfa, q_gx, q_zf1, q_zg1, q_ff, q_fg1, q_gf1, q_gg, ti_link, in24, in24000, in408]))
    have cS14 : CS nx kL kn kw kt S14 := CS_two qS12.1 eS13 (by rw [← pS12.1]; exact eS14) cS13
    have bS14 : AF nx z6.toInt S14 ∧ OH nx S0 S14 := by (try clear j19); (try clear j124); grind (ematch := 12) (gen := 12) (splits := 15) [→ CF_nc, → CS_nc, → AF_na, → OH_no, → CS_step, → CS_CF, AF_nf, AQ_o, CS_nf, ti_link]
    refine fm_then _ _ _ _ _ (fun S15 r15 hF6 pS15 => ?_) (sg_then (nx := nx) _ _ (by (try clear hC hA hO iJ19 nS5 mS5 oS5 nS9 oS9 aS9 qS10 mS10 cS10 bS10 qS11 qS12 mS12 cS12 bS12 mS13 oS13 cS13 mS14 oS14 cS14 bS14); (try clear j19); (try clear j124); grind [XI, PI, PJ, BU, LV, LA_i, q_zz, q_za, q_zga, q_fza, q_fx, q_fga, q_gza, q_gfa, q_gx, q_zf1, q_zg1, q_ff, q_fg1, q_gf1, q_gg, ti_link, in24, in24000, in408]))
    obtain ⟨pS15, qS15⟩ := pS15
    have fS15 : S15.1 4 = 0 → S14.1 4 = 0 := fun q => (hF6.1 4 (by decide)).symm.trans q
    have nS15 : NC S14 S15 := NC_fr hF6 (by decide) (by decide) fS15
    have z3_S15 := hF6.1 3 (by decide)
    have z4_S15 := hF6.1 4 (by decide)
    have z6_S15 := hF6.1 6 (by decide)
    have z7_S15 := hF6.1 7 (by decide)
    have z11_S15 := hF6.1 11 (by decide)
    have z12_S15 := hF6.1 12 (by decide)
    have z18_S15 := hF6.1 18 (by decide)
    have f1_S15 := hF6.2.1 1 (by decide)
    have f1a_S15 := Fr_fa hF6 1 (by decide)
    have f2_S15 := hF6.2.1 2 (by decide)
    have f2a_S15 := Fr_fa hF6 2 (by decide)
    have f8_S15 := hF6.2.1 8 (by decide)
    have f8a_S15 := Fr_fa hF6 8 (by decide)
    have f46_S15 := hF6.2.1 46 (by decide)
    have f46a_S15 := Fr_fa hF6 46 (by decide)
    have f48_S15 := hF6.2.1 48 (by decide)
    have f48a_S15 := Fr_fa hF6 48 (by decide)
    have f10_S15 := hF6.2.1 10 (by decide)
    have f10a_S15 := Fr_fa hF6 10 (by decide)
    have g3_S15 := hF6.2.2 3 (by decide)
    have g3a_S15 := Fr_ga hF6 3 (by decide)
    have g4_S15 := hF6.2.2 4 (by decide)
    have g4a_S15 := Fr_ga hF6 4 (by decide)
    clear hF6
    have bS15 : AF nx z6.toInt S15 ∧ OH nx S0 S15 ∧ CS nx kL kn kw kt S15 := by (try clear j19); (try clear j124); grind (ematch := 12) (gen := 12) (splits := 15) [→ CF_nc, → CS_nc, → AF_na, → OH_no, → CS_step, → CS_CF, AF_nf, AQ_o, CS_nf, ti_link]
    refine ⟨fun c7 => ?_, fun c7 => ?_⟩
    · exact j124 _ _ (⟨by (try clear hC hA hO iJ19 nS5 mS5 oS5 nS9 oS9 aS9 qS10 mS10 cS10 bS10 qS11 qS12 mS12 cS12 bS12 mS13 oS13 cS13 mS14 oS14 cS14 bS14 qS15 nS15 bS15); (try clear j19); (try clear j124); grind [XI, PI, PJ, BU, LV, LA_i, q_zz, q_za, q_zga, q_fza, q_fx, q_fga, q_gza, q_gfa, q_gx, q_zf1, q_zg1, q_ff, q_fg1, q_gf1, q_gg, ti_link, in24, in24000, in408], by refine ⟨?_, ?_, ?_⟩ <;> ((try clear j19); (try clear j124); grind (ematch := 12) (gen := 12) (splits := 15) [→ CF_nc, → CS_nc, → AF_na, → OH_no, → CS_step, → CS_CF, AF_nf, AQ_o, CS_nf, ti_link])⟩)
    · intro z17 ez17
      intro z18 ez18
      refine ⟨by (try clear hC hA hO iJ19 nS5 mS5 oS5 nS9 oS9 aS9 qS10 mS10 cS10 bS10 qS11 qS12 mS12 cS12 bS12 mS13 oS13 cS13 mS14 oS14 cS14 bS14 qS15 nS15 bS15); (try clear j19); (try clear j124); grind [XI, PI, PJ, BU, LV, LA_i, q_zz, q_za, q_zga, q_fza, q_fx, q_fga, q_gza, q_gfa, q_gx, q_zf1, q_zg1, q_ff, q_fg1, q_gf1, q_gg, ti_link, in24, in24000, in408], ?_⟩
      intro S19 eS19
      have nS19 : NC S15 S19 := NC_f eS19 (by decide)
      have oS19 : NO nx S15 S19 := NO_f eS19 (nH_w (by (try clear hC hA hO iJ19 nS5 mS5 oS5 nS9 oS9 aS9 qS10 mS10 cS10 bS10 qS11 qS12 mS12 cS12 bS12 mS13 oS13 cS13 mS14 oS14 cS14 bS14 qS15 nS15 bS15 nS19); (try clear j19); (try clear j124); grind [XI, PI, PJ, BU, LV, LA_i, q_zz, q_za, q_zga, q_fza, q_fx, q_fga, q_gza, q_gfa, q_gx, q_zf1, q_zg1, q_ff, q_fg1, q_gf1, q_gg, ti_link, in24, in24000, in408]))
      have wS19 : ((S19.2.1 10) (ix (S19.1 12))).toInt = z6.toInt + 1 := by (try clear hC hA hO iJ19 nS5 mS5 oS5 nS9 oS9 aS9 qS10 mS10 cS10 bS10 qS11 qS12 mS12 cS12 bS12 mS13 oS13 cS13 mS14 oS14 cS14 bS14 qS15 nS15 bS15 nS19 oS19); (try clear j19); (try clear j124); grind [XI, PI, PJ, BU, LV, LA_i, q_zz, q_za, q_zga, q_fza, q_fx, q_fga, q_gza, q_gfa, q_gx, q_zf1, q_zg1, q_ff, q_fg1, q_gf1, q_gg, ti_link, in24, in24000, in408]
      have aS19 : AF nx (z6.toInt + 1) S19 := AF_w24 eS19 (by (try clear hC hA hO iJ19 nS5 mS5 oS5 nS9 oS9 aS9 qS10 mS10 cS10 bS10 qS11 qS12 mS12 cS12 bS12 mS13 oS13 cS13 mS14 oS14 cS14 bS14 qS15 nS15 bS15 nS19 oS19 wS19); (try clear j19); (try clear j124); grind [XI, PI, PJ, BU, LV, LA_i, q_zz, q_za, q_zga, q_fza, q_fx, q_fga, q_gza, q_gfa, q_gx, q_zf1, q_zg1, q_ff, q_fg1, q_gf1, q_gg, ti_link, in24, in24000, in408]) (by (try clear hC hA hO iJ19 nS5 mS5 oS5 nS9 oS9 aS9 qS10 mS10 cS10 bS10 qS11 qS12 mS12 cS12 bS12 mS13 oS13 cS13 mS14 oS14 cS14 bS14 qS15 nS15 bS15 nS19 oS19 wS19); (try clear j19); (try clear j124); grind [XI, PI, PJ, BU, LV, LA_i, q_zz, q_za, q_zga, q_fza, q_fx, q_fga, q_gza, q_gfa, q_gx, q_zf1, q_zg1, q_ff, q_fg1, q_gf1, q_gg, ti_link, in24, in24000, in408]) (by (try clear hC hA hO iJ19 nS5 mS5 oS5 nS9 oS9 aS9 qS10 mS10 cS10 bS10 qS11 qS12 mS12 cS12 bS12 mS13 oS13 cS13 mS14 oS14 cS14 bS14 qS15 nS15 bS15 nS19 oS19 wS19); (try clear j19); (try clear j124); grind [XI, PI, PJ, BU, LV, LA_i, q_zz, q_za, q_zga, q_fza, q_fx, q_fga, q_gza, q_gfa, q_gx, q_zf1, q_zg1, q_ff, q_fg1, q_gf1, q_gg, ti_link, in24, in24000, in408]) bS15.1
      exact j124 _ _ (⟨by (try clear hC hA hO iJ19 nS5 mS5 oS5 nS9 oS9 aS9 qS10 mS10 cS10 bS10 qS11 qS12 mS12 cS12 bS12 mS13 oS13 cS13 mS14 oS14 cS14 bS14 qS15 nS15 bS15 nS19 oS19 wS19 aS19); (try clear j19); (try clear j124); grind [XI, PI, PJ, BU, LV, LA_i, q_zz, q_za, q_zga, q_fza, q_fx, q_fga, q_gza, q_gfa, q_gx, q_zf1, q_zg1, q_ff, q_fg1, q_gf1, q_gg, ti_link, in24, in24000, in408], by refine ⟨?_, ?_, ?_⟩ <;> ((try clear j19); (try clear j124); grind (ematch := 12) (gen := 12) (splits := 15) [→ CF_nc, → CS_nc, → AF_na, → OH_no, → CS_step, → CS_CF, AF_nf, AQ_o, CS_nf, ti_link])⟩)
  refine ⟨by (try clear hC hA hO); (try clear j19); (try clear j124); grind [XI, PI, PJ, BU, LV, LA_i, q_zz, q_za, q_zga, q_fza, q_fx, q_fga, q_gza, q_gfa, q_gx, q_zf1, q_zg1, q_ff, q_fg1, q_gf1, q_gg, ti_link, in24, in24000, in408], ?_⟩
  intro z1 ez1
  refine ⟨fun c8 => ?_, fun c8 => ?_⟩
  · exact j19 _ _ (⟨by (try clear hC hA hO); (try clear j19); (try clear j124); grind [XI, PI, PJ, BU, LV, LA_i, q_zz, q_za, q_zga, q_fza, q_fx, q_fga, q_gza, q_gfa, q_gx, q_zf1, q_zg1, q_ff, q_fg1, q_gf1, q_gg, ti_link, in24, in24000, in408], by refine ⟨?_, ?_, ?_⟩ <;> ((try clear j19); (try clear j124); grind (ematch := 12) (gen := 12) (splits := 15) [→ CF_nc, → CS_nc, → AF_na, → OH_no, → CS_step, → CS_CF, AF_nf, AQ_o, CS_nf, ti_link])⟩)
  · refine fm_wrong _ _ _ _ (fun S3 hF9 pS3 => ?_) (sg_wrong (nx := nx) (n := n) (so := so) (pl := pl) (wo := wo) (ws := ws) _ (by (try clear hC hA hO); (try clear j19); (try clear j124); grind [XI, PI, PJ, BU, LV, LA_i, q_zz, q_za, q_zga, q_fza, q_fx, q_fga, q_gza, q_gfa, q_gx, q_zf1, q_zg1, q_ff, q_fg1, q_gf1, q_gg, ti_link, in24, in24000, in408]) (by (try clear hC hA hO); (try clear j19); (try clear j124); grind [XI, PI, PJ, BU, LV, LA_i, q_zz, q_za, q_zga, q_fza, q_fx, q_fga, q_gza, q_gfa, q_gx, q_zf1, q_zg1, q_ff, q_fg1, q_gf1, q_gg, ti_link, in24, in24000, in408]))
    have fS3 : S3.1 4 = 0 → S.1 4 = 0 := by (try clear hC hA hO); (try clear j19); (try clear j124); grind [ti_link]
    have nS3 : NC S S3 := NC_fr hF9 (by decide) (by decide) fS3
    have mS3 : NA S S3 := NA_fr hF9 (by decide) (by decide) fS3
    have oS3 : NO nx S S3 := NO_fr hF9 (by decide) (by decide)
    have z3_S3 := hF9.1 3 (by decide)
    have z6_S3 := hF9.1 6 (by decide)
    have z7_S3 := hF9.1 7 (by decide)
    have z8_S3 := hF9.1 8 (by decide)
    have z11_S3 := hF9.1 11 (by decide)
    have z12_S3 := hF9.1 12 (by decide)
    have z18_S3 := hF9.1 18 (by decide)
    have z19_S3 := hF9.1 19 (by decide)
    have f1_S3 := hF9.2.1 1 (by decide)
    have f1a_S3 := Fr_fa hF9 1 (by decide)
    have f2_S3 := hF9.2.1 2 (by decide)
    have f2a_S3 := Fr_fa hF9 2 (by decide)
    have f8_S3 := hF9.2.1 8 (by decide)
    have f8a_S3 := Fr_fa hF9 8 (by decide)
    have f46_S3 := hF9.2.1 46 (by decide)
    have f46a_S3 := Fr_fa hF9 46 (by decide)
    have f48_S3 := hF9.2.1 48 (by decide)
    have f48a_S3 := Fr_fa hF9 48 (by decide)
    have f10_S3 := hF9.2.1 10 (by decide)
    have f10a_S3 := Fr_fa hF9 10 (by decide)
    have g3_S3 := hF9.2.2 3 (by decide)
    have g3a_S3 := Fr_ga hF9 3 (by decide)
    have g4_S3 := hF9.2.2 4 (by decide)
    have g4a_S3 := Fr_ga hF9 4 (by decide)
    clear hF9
    exact j19 _ _ (⟨by (try clear hC hA hO nS3 mS3 oS3); (try clear j19); (try clear j124); grind [XI, PI, PJ, BU, LV, LA_i, q_zz, q_za, q_zga, q_fza, q_fx, q_fga, q_gza, q_gfa, q_gx, q_zf1, q_zg1, q_ff, q_fg1, q_gf1, q_gg, ti_link, in24, in24000, in408], by refine ⟨?_, ?_, ?_⟩ <;> ((try clear j19); (try clear j124); grind (ematch := 12) (gen := 12) (splits := 15) [→ CF_nc, → CS_nc, → AF_na, → OH_no, → CS_step, → CS_CF, AF_nf, AQ_o, CS_nf, ti_link])⟩)
