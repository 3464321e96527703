
set_option maxHeartbeats 4000000 in
theorem sg_waitTree {nx n : Nat} {so pl : Nat → Int32} {wo ws : Nat → Int64} {S0 : mS} {D d : Nat} {G GA X Y : Int} {kL : LT3} {kn kw kc ko km : Int} {kt : Int32} {r_waitTree : mS → (mS → Prop) → Prop} (hf_waitTree : FmV [3, 4, 7, 8, 11, 18, 19] [8, 12, 13, 14, 15, 16, 17, 18, 19, 20, 21, 46, 47, 48] [9] (r_waitTree)) (hr_waitTree : ∀ (d : Nat) (G GA X Y : Int) (kL : LT3) (kn kw kc ko km : Int) (kt : Int32) (S : mS), D ≤ d → LV d G GA X Y → XI nx n so pl wo ws S0 d G GA X Y S → (CF nx kL kn kw 0 0 1 kc ko kt S) → (AF nx km S) → (OH nx S0 S) → (0 ≤ kc ∧ 0 ≤ ko ∧ ko ≤ (d : Int)) → r_waitTree S (fun S1 => (XI nx n so pl wo ws S0 d G GA X Y S1 ∧ ((S1.1 4) = 0 → (S.1 4) = 0 ∧ (S.1 3).toInt < (S1.1 3).toInt) ∧ (S.1 8).toInt ≤ (S1.1 8).toInt) ∧ (CF nx kL kn kw 0 0 1 kc ko kt S1 ∧ AF nx km S1 ∧ OH nx S0 S1))) {S : mS} (hL : LV d G GA X Y) (h : XI nx n so pl wo ws S0 d G GA X Y S) (hD : D ≤ d + 1) (hC : CF nx kL kn kw 0 0 1 kc ko kt S) (hA : AF nx km S) (hO : OH nx S0 S) (hh : 0 ≤ kc ∧ 0 ≤ ko ∧ ko ≤ (d : Int)) : wp_waitTree r_waitTree S (fun S1 => (XI nx n so pl wo ws S0 d G GA X Y S1 ∧ ((S1.1 4) = 0 → (S.1 4) = 0 ∧ (S.1 3).toInt < (S1.1 3).toInt) ∧ (S.1 8).toInt ≤ (S1.1 8).toInt) ∧ (CF nx kL kn kw 0 0 1 kc ko kt S1 ∧ AF nx km S1 ∧ OH nx S0 S1)) := by
  unfold wp_waitTree
  have j180 : ∀ (x2 : Int32) (y1 : Int32) (y2 : Int32) (Sx : mS), (XI nx n so pl wo ws S0 (d + 1) (G - 3) GA (1000 - 40 * (d + 1) - 20) (400 - 20 * (d + 1) - 10) Sx ∧ ((Sx.1 4) = 0 → (S.1 4) = 0 ∧ (S.1 3).toInt < (Sx.1 3).toInt) ∧ (S.1 8).toInt ≤ (Sx.1 8).toInt ∧ d + 1 ≤ 10 ∧ y1 = 28 ∧ 0 ≤ y2.toInt ∧ y2.toInt ≤ 1) ∧ (CF nx kL kn kw 0 0 1 (kc + 1) ko kt Sx ∧ AF nx km Sx ∧ OH nx S0 Sx ∧ y1 = 28 ∧ 0 ≤ y2.toInt ∧ y2.toInt ≤ 1) → wp_waitTree_180 r_waitTree (fun S1 => (XI nx n so pl wo ws S0 d G GA X Y S1 ∧ ((S1.1 4) = 0 → (S.1 4) = 0 ∧ (S.1 3).toInt < (S1.1 3).toInt) ∧ (S.1 8).toInt ≤ (S1.1 8).toInt) ∧ (CF nx kL kn kw 0 0 1 kc ko kt S1 ∧ AF nx km S1 ∧ OH nx S0 S1)) x2 y1 y2 Sx := by
    intro x2 y1 y2 Sx hJ180
    unfold wp_waitTree_180
    obtain ⟨hJ180, iJ180⟩ := hJ180
    refine fm_emit _ _ _ _ _ _ (fun S31 r31 hF1 pS31 => ?_) (sg_emit (nx := nx) _ _ _ (by (try clear hC hA hO hh iJ180); (try clear j168); (try clear j180); (try clear j223); (try clear hk197); (try clear hr_waitTree); (try clear hf_waitTree); grind [XI, PI, PJ, BU, LV, LA_i, q_zz, q_za, q_zga, q_fza, q_fx, q_fga, q_gza, q_gfa, q_gx, q_zf1, q_zg1, q_ff, q_fg1, q_gf1, q_gg, ti_link]))
    obtain ⟨pS31, qS31⟩ := pS31
    have fS31 : S31.1 4 = 0 → Sx.1 4 = 0 := fun q => (hF1.1 4 (by decide)).symm.trans q
    have mS31 : NA Sx S31 := NA_fr hF1 (by decide) (by decide) fS31
    have z3_S31 := hF1.1 3 (by decide)
    have z4_S31 := hF1.1 4 (by decide)
    have z6_S31 := hF1.1 6 (by decide)
    have z8_S31 := hF1.1 8 (by decide)
    have z11_S31 := hF1.1 11 (by decide)
    have z12_S31 := hF1.1 12 (by decide)
    have z18_S31 := hF1.1 18 (by decide)
    have z19_S31 := hF1.1 19 (by decide)
    have f1_S31 := hF1.2.1 1 (by decide)
    have f1a_S31 := Fr_fa hF1 1 (by decide)
    have f2_S31 := hF1.2.1 2 (by decide)
    have f2a_S31 := Fr_fa hF1 2 (by decide)
    have f8_S31 := hF1.2.1 8 (by decide)
    have f8a_S31 := Fr_fa hF1 8 (by decide)
    have f46_S31 := hF1.2.1 46 (by decide)
    have f46a_S31 := Fr_fa hF1 46 (by decide)
    have f48_S31 := hF1.2.1 48 (by decide)
    have f48a_S31 := Fr_fa hF1 48 (by decide)
    have g3_S31 := hF1.2.2 3 (by decide)
    have g3a_S31 := Fr_ga hF1 3 (by decide)
    have g4_S31 := hF1.2.2 4 (by decide)
    have g4a_S31 := Fr_ga hF1 4 (by decide)
    clear hF1
    refine fm_takeSign _ _ _ _ (fun S32 hF2 pS32 => ?_) (sg_takeSign (nx := nx) (n := n) (so := so) (pl := pl) (wo := wo) (ws := ws) _ (by (try clear hC hA hO hh iJ180 qS31 mS31); (try clear j168); (try clear j180); (try clear j223); (try clear hk197); (try clear hr_waitTree); (try clear hf_waitTree); grind [XI, PI, PJ, BU, LV, LA_i, q_zz, q_za, q_zga, q_fza, q_fx, q_fga, q_gza, q_gfa, q_gx, q_zf1, q_zg1, q_ff, q_fg1, q_gf1, q_gg, ti_link]))
    have fS32 : S32.1 4 = 0 → S31.1 4 = 0 := by (try clear hC hA hO hh iJ180 qS31 mS31); (try clear j168); (try clear j180); (try clear j223); (try clear hk197); (try clear hr_waitTree); (try clear hf_waitTree); grind [ti_link]
    have nS32 : NC S31 S32 := NC_fr hF2 (by decide) (by decide) fS32
    have mS32 : NA S31 S32 := NA_fr hF2 (by decide) (by decide) fS32
    have oS32 : NO nx S31 S32 := NO_fr hF2 (by decide) (by decide)
    have z6_S32 := hF2.1 6 (by decide)
    have z7_S32 := hF2.1 7 (by decide)
    have z8_S32 := hF2.1 8 (by decide)
    have z11_S32 := hF2.1 11 (by decide)
    have z12_S32 := hF2.1 12 (by decide)
    have z18_S32 := hF2.1 18 (by decide)
    have z19_S32 := hF2.1 19 (by decide)
    have f1_S32 := hF2.2.1 1 (by decide)
    have f1a_S32 := Fr_fa hF2 1 (by decide)
    have f2_S32 := hF2.2.1 2 (by decide)
    have f2a_S32 := Fr_fa hF2 2 (by decide)
    have f8_S32 := hF2.2.1 8 (by decide)
    have f8a_S32 := Fr_fa hF2 8 (by decide)
    have f46_S32 := hF2.2.1 46 (by decide)
    have f46a_S32 := Fr_fa hF2 46 (by decide)
    have f48_S32 := hF2.2.1 48 (by decide)
    have f48a_S32 := Fr_fa hF2 48 (by decide)
    have g3_S32 := hF2.2.2 3 (by decide)
    have g3a_S32 := Fr_ga hF2 3 (by decide)
    have g4_S32 := hF2.2.2 4 (by decide)
    have g4a_S32 := Fr_ga hF2 4 (by decide)
    clear hF2
    refine hf_waitTree _ _ _ (fun S33 hF3 pS33 => ?_) (hr_waitTree (d + 1) (G - 6) GA (1000 - 40 * (d + 1)) (400 - 20 * (d + 1)) kL kn kw kc (ko + 1) km kt _ (by (try clear hC hA hO hh iJ180 qS31 mS31 nS32 mS32 oS32); (try clear j168); (try clear j180); (try clear j223); (try clear hk197); (try clear hr_waitTree); (try clear hf_waitTree); grind [XI, PI, PJ, BU, LV, LA_i, q_zz, q_za, q_zga, q_fza, q_fx, q_fga, q_gza, q_gfa, q_gx, q_zf1, q_zg1, q_ff, q_fg1, q_gf1, q_gg, ti_link]) (by (try clear hC hA hO hh iJ180 qS31 mS31 nS32 mS32 oS32); (try clear j168); (try clear j180); (try clear j223); (try clear hk197); (try clear hr_waitTree); (try clear hf_waitTree); grind [XI, PI, PJ, BU, LV, LA_i, q_zz, q_za, q_zga, q_fza, q_fx, q_fga, q_gza, q_gfa, q_gx, q_zf1, q_zg1, q_ff, q_fg1, q_gf1, q_gg, ti_link]) (by (try clear hC hA hO hh iJ180 qS31 mS31 nS32 mS32 oS32); (try clear j168); (try clear j180); (try clear j223); (try clear hk197); (try clear hr_waitTree); (try clear hf_waitTree); grind [XI, PI, PJ, BU, LV, LA_i, q_zz, q_za, q_zga, q_fza, q_fx, q_fga, q_gza, q_gfa, q_gx, q_zf1, q_zg1, q_ff, q_fg1, q_gf1, q_gg, ti_link]) (by (try clear j168); (try clear j180); (try clear j223); (try clear hk197); (try clear hr_waitTree); (try clear hf_waitTree); clear hJ180 pS31 z3_S31 z4_S31 z6_S31 z8_S31 z11_S31 z12_S31 z18_S31 z19_S31 f1_S31 f1a_S31 f2_S31 f2a_S31 f8_S31 f8a_S31 f46_S31 f46a_S31 f48_S31 f48a_S31 g3_S31 g3a_S31 g4_S31 g4a_S31 pS32 z6_S32 z7_S32 z8_S32 z11_S32 z12_S32 z18_S32 z19_S32 f1_S32 f1a_S32 f2_S32 f2a_S32 f8_S32 f8a_S32 f46_S32 f46a_S32 f48_S32 f48a_S32 g3_S32 g3a_S32 g4_S32 g4a_S32; grind (ematch := 20) (gen := 20) [→ LV_d, → CF_tick0, → CF_open20, → CF_nc, → AF_na, → OH_no, → CF_step, → CF_e0, → CF_letter, → CF_tick, → CF_yield, → CF_open2, → CF_openv, → CF_shut, ti_link]) (by (try clear j168); (try clear j180); (try clear j223); (try clear hk197); (try clear hr_waitTree); (try clear hf_waitTree); clear hJ180 pS31 z3_S31 z4_S31 z6_S31 z8_S31 z11_S31 z12_S31 z18_S31 z19_S31 f1_S31 f1a_S31 f2_S31 f2a_S31 f8_S31 f8a_S31 f46_S31 f46a_S31 f48_S31 f48a_S31 g3_S31 g3a_S31 g4_S31 g4a_S31 pS32 z6_S32 z7_S32 z8_S32 z11_S32 z12_S32 z18_S32 z19_S32 f1_S32 f1a_S32 f2_S32 f2a_S32 f8_S32 f8a_S32 f46_S32 f46a_S32 f48_S32 f48a_S32 g3_S32 g3a_S32 g4_S32 g4a_S32; grind (ematch := 20) (gen := 20) [→ LV_d, → CF_tick0, → CF_open20, → CF_nc, → AF_na, → OH_no, → CF_step, → CF_e0, → CF_letter, → CF_tick, → CF_yield, → CF_open2, → CF_openv, → CF_shut, ti_link]) (by (try clear j168); (try clear j180); (try clear j223); (try clear hk197); (try clear hr_waitTree); (try clear hf_waitTree); clear hJ180 pS31 z3_S31 z4_S31 z6_S31 z8_S31 z11_S31 z12_S31 z18_S31 z19_S31 f1_S31 f1a_S31 f2_S31 f2a_S31 f8_S31 f8a_S31 f46_S31 f46a_S31 f48_S31 f48a_S31 g3_S31 g3a_S31 g4_S31 g4a_S31 pS32 z6_S32 z7_S32 z8_S32 z11_S32 z12_S32 z18_S32 z19_S32 f1_S32 f1a_S32 f2_S32 f2a_S32 f8_S32 f8a_S32 f46_S32 f46a_S32 f48_S32 f48a_S32 g3_S32 g3a_S32 g4_S32 g4a_S32; grind (ematch := 20) (gen := 20) [→ LV_d, → CF_tick0, → CF_open20, → CF_nc, → AF_na, → OH_no, → CF_step, → CF_e0, → CF_letter, → CF_tick, → CF_yield, → CF_open2, → CF_openv, → CF_shut, ti_link]) (by (try clear j168); (try clear j180); (try clear j223); (try clear hk197); (try clear hr_waitTree); (try clear hf_waitTree); clear hJ180 pS31 z3_S31 z4_S31 z6_S31 z8_S31 z11_S31 z12_S31 z18_S31 z19_S31 f1_S31 f1a_S31 f2_S31 f2a_S31 f8_S31 f8a_S31 f46_S31 f46a_S31 f48_S31 f48a_S31 g3_S31 g3a_S31 g4_S31 g4a_S31 pS32 z6_S32 z7_S32 z8_S32 z11_S32 z12_S32 z18_S32 z19_S32 f1_S32 f1a_S32 f2_S32 f2a_S32 f8_S32 f8a_S32 f46_S32 f46a_S32 f48_S32 f48a_S32 g3_S32 g3a_S32 g4_S32 g4a_S32; grind (ematch := 20) (gen := 20) [→ LV_d, → CF_tick0, → CF_open20, → CF_nc, → AF_na, → OH_no, → CF_step, → CF_e0, → CF_letter, → CF_tick, → CF_yield, → CF_open2, → CF_openv, → CF_shut, ti_link]))
    obtain ⟨pS33, qS33⟩ := pS33
    have z6_S33 := hF3.1 6 (by decide)
    have z12_S33 := hF3.1 12 (by decide)
    have f1_S33 := hF3.2.1 1 (by decide)
    have f1a_S33 := Fr_fa hF3 1 (by decide)
    have f2_S33 := hF3.2.1 2 (by decide)
    have f2a_S33 := Fr_fa hF3 2 (by decide)
    have g3_S33 := hF3.2.2 3 (by decide)
    have g3a_S33 := Fr_ga hF3 3 (by decide)
    have g4_S33 := hF3.2.2 4 (by decide)
    have g4a_S33 := Fr_ga hF3 4 (by decide)
    clear hF3
    refine it_rule (fun u : Int32 × Int32 × mS => (XI nx n so pl wo ws S0 (d + 1) (G - 6) GA (1000 - 40 * (d + 1)) (400 - 20 * (d + 1)) u.2.2 ∧ ((u.2.2.1 4) = 0 → (S.1 4) = 0 ∧ (S.1 3).toInt < (u.2.2.1 3).toInt) ∧ (S.1 8).toInt ≤ (u.2.2.1 8).toInt) ∧ (CF nx kL kn kw 0 0 1 kc (ko + 1) kt u.2.2 ∧ AF nx km u.2.2 ∧ OH nx S0 u.2.2)) (fun u => (if (u.2.2.1 4) = 0 then (n : Int) - (u.2.2.1 3).toInt + 1 else 0).toNat) ?_ (⟨by (try clear hC hA hO hh iJ180 qS31 mS31 nS32 mS32 oS32 qS33); (try clear j168); (try clear j180); (try clear j223); (try clear hk197); (try clear hr_waitTree); (try clear hf_waitTree); grind [XI, PI, PJ, BU, LV, LA_i, q_zz, q_za, q_zga, q_fza, q_fx, q_fga, q_gza, q_gfa, q_gx, q_zf1, q_zg1, q_ff, q_fg1, q_gf1, q_gg, ti_link], by refine ⟨?_, ?_, ?_⟩ <;> ((try clear j168); (try clear j180); (try clear j223); (try clear hk197); (try clear hr_waitTree); (try clear hf_waitTree); clear hJ180 pS31 z3_S31 z4_S31 z6_S31 z8_S31 z11_S31 z12_S31 z18_S31 z19_S31 f1_S31 f1a_S31 f2_S31 f2a_S31 f8_S31 f8a_S31 f46_S31 f46a_S31 f48_S31 f48a_S31 g3_S31 g3a_S31 g4_S31 g4a_S31 pS32 z6_S32 z7_S32 z8_S32 z11_S32 z12_S32 z18_S32 z19_S32 f1_S32 f1a_S32 f2_S32 f2a_S32 f8_S32 f8a_S32 f46_S32 f46a_S32 f48_S32 f48a_S32 g3_S32 g3a_S32 g4_S32 g4a_S32 pS33 z6_S33 z12_S33 f1_S33 f1a_S33 f2_S33 f2a_S33 g3_S33 g3a_S33 g4_S33 g4a_S33; grind (ematch := 20) (gen := 20) [→ LV_d, → CF_tick0, → CF_open20, → CF_nc, → AF_na, → OH_no, → CF_step, → CF_e0, → CF_letter, → CF_tick, → CF_yield, → CF_open2, → CF_openv, → CF_shut, ti_link])⟩)
    rintro ⟨x2, x3, Sl197⟩ k197 hI197 hk197
    replace hI197 : (XI nx n so pl wo ws S0 (d + 1) (G - 6) GA (1000 - 40 * (d + 1)) (400 - 20 * (d + 1)) Sl197 ∧ ((Sl197.1 4) = 0 → (S.1 4) = 0 ∧ (S.1 3).toInt < (Sl197.1 3).toInt) ∧ (S.1 8).toInt ≤ (Sl197.1 8).toInt) ∧ (CF nx kL kn kw 0 0 1 kc (ko + 1) kt Sl197 ∧ AF nx km Sl197 ∧ OH nx S0 Sl197) := hI197
    replace hk197 : ∀ v : Int32 × Int32 × mS, (XI nx n so pl wo ws S0 (d + 1) (G - 6) GA (1000 - 40 * (d + 1)) (400 - 20 * (d + 1)) v.2.2 ∧ ((v.2.2.1 4) = 0 → (S.1 4) = 0 ∧ (S.1 3).toInt < (v.2.2.1 3).toInt) ∧ (S.1 8).toInt ≤ (v.2.2.1 8).toInt) ∧ (CF nx kL kn kw 0 0 1 kc (ko + 1) kt v.2.2 ∧ AF nx km v.2.2 ∧ OH nx S0 v.2.2) → (if (v.2.2.1 4) = 0 then (n : Int) - (v.2.2.1 3).toInt + 1 else 0).toNat < (if (Sl197.1 4) = 0 then (n : Int) - (Sl197.1 3).toInt + 1 else 0).toNat → k197 v := hk197
    show wp_waitTree_197 r_waitTree _ k197 x2 x3 Sl197
    unfold wp_waitTree_197
    obtain ⟨hI197, iI197⟩ := hI197
    have j223 : ∀ (x2 : Int32) (x3 : Int32) (Sx : mS), (XI nx n so pl wo ws S0 (d + 1) (G - 11) GA (1000 - 40 * (d + 1)) (400 - 20 * (d + 1)) Sx ∧ ((Sx.1 4) = 0 → (S.1 4) = 0 ∧ (S.1 3).toInt < (Sx.1 3).toInt) ∧ (S.1 8).toInt ≤ (Sx.1 8).toInt ∧ (Sl197.1 4) = 0 ∧ ((Sx.1 4) = 0 → (Sl197.1 3).toInt < (Sx.1 3).toInt)) ∧ (CF nx kL kn kw 0 0 1 kc (ko + 1) kt Sx ∧ AF nx km Sx ∧ OH nx S0 Sx) → wp_waitTree_223 r_waitTree (fun S1 => (XI nx n so pl wo ws S0 d G GA X Y S1 ∧ ((S1.1 4) = 0 → (S.1 4) = 0 ∧ (S.1 3).toInt < (S1.1 3).toInt) ∧ (S.1 8).toInt ≤ (S1.1 8).toInt) ∧ (CF nx kL kn kw 0 0 1 kc ko kt S1 ∧ AF nx km S1 ∧ OH nx S0 S1)) k197 x2 x3 Sx := by
      intro x2 x3 Sx hJ223
      unfold wp_waitTree_223
      obtain ⟨hJ223, iJ223⟩ := hJ223
      refine hf_waitTree _ _ _ (fun S42 hF4 pS42 => ?_) (hr_waitTree (d + 1) (G - 11) GA (1000 - 40 * (d + 1)) (400 - 20 * (d + 1)) kL kn kw kc (ko + 1) km kt _ (by (try clear hC hA hO hh iJ180 qS31 mS31 nS32 mS32 oS32 qS33 iI197 iJ223); (try clear j168); (try clear j180); (try clear j223); (try clear hk197); (try clear hr_waitTree); (try clear hf_waitTree); grind [XI, PI, PJ, BU, LV, LA_i, q_zz, q_za, q_zga, q_fza, q_fx, q_fga, q_gza, q_gfa, q_gx, q_zf1, q_zg1, q_ff, q_fg1, q_gf1, q_gg, ti_link]) (by (try clear hC hA hO hh iJ180 qS31 mS31 nS32 mS32 oS32 qS33 iI197 iJ223); (try clear j168); (try clear j180); (try clear j223); (try clear hk197); (try clear hr_waitTree); (try clear hf_waitTree); grind [XI, PI, PJ, BU, LV, LA_i, q_zz, q_za, q_zga, q_fza, q_fx, q_fga, q_gza, q_gfa, q_gx, q_zf1, q_zg1, q_ff, q_fg1, q_gf1, q_gg, ti_link]) (by (try clear hC hA hO hh iJ180 qS31 mS31 nS32 mS32 oS32 qS33 iI197 iJ223); (try clear j168); (try clear j180); (try clear j223); (try clear hk197); (try clear hr_waitTree); (try clear hf_waitTree); grind [XI, PI, PJ, BU, LV, LA_i, q_zz, q_za, q_zga, q_fza, q_fx, q_fga, q_gza, q_gfa, q_gx, q_zf1, q_zg1, q_ff, q_fg1, q_gf1, q_gg, ti_link]) (by (try clear j168); (try clear j180); (try clear j223); (try clear hk197); (try clear hr_waitTree); (try clear hf_waitTree); clear hJ180 pS31 z3_S31 z4_S31 z6_S31 z8_S31 z11_S31 z12_S31 z18_S31 z19_S31 f1_S31 f1a_S31 f2_S31 f2a_S31 f8_S31 f8a_S31 f46_S31 f46a_S31 f48_S31 f48a_S31 g3_S31 g3a_S31 g4_S31 g4a_S31 pS32 z6_S32 z7_S32 z8_S32 z11_S32 z12_S32 z18_S32 z19_S32 f1_S32 f1a_S32 f2_S32 f2a_S32 f8_S32 f8a_S32 f46_S32 f46a_S32 f48_S32 f48a_S32 g3_S32 g3a_S32 g4_S32 g4a_S32 pS33 z6_S33 z12_S33 f1_S33 f1a_S33 f2_S33 f2a_S33 g3_S33 g3a_S33 g4_S33 g4a_S33 hI197 hJ223; grind (ematch := 20) (gen := 20) [→ LV_d, → CF_tick0, → CF_open20, → CF_nc, → AF_na, → OH_no, → CF_step, → CF_e0, → CF_letter, → CF_tick, → CF_yield, → CF_open2, → CF_openv, → CF_shut, ti_link]) (by (try clear j168); (try clear j180); (try clear j223); (try clear hk197); (try clear hr_waitTree); (try clear hf_waitTree); clear hJ180 pS31 z3_S31 z4_S31 z6_S31 z8_S31 z11_S31 z12_S31 z18_S31 z19_S31 f1_S31 f1a_S31 f2_S31 f2a_S31 f8_S31 f8a_S31 f46_S31 f46a_S31 f48_S31 f48a_S31 g3_S31 g3a_S31 g4_S31 g4a_S31 pS32 z6_S32 z7_S32 z8_S32 z11_S32 z12_S32 z18_S32 z19_S32 f1_S32 f1a_S32 f2_S32 f2a_S32 f8_S32 f8a_S32 f46_S32 f46a_S32 f48_S32 f48a_S32 g3_S32 g3a_S32 g4_S32 g4a_S32 pS33 z6_S33 z12_S33 f1_S33 f1a_S33 f2_S33 f2a_S33 g3_S33 g3a_S33 g4_S33 g4a_S33 hI197 hJ223; grind (ematch := 20) (gen := 20) [→ LV_d, → CF_tick0, → CF_open20, → CF_nc, → AF_na, → OH_no, → CF_step, → CF_e0, → CF_letter, → CF_tick, → CF_yield, → CF_open2, → CF_openv, → CF_shut, ti_link]) (by (try clear j168); (try clear j180); (try clear j223); (try clear hk197); (try clear hr_waitTree); (try clear hf_waitTree); clear hJ180 pS31 z3_S31 z4_S31 z6_S31 z8_S31 z11_S31 z12_S31 z18_S31 z19_S31 f1_S31 f1a_S31 f2_S31 f2a_S31 f8_S31 f8a_S31 f46_S31 f46a_S31 f48_S31 f48a_S31 g3_S31 g3a_S31 g4_S31 g4a_S31 pS32 z6_S32 z7_S32 z8_S32 z11_S32 z12_S32 z18_S32 z19_S32 f1_S32 f1a_S32 f2_S32 f2a_S32 f8_S32 f8a_S32 f46_S32 f46a_S32 f48_S32 f48a_S32 g3_S32 g3a_S32 g4_S32 g4a_S32 pS33 z6_S33 z12_S33 f1_S33 f1a_S33 f2_S33 f2a_S33 g3_S33 g3a_S33 g4_S33 g4a_S33 hI197 hJ223; grind (ematch := 20) (gen := 20) [→ LV_d, → CF_tick0, → CF_open20, → CF_nc, → AF_na, → OH_no, → CF_step, → CF_e0, → CF_letter, → CF_tick, → CF_yield, → CF_open2, → CF_openv, → CF_shut, ti_link]) (by (try clear j168); (try clear j180); (try clear j223); (try clear hk197); (try clear hr_waitTree); (try clear hf_waitTree); clear hJ180 pS31 z3_S31 z4_S31 z6_S31 z8_S31 z11_S31 z12_S31 z18_S31 z19_S31 f1_S31 f1a_S31 f2_S31 f2a_S31 f8_S31 f8a_S31 f46_S31 f46a_S31 f48_S31 f48a_S31 g3_S31 g3a_S31 g4_S31 g4a_S31 pS32 z6_S32 z7_S32 z8_S32 z11_S32 z12_S32 z18_S32 z19_S32 f1_S32 f1a_S32 f2_S32 f2a_S32 f8_S32 f8a_S32 f46_S32 f46a_S32 f48_S32 f48a_S32 g3_S32 g3a_S32 g4_S32 g4a_S32 pS33 z6_S33 z12_S33 f1_S33 f1a_S33 f2_S33 f2a_S33 g3_S33 g3a_S33 g4_S33 g4a_S33 hI197 hJ223; grind (ematch := 20) (gen := 20) [→ LV_d, → CF_tick0, → CF_open20, → CF_nc, → AF_na, → OH_no, → CF_step, → CF_e0, → CF_letter, → CF_tick, → CF_yield, → CF_open2, → CF_openv, → CF_shut, ti_link]))
      obtain ⟨pS42, qS42⟩ := pS42
      have z6_S42 := hF4.1 6 (by decide)
      have z12_S42 := hF4.1 12 (by decide)
      have f1_S42 := hF4.2.1 1 (by decide)
      have f1a_S42 := Fr_fa hF4 1 (by decide)
      have f2_S42 := hF4.2.1 2 (by decide)
      have f2a_S42 := Fr_fa hF4 2 (by decide)
      have g3_S42 := hF4.2.2 3 (by decide)
      have g3a_S42 := Fr_ga hF4 3 (by decide)
      have g4_S42 := hF4.2.2 4 (by decide)
      have g4a_S42 := Fr_ga hF4 4 (by decide)
      clear hF4
      intro z43 ez43
      exact hk197 _ (⟨by (try clear hC hA hO hh iJ180 qS31 mS31 nS32 mS32 oS32 qS33 iI197 iJ223 qS42); (try clear j168); (try clear j180); (try clear j223); (try clear hk197); (try clear hr_waitTree); (try clear hf_waitTree); grind [XI, PI, PJ, BU, LV, LA_i, q_zz, q_za, q_zga, q_fza, q_fx, q_fga, q_gza, q_gfa, q_gx, q_zf1, q_zg1, q_ff, q_fg1, q_gf1, q_gg, ti_link], by refine ⟨?_, ?_, ?_⟩ <;> ((try clear j168); (try clear j180); (try clear j223); (try clear hk197); (try clear hr_waitTree); (try clear hf_waitTree); clear hJ180 pS31 z3_S31 z4_S31 z6_S31 z8_S31 z11_S31 z12_S31 z18_S31 z19_S31 f1_S31 f1a_S31 f2_S31 f2a_S31 f8_S31 f8a_S31 f46_S31 f46a_S31 f48_S31 f48a_S31 g3_S31 g3a_S31 g4_S31 g4a_S31 pS32 z6_S32 z7_S32 z8_S32 z11_S32 z12_S32 z18_S32 z19_S32 f1_S32 f1a_S32 f2_S32 f2a_S32 f8_S32 f8a_S32 f46_S32 f46a_S32 f48_S32 f48a_S32 g3_S32 g3a_S32 g4_S32 g4a_S32 pS33 z6_S33 z12_S33 f1_S33 f1a_S33 f2_S33 f2a_S33 g3_S33 g3a_S33 g4_S33 g4a_S33 hI197 hJ223 pS42 z6_S42 z12_S42 f1_S42 f1a_S42 f2_S42 f2a_S42 g3_S42 g3a_S42 g4_S42 g4a_S42; grind (ematch := 20) (gen := 20) [→ LV_d, → CF_tick0, → CF_open20, → CF_nc, → AF_na, → OH_no, → CF_step, → CF_e0, → CF_letter, → CF_tick, → CF_yield, → CF_open2, → CF_openv, → CF_shut, ti_link])⟩) (by (try clear hC hA hO hh iJ180 qS31 mS31 nS32 mS32 oS32 qS33 iI197 iJ223 qS42); (try clear j168); (try clear j180); (try clear j223); (try clear hk197); (try clear hr_waitTree); (try clear hf_waitTree); grind [XI, PI, PJ, BU, LV, LA_i, q_zz, q_za, q_zga, q_fza, q_fx, q_fga, q_gza, q_gfa, q_gx, q_zf1, q_zg1, q_ff, q_fg1, q_gf1, q_gg, ti_link])
    refine fm_hasSign _ _ _ _ (fun S34 r34 hF5 pS34 => ?_) (sg_hasSign (nx := nx) (n := n) (so := so) (pl := pl) (wo := wo) (ws := ws) _ (by (try clear hC hA hO hh iJ180 qS31 mS31 nS32 mS32 oS32 qS33 iI197); (try clear j168); (try clear j180); (try clear j223); (try clear hk197); (try clear hr_waitTree); (try clear hf_waitTree); grind [XI, PI, PJ, BU, LV, LA_i, q_zz, q_za, q_zga, q_fza, q_fx, q_fga, q_gza, q_gfa, q_gx, q_zf1, q_zg1, q_ff, q_fg1, q_gf1, q_gg, ti_link]))
    have fS34 : S34.1 4 = 0 → Sl197.1 4 = 0 := fun q => (hF5.1 4 (by decide)).symm.trans q
    have nS34 : NC Sl197 S34 := NC_fr hF5 (by decide) (by decide) fS34
    have mS34 : NA Sl197 S34 := NA_fr hF5 (by decide) (by decide) fS34
    have oS34 : NO nx Sl197 S34 := NO_fr hF5 (by decide) (by decide)
    have z4_S34 := hF5.1 4 (by decide)
    have z6_S34 := hF5.1 6 (by decide)
    have z7_S34 := hF5.1 7 (by decide)
    have z8_S34 := hF5.1 8 (by decide)
    have z11_S34 := hF5.1 11 (by decide)
    have z12_S34 := hF5.1 12 (by decide)
    have z18_S34 := hF5.1 18 (by decide)
    have z19_S34 := hF5.1 19 (by decide)
    have f1_S34 := hF5.2.1 1 (by decide)
    have f1a_S34 := Fr_fa hF5 1 (by decide)
    have f2_S34 := hF5.2.1 2 (by decide)
    have f2a_S34 := Fr_fa hF5 2 (by decide)
    have f8_S34 := hF5.2.1 8 (by decide)
    have f8a_S34 := Fr_fa hF5 8 (by decide)
    have f46_S34 := hF5.2.1 46 (by decide)
    have f46a_S34 := Fr_fa hF5 46 (by decide)
    have f48_S34 := hF5.2.1 48 (by decide)
    have f48a_S34 := Fr_fa hF5 48 (by decide)
    have g3_S34 := hF5.2.2 3 (by decide)
    have g3a_S34 := Fr_ga hF5 3 (by decide)
    have g4_S34 := hF5.2.2 4 (by decide)
    have g4a_S34 := Fr_ga hF5 4 (by decide)
    clear hF5
    refine ⟨fun c6 => ?_, fun c6 => ?_⟩
    · refine fm_takeSign _ _ _ _ (fun S36 hF7 pS36 => ?_) (sg_takeSign (nx := nx) (n := n) (so := so) (pl := pl) (wo := wo) (ws := ws) _ (by (try clear hC hA hO hh iJ180 qS31 mS31 nS32 mS32 oS32 qS33 iI197 nS34 mS34 oS34); (try clear j168); (try clear j180); (try clear j223); (try clear hk197); (try clear hr_waitTree); (try clear hf_waitTree); grind [XI, PI, PJ, BU, LV, LA_i, q_zz, q_za, q_zga, q_fza, q_fx, q_fga, q_gza, q_gfa, q_gx, q_zf1, q_zg1, q_ff, q_fg1, q_gf1, q_gg, ti_link]))
      have fS36 : S36.1 4 = 0 → S34.1 4 = 0 := by (try clear hC hA hO hh iJ180 qS31 mS31 nS32 mS32 oS32 qS33 iI197 nS34 mS34 oS34); (try clear j168); (try clear j180); (try clear j223); (try clear hk197); (try clear hr_waitTree); (try clear hf_waitTree); grind [ti_link]
      have nS36 : NC S34 S36 := NC_fr hF7 (by decide) (by decide) fS36
      have mS36 : NA S34 S36 := NA_fr hF7 (by decide) (by decide) fS36
      have oS36 : NO nx S34 S36 := NO_fr hF7 (by decide) (by decide)
      have z6_S36 := hF7.1 6 (by decide)
      have z7_S36 := hF7.1 7 (by decide)
      have z8_S36 := hF7.1 8 (by decide)
      have z11_S36 := hF7.1 11 (by decide)
      have z12_S36 := hF7.1 12 (by decide)
      have z18_S36 := hF7.1 18 (by decide)
      have z19_S36 := hF7.1 19 (by decide)
      have f1_S36 := hF7.2.1 1 (by decide)
      have f1a_S36 := Fr_fa hF7 1 (by decide)
      have f2_S36 := hF7.2.1 2 (by decide)
      have f2a_S36 := Fr_fa hF7 2 (by decide)
      have f8_S36 := hF7.2.1 8 (by decide)
      have f8a_S36 := Fr_fa hF7 8 (by decide)
      have f46_S36 := hF7.2.1 46 (by decide)
      have f46a_S36 := Fr_fa hF7 46 (by decide)
      have f48_S36 := hF7.2.1 48 (by decide)
      have f48a_S36 := Fr_fa hF7 48 (by decide)
      have g3_S36 := hF7.2.2 3 (by decide)
      have g3a_S36 := Fr_ga hF7 3 (by decide)
      have g4_S36 := hF7.2.2 4 (by decide)
      have g4a_S36 := Fr_ga hF7 4 (by decide)
      clear hF7
      refine ⟨fun c8 => ?_, fun c8 => ?_⟩
      · unfold wp_waitTree_251
        refine fm_emit _ _ _ _ _ _ (fun S44 r44 hF9 pS44 => ?_) (sg_emit (nx := nx) _ _ _ (by (try clear hC hA hO hh iJ180 qS31 mS31 nS32 mS32 oS32 qS33 iI197 nS34 mS34 oS34 nS36 mS36 oS36); (try clear j168); (try clear j180); (try clear j223); (try clear hk197); (try clear hr_waitTree); (try clear hf_waitTree); grind [XI, PI, PJ, BU, LV, LA_i, q_zz, q_za, q_zga, q_fza, q_fx, q_fga, q_gza, q_gfa, q_gx, q_zf1, q_zg1, q_ff, q_fg1, q_gf1, q_gg, ti_link]))
        obtain ⟨pS44, qS44⟩ := pS44
        have fS44 : S44.1 4 = 0 → S36.1 4 = 0 := fun q => (hF9.1 4 (by decide)).symm.trans q
        have mS44 : NA S36 S44 := NA_fr hF9 (by decide) (by decide) fS44
        have z3_S44 := hF9.1 3 (by decide)
        have z4_S44 := hF9.1 4 (by decide)
        have z6_S44 := hF9.1 6 (by decide)
        have z8_S44 := hF9.1 8 (by decide)
        have z11_S44 := hF9.1 11 (by decide)
        have z12_S44 := hF9.1 12 (by decide)
        have z18_S44 := hF9.1 18 (by decide)
        have z19_S44 := hF9.1 19 (by decide)
        have f1_S44 := hF9.2.1 1 (by decide)
        have f1a_S44 := Fr_fa hF9 1 (by decide)
        have f2_S44 := hF9.2.1 2 (by decide)
        have f2a_S44 := Fr_fa hF9 2 (by decide)
        have f8_S44 := hF9.2.1 8 (by decide)
        have f8a_S44 := Fr_fa hF9 8 (by decide)
        have f46_S44 := hF9.2.1 46 (by decide)
        have f46a_S44 := Fr_fa hF9 46 (by decide)
        have f48_S44 := hF9.2.1 48 (by decide)
        have f48a_S44 := Fr_fa hF9 48 (by decide)
        have g3_S44 := hF9.2.2 3 (by decide)
        have g3a_S44 := Fr_ga hF9 3 (by decide)
        have g4_S44 := hF9.2.2 4 (by decide)
        have g4a_S44 := Fr_ga hF9 4 (by decide)
        clear hF9
        unfold wp_waitTree_256
        intro z28 ez28
        intro S29 eS29
        have nS29 : NC S44 S29 := NC_z eS29 (by decide)
        have mS29 : NA S44 S29 := NA_z eS29 (by decide)
        have oS29 : NO nx S44 S29 := NO_z eS29
        exact ⟨by (try clear hC hA hO hh iJ180 qS31 mS31 nS32 mS32 oS32 qS33 iI197 nS34 mS34 oS34 nS36 mS36 oS36 qS44 mS44 nS29 mS29 oS29); (try clear j168); (try clear j180); (try clear j223); (try clear hk197); (try clear hr_waitTree); (try clear hf_waitTree); grind [XI, PI, PJ, BU, LV, LA_i, q_zz, q_za, q_zga, q_fza, q_fx, q_fga, q_gza, q_gfa, q_gx, q_zf1, q_zg1, q_ff, q_fg1, q_gf1, q_gg, ti_link], by refine ⟨?_, ?_, ?_⟩ <;> ((try clear j168); (try clear j180); (try clear j223); (try clear hk197); (try clear hr_waitTree); (try clear hf_waitTree); clear hJ180 pS31 z3_S31 z4_S31 z6_S31 z8_S31 z11_S31 z12_S31 z18_S31 z19_S31 f1_S31 f1a_S31 f2_S31 f2a_S31 f8_S31 f8a_S31 f46_S31 f46a_S31 f48_S31 f48a_S31 g3_S31 g3a_S31 g4_S31 g4a_S31 pS32 z6_S32 z7_S32 z8_S32 z11_S32 z12_S32 z18_S32 z19_S32 f1_S32 f1a_S32 f2_S32 f2a_S32 f8_S32 f8a_S32 f46_S32 f46a_S32 f48_S32 f48a_S32 g3_S32 g3a_S32 g4_S32 g4a_S32 pS33 z6_S33 z12_S33 f1_S33 f1a_S33 f2_S33 f2a_S33 g3_S33 g3a_S33 g4_S33 g4a_S33 hI197 pS34 z4_S34 z6_S34 z7_S34 z8_S34 z11_S34 z12_S34 z18_S34 z19_S34 f1_S34 f1a_S34 f2_S34 f2a_S34 f8_S34 f8a_S34 f46_S34 f46a_S34 f48_S34 f48a_S34 g3_S34 g3a_S34 g4_S34 g4a_S34 pS36 z6_S36 z7_S36 z8_S36 z11_S36 z12_S36 z18_S36 z19_S36 f1_S36 f1a_S36 f2_S36 f2a_S36 f8_S36 f8a_S36 f46_S36 f46a_S36 f48_S36 f48a_S36 g3_S36 g3a_S36 g4_S36 g4a_S36 pS44 z3_S44 z4_S44 z6_S44 z8_S44 z11_S44 z12_S44 z18_S44 z19_S44 f1_S44 f1a_S44 f2_S44 f2a_S44 f8_S44 f8a_S44 f46_S44 f46a_S44 f48_S44 f48a_S44 g3_S44 g3a_S44 g4_S44 g4a_S44; grind (ematch := 20) (gen := 20) [→ LV_d, → CF_tick0, → CF_open20, → CF_nc, → AF_na, → OH_no, → CF_step, → CF_e0, → CF_letter, → CF_tick, → CF_yield, → CF_open2, → CF_openv, → CF_shut, ti_link])⟩
      · unfold wp_waitTree_251
        refine fm_emit _ _ _ _ _ _ (fun S44 r44 hF10 pS44 => ?_) (sg_emit (nx := nx) _ _ _ (by (try clear hC hA hO hh iJ180 qS31 mS31 nS32 mS32 oS32 qS33 iI197 nS34 mS34 oS34 nS36 mS36 oS36); (try clear j168); (try clear j180); (try clear j223); (try clear hk197); (try clear hr_waitTree); (try clear hf_waitTree); grind [XI, PI, PJ, BU, LV, LA_i, q_zz, q_za, q_zga, q_fza, q_fx, q_fga, q_gza, q_gfa, q_gx, q_zf1, q_zg1, q_ff, q_fg1, q_gf1, q_gg, ti_link]))
        obtain ⟨pS44, qS44⟩ := pS44
        have fS44 : S44.1 4 = 0 → S36.1 4 = 0 := fun q => (hF10.1 4 (by decide)).symm.trans q
        have mS44 : NA S36 S44 := NA_fr hF10 (by decide) (by decide) fS44
        have z3_S44 := hF10.1 3 (by decide)
        have z4_S44 := hF10.1 4 (by decide)
        have z6_S44 := hF10.1 6 (by decide)
        have z8_S44 := hF10.1 8 (by decide)
        have z11_S44 := hF10.1 11 (by decide)
        have z12_S44 := hF10.1 12 (by decide)
        have z18_S44 := hF10.1 18 (by decide)
        have z19_S44 := hF10.1 19 (by decide)
        have f1_S44 := hF10.2.1 1 (by decide)
        have f1a_S44 := Fr_fa hF10 1 (by decide)
        have f2_S44 := hF10.2.1 2 (by decide)
        have f2a_S44 := Fr_fa hF10 2 (by decide)
        have f8_S44 := hF10.2.1 8 (by decide)
        have f8a_S44 := Fr_fa hF10 8 (by decide)
        have f46_S44 := hF10.2.1 46 (by decide)
        have f46a_S44 := Fr_fa hF10 46 (by decide)
        have f48_S44 := hF10.2.1 48 (by decide)
        have f48a_S44 := Fr_fa hF10 48 (by decide)
        have g3_S44 := hF10.2.2 3 (by decide)
        have g3a_S44 := Fr_ga hF10 3 (by decide)
        have g4_S44 := hF10.2.2 4 (by decide)
        have g4a_S44 := Fr_ga hF10 4 (by decide)
        clear hF10
        unfold wp_waitTree_256
        intro z28 ez28
        intro S29 eS29
        have nS29 : NC S44 S29 := NC_z eS29 (by decide)
        have mS29 : NA S44 S29 := NA_z eS29 (by decide)
        have oS29 : NO nx S44 S29 := NO_z eS29
        exact ⟨by (try clear hC hA hO hh iJ180 qS31 mS31 nS32 mS32 oS32 qS33 iI197 nS34 mS34 oS34 nS36 mS36 oS36 qS44 mS44 nS29 mS29 oS29); (try clear j168); (try clear j180); (try clear j223); (try clear hk197); (try clear hr_waitTree); (try clear hf_waitTree); grind [XI, PI, PJ, BU, LV, LA_i, q_zz, q_za, q_zga, q_fza, q_fx, q_fga, q_gza, q_gfa, q_gx, q_zf1, q_zg1, q_ff, q_fg1, q_gf1, q_gg, ti_link], by refine ⟨?_, ?_, ?_⟩ <;> ((try clear j168); (try clear j180); (try clear j223); (try clear hk197); (try clear hr_waitTree); (try clear hf_waitTree); clear hJ180 pS31 z3_S31 z4_S31 z6_S31 z8_S31 z11_S31 z12_S31 z18_S31 z19_S31 f1_S31 f1a_S31 f2_S31 f2a_S31 f8_S31 f8a_S31 f46_S31 f46a_S31 f48_S31 f48a_S31 g3_S31 g3a_S31 g4_S31 g4a_S31 pS32 z6_S32 z7_S32 z8_S32 z11_S32 z12_S32 z18_S32 z19_S32 f1_S32 f1a_S32 f2_S32 f2a_S32 f8_S32 f8a_S32 f46_S32 f46a_S32 f48_S32 f48a_S32 g3_S32 g3a_S32 g4_S32 g4a_S32 pS33 z6_S33 z12_S33 f1_S33 f1a_S33 f2_S33 f2a_S33 g3_S33 g3a_S33 g4_S33 g4a_S33 hI197 pS34 z4_S34 z6_S34 z7_S34 z8_S34 z11_S34 z12_S34 z18_S34 z19_S34 f1_S34 f1a_S34 f2_S34 f2a_S34 f8_S34 f8a_S34 f46_S34 f46a_S34 f48_S34 f48a_S34 g3_S34 g3a_S34 g4_S34 g4a_S34 pS36 z6_S36 z7_S36 z8_S36 z11_S36 z12_S36 z18_S36 z19_S36 f1_S36 f1a_S36 f2_S36 f2a_S36 f8_S36 f8a_S36 f46_S36 f46a_S36 f48_S36 f48a_S36 g3_S36 g3a_S36 g4_S36 g4a_S36 pS44 z3_S44 z4_S44 z6_S44 z8_S44 z11_S44 z12_S44 z18_S44 z19_S44 f1_S44 f1a_S44 f2_S44 f2a_S44 f8_S44 f8a_S44 f46_S44 f46a_S44 f48_S44 f48a_S44 g3_S44 g3a_S44 g4_S44 g4a_S44; grind (ematch := 20) (gen := 20) [→ LV_d, → CF_tick0, → CF_open20, → CF_nc, → AF_na, → OH_no, → CF_step, → CF_e0, → CF_letter, → CF_tick, → CF_yield, → CF_open2, → CF_openv, → CF_shut, ti_link])⟩
    · refine ⟨fun c11 => ?_, fun c11 => ?_⟩
      · exact j223 _ _ _ (⟨by (try clear hC hA hO hh iJ180 qS31 mS31 nS32 mS32 oS32 qS33 iI197 nS34 mS34 oS34); (try clear j168); (try clear j180); (try clear j223); (try clear hk197); (try clear hr_waitTree); (try clear hf_waitTree); grind [XI, PI, PJ, BU, LV, LA_i, q_zz, q_za, q_zga, q_fza, q_fx, q_fga, q_gza, q_gfa, q_gx, q_zf1, q_zg1, q_ff, q_fg1, q_gf1, q_gg, ti_link], by refine ⟨?_, ?_, ?_⟩ <;> ((try clear j168); (try clear j180); (try clear j223); (try clear hk197); (try clear hr_waitTree); (try clear hf_waitTree); clear hJ180 pS31 z3_S31 z4_S31 z6_S31 z8_S31 z11_S31 z12_S31 z18_S31 z19_S31 f1_S31 f1a_S31 f2_S31 f2a_S31 f8_S31 f8a_S31 f46_S31 f46a_S31 f48_S31 f48a_S31 g3_S31 g3a_S31 g4_S31 g4a_S31 pS32 z6_S32 z7_S32 z8_S32 z11_S32 z12_S32 z18_S32 z19_S32 f1_S32 f1a_S32 f2_S32 f2a_S32 f8_S32 f8a_S32 f46_S32 f46a_S32 f48_S32 f48a_S32 g3_S32 g3a_S32 g4_S32 g4a_S32 pS33 z6_S33 z12_S33 f1_S33 f1a_S33 f2_S33 f2a_S33 g3_S33 g3a_S33 g4_S33 g4a_S33 hI197 pS34 z4_S34 z6_S34 z7_S34 z8_S34 z11_S34 z12_S34 z18_S34 z19_S34 f1_S34 f1a_S34 f2_S34 f2a_S34 f8_S34 f8a_S34 f46_S34 f46a_S34 f48_S34 f48a_S34 g3_S34 g3a_S34 g4_S34 g4a_S34; grind (ematch := 20) (gen := 20) [→ LV_d, → CF_tick0, → CF_open20, → CF_nc, → AF_na, → OH_no, → CF_step, → CF_e0, → CF_letter, → CF_tick, → CF_yield, → CF_open2, → CF_openv, → CF_shut, ti_link])⟩)
      · refine fm_isWait _ _ _ (fun S39 r39 hF12 pS39 => ?_) (sg_isWait (nx := nx) (n := n) (so := so) (pl := pl) (wo := wo) (ws := ws) (by (try clear hC hA hO hh iJ180 qS31 mS31 nS32 mS32 oS32 qS33 iI197 nS34 mS34 oS34); (try clear j168); (try clear j180); (try clear j223); (try clear hk197); (try clear hr_waitTree); (try clear hf_waitTree); grind [XI, PI, PJ, BU, LV, LA_i, q_zz, q_za, q_zga, q_fza, q_fx, q_fga, q_gza, q_gfa, q_gx, q_zf1, q_zg1, q_ff, q_fg1, q_gf1, q_gg, ti_link]))
        have fS39 : S39.1 4 = 0 → S34.1 4 = 0 := fun q => (hF12.1 4 (by decide)).symm.trans q
        have nS39 : NC S34 S39 := NC_fr hF12 (by decide) (by decide) fS39
        have mS39 : NA S34 S39 := NA_fr hF12 (by decide) (by decide) fS39
        have oS39 : NO nx S34 S39 := NO_fr hF12 (by decide) (by decide)
        have z3_S39 := hF12.1 3 (by decide)
        have z4_S39 := hF12.1 4 (by decide)
        have z6_S39 := hF12.1 6 (by decide)
        have z7_S39 := hF12.1 7 (by decide)
        have z8_S39 := hF12.1 8 (by decide)
        have z11_S39 := hF12.1 11 (by decide)
        have z12_S39 := hF12.1 12 (by decide)
        have z18_S39 := hF12.1 18 (by decide)
        have z19_S39 := hF12.1 19 (by decide)
        have f1_S39 := hF12.2.1 1 (by decide)
        have f1a_S39 := Fr_fa hF12 1 (by decide)
        have f2_S39 := hF12.2.1 2 (by decide)
        have f2a_S39 := Fr_fa hF12 2 (by decide)
        have f8_S39 := hF12.2.1 8 (by decide)
        have f8a_S39 := Fr_fa hF12 8 (by decide)
        have f46_S39 := hF12.2.1 46 (by decide)
        have f46a_S39 := Fr_fa hF12 46 (by decide)
        have f48_S39 := hF12.2.1 48 (by decide)
        have f48a_S39 := Fr_fa hF12 48 (by decide)
        have g3_S39 := hF12.2.2 3 (by decide)
        have g3a_S39 := Fr_ga hF12 3 (by decide)
        have g4_S39 := hF12.2.2 4 (by decide)
        have g4a_S39 := Fr_ga hF12 4 (by decide)
        clear hF12
        refine ⟨fun c13 => ?_, fun c13 => ?_⟩
        · exact j223 _ _ _ (⟨by (try clear hC hA hO hh iJ180 qS31 mS31 nS32 mS32 oS32 qS33 iI197 nS34 mS34 oS34 nS39 mS39 oS39); (try clear j168); (try clear j180); (try clear j223); (try clear hk197); (try clear hr_waitTree); (try clear hf_waitTree); grind [XI, PI, PJ, BU, LV, LA_i, q_zz, q_za, q_zga, q_fza, q_fx, q_fga, q_gza, q_gfa, q_gx, q_zf1, q_zg1, q_ff, q_fg1, q_gf1, q_gg, ti_link], by refine ⟨?_, ?_, ?_⟩ <;> ((try clear j168); (try clear j180); (try clear j223); (try clear hk197); (try clear hr_waitTree); (try clear hf_waitTree); clear hJ180 pS31 z3_S31 z4_S31 z6_S31 z8_S31 z11_S31 z12_S31 z18_S31 z19_S31 f1_S31 f1a_S31 f2_S31 f2a_S31 f8_S31 f8a_S31 f46_S31 f46a_S31 f48_S31 f48a_S31 g3_S31 g3a_S31 g4_S31 g4a_S31 pS32 z6_S32 z7_S32 z8_S32 z11_S32 z12_S32 z18_S32 z19_S32 f1_S32 f1a_S32 f2_S32 f2a_S32 f8_S32 f8a_S32 f46_S32 f46a_S32 f48_S32 f48a_S32 g3_S32 g3a_S32 g4_S32 g4a_S32 pS33 z6_S33 z12_S33 f1_S33 f1a_S33 f2_S33 f2a_S33 g3_S33 g3a_S33 g4_S33 g4a_S33 hI197 pS34 z4_S34 z6_S34 z7_S34 z8_S34 z11_S34 z12_S34 z18_S34 z19_S34 f1_S34 f1a_S34 f2_S34 f2a_S34 f8_S34 f8a_S34 f46_S34 f46a_S34 f48_S34 f48a_S34 g3_S34 g3a_S34 g4_S34 g4a_S34 pS39 z3_S39 z4_S39 z6_S39 z7_S39 z8_S39 z11_S39 z12_S39 z18_S39 z19_S39 f1_S39 f1a_S39 f2_S39 f2a_S39 f8_S39 f8a_S39 f46_S39 f46a_S39 f48_S39 f48a_S39 g3_S39 g3a_S39 g4_S39 g4a_S39; grind (ematch := 20) (gen := 20) [→ LV_d, → CF_tick0, → CF_open20, → CF_nc, → AF_na, → OH_no, → CF_step, → CF_e0, → CF_letter, → CF_tick, → CF_yield, → CF_open2, → CF_openv, → CF_shut, ti_link])⟩)
        · refine fm_wrong _ _ _ _ (fun S41 hF14 pS41 => ?_) (sg_wrong (nx := nx) (n := n) (so := so) (pl := pl) (wo := wo) (ws := ws) _ (by (try clear hC hA hO hh iJ180 qS31 mS31 nS32 mS32 oS32 qS33 iI197 nS34 mS34 oS34 nS39 mS39 oS39); (try clear j168); (try clear j180); (try clear j223); (try clear hk197); (try clear hr_waitTree); (try clear hf_waitTree); grind [XI, PI, PJ, BU, LV, LA_i, q_zz, q_za, q_zga, q_fza, q_fx, q_fga, q_gza, q_gfa, q_gx, q_zf1, q_zg1, q_ff, q_fg1, q_gf1, q_gg, ti_link]) (by (try clear hC hA hO hh iJ180 qS31 mS31 nS32 mS32 oS32 qS33 iI197 nS34 mS34 oS34 nS39 mS39 oS39); (try clear j168); (try clear j180); (try clear j223); (try clear hk197); (try clear hr_waitTree); (try clear hf_waitTree); grind [XI, PI, PJ, BU, LV, LA_i, q_zz, q_za, q_zga, q_fza, q_fx, q_fga, q_gza, q_gfa, q_gx, q_zf1, q_zg1, q_ff, q_fg1, q_gf1, q_gg, ti_link]))
          have fS41 : S41.1 4 = 0 → S39.1 4 = 0 := by (try clear hC hA hO hh iJ180 qS31 mS31 nS32 mS32 oS32 qS33 iI197 nS34 mS34 oS34 nS39 mS39 oS39); (try clear j168); (try clear j180); (try clear j223); (try clear hk197); (try clear hr_waitTree); (try clear hf_waitTree); grind [ti_link]
          have nS41 : NC S39 S41 := NC_fr hF14 (by decide) (by decide) fS41
          have mS41 : NA S39 S41 := NA_fr hF14 (by decide) (by decide) fS41
          have oS41 : NO nx S39 S41 := NO_fr hF14 (by decide) (by decide)
          have z3_S41 := hF14.1 3 (by decide)
          have z6_S41 := hF14.1 6 (by decide)
          have z7_S41 := hF14.1 7 (by decide)
          have z8_S41 := hF14.1 8 (by decide)
          have z11_S41 := hF14.1 11 (by decide)
          have z12_S41 := hF14.1 12 (by decide)
          have z18_S41 := hF14.1 18 (by decide)
          have z19_S41 := hF14.1 19 (by decide)
          have f1_S41 := hF14.2.1 1 (by decide)
          have f1a_S41 := Fr_fa hF14 1 (by decide)
          have f2_S41 := hF14.2.1 2 (by decide)
          have f2a_S41 := Fr_fa hF14 2 (by decide)
          have f8_S41 := hF14.2.1 8 (by decide)
          have f8a_S41 := Fr_fa hF14 8 (by decide)
          have f46_S41 := hF14.2.1 46 (by decide)
          have f46a_S41 := Fr_fa hF14 46 (by decide)
          have f48_S41 := hF14.2.1 48 (by decide)
          have f48a_S41 := Fr_fa hF14 48 (by decide)
          have g3_S41 := hF14.2.2 3 (by decide)
          have g3a_S41 := Fr_ga hF14 3 (by decide)
          have g4_S41 := hF14.2.2 4 (by decide)
          have g4a_S41 := Fr_ga hF14 4 (by decide)
          clear hF14
          exact j223 _ _ _ (⟨by (try clear hC hA hO hh iJ180 qS31 mS31 nS32 mS32 oS32 qS33 iI197 nS34 mS34 oS34 nS39 mS39 oS39 nS41 mS41 oS41); (try clear j168); (try clear j180); (try clear j223); (try clear hk197); (try clear hr_waitTree); (try clear hf_waitTree); grind [XI, PI, PJ, BU, LV, LA_i, q_zz, q_za, q_zga, q_fza, q_fx, q_fga, q_gza, q_gfa, q_gx, q_zf1, q_zg1, q_ff, q_fg1, q_gf1, q_gg, ti_link], by refine ⟨?_, ?_, ?_⟩ <;> ((try clear j168); (try clear j180); (try clear j223); (try clear hk197); (try clear hr_waitTree); (try clear hf_waitTree); clear hJ180 pS31 z3_S31 z4_S31 z6_S31 z8_S31 z11_S31 z12_S31 z18_S31 z19_S31 f1_S31 f1a_S31 f2_S31 f2a_S31 f8_S31 f8a_S31 f46_S31 f46a_S31 f48_S31 f48a_S31 g3_S31 g3a_S31 g4_S31 g4a_S31 pS32 z6_S32 z7_S32 z8_S32 z11_S32 z12_S32 z18_S32 z19_S32 f1_S32 f1a_S32 f2_S32 f2a_S32 f8_S32 f8a_S32 f46_S32 f46a_S32 f48_S32 f48a_S32 g3_S32 g3a_S32 g4_S32 g4a_S32 pS33 z6_S33 z12_S33 f1_S33 f1a_S33 f2_S33 f2a_S33 g3_S33 g3a_S33 g4_S33 g4a_S33 hI197 pS34 z4_S34 z6_S34 z7_S34 z8_S34 z11_S34 z12_S34 z18_S34 z19_S34 f1_S34 f1a_S34 f2_S34 f2a_S34 f8_S34 f8a_S34 f46_S34 f46a_S34 f48_S34 f48a_S34 g3_S34 g3a_S34 g4_S34 g4a_S34 pS39 z3_S39 z4_S39 z6_S39 z7_S39 z8_S39 z11_S39 z12_S39 z18_S39 z19_S39 f1_S39 f1a_S39 f2_S39 f2a_S39 f8_S39 f8a_S39 f46_S39 f46a_S39 f48_S39 f48a_S39 g3_S39 g3a_S39 g4_S39 g4a_S39 pS41 z3_S41 z6_S41 z7_S41 z8_S41 z11_S41 z12_S41 z18_S41 z19_S41 f1_S41 f1a_S41 f2_S41 f2a_S41 f8_S41 f8a_S41 f46_S41 f46a_S41 f48_S41 f48a_S41 g3_S41 g3a_S41 g4_S41 g4a_S41; grind (ematch := 20) (gen := 20) [→ LV_d, → CF_tick0, → CF_open20, → CF_nc, → AF_na, → OH_no, → CF_step, → CF_e0, → CF_letter, → CF_tick, → CF_yield, → CF_open2, → CF_openv, → CF_shut, ti_link])⟩)
  have j168 : ∀ (x2 : Int32) (Sx : mS), (XI nx n so pl wo ws S0 (d + 1) (G - 3) GA (1000 - 40 * (d + 1) - 20) (400 - 20 * (d + 1) - 10) Sx ∧ ((Sx.1 4) = 0 → (S.1 4) = 0 ∧ (S.1 3).toInt < (Sx.1 3).toInt) ∧ (S.1 8).toInt ≤ (Sx.1 8).toInt ∧ d + 1 ≤ 10) ∧ (CF nx kL kn kw 0 0 1 (kc + 1) ko kt Sx ∧ AF nx km Sx ∧ OH nx S0 Sx) → wp_waitTree_168 r_waitTree (fun S1 => (XI nx n so pl wo ws S0 d G GA X Y S1 ∧ ((S1.1 4) = 0 → (S.1 4) = 0 ∧ (S.1 3).toInt < (S1.1 3).toInt) ∧ (S.1 8).toInt ≤ (S1.1 8).toInt) ∧ (CF nx kL kn kw 0 0 1 kc ko kt S1 ∧ AF nx km S1 ∧ OH nx S0 S1)) x2 Sx := by
    intro x2 Sx hJ168
    unfold wp_waitTree_168
    obtain ⟨hJ168, iJ168⟩ := hJ168
    refine ⟨fun c15 => ?_, fun c15 => ?_⟩
    · exact j180 _ _ _ _ (⟨by (try clear hC hA hO hh iJ168); (try clear j168); (try clear j180); (try clear j223); (try clear hk197); (try clear hr_waitTree); (try clear hf_waitTree); grind [XI, PI, PJ, BU, LV, LA_i, q_zz, q_za, q_zga, q_fza, q_fx, q_fga, q_gza, q_gfa, q_gx, q_zf1, q_zg1, q_ff, q_fg1, q_gf1, q_gg, ti_link], by refine ⟨?_, ?_, ?_, ?_, ?_, ?_⟩ <;> ((try clear j168); (try clear j180); (try clear j223); (try clear hk197); (try clear hr_waitTree); (try clear hf_waitTree); clear hJ168; grind (ematch := 20) (gen := 20) [→ LV_d, → CF_tick0, → CF_open20, → CF_nc, → AF_na, → OH_no, → CF_step, → CF_e0, → CF_letter, → CF_tick, → CF_yield, → CF_open2, → CF_openv, → CF_shut, ti_link])⟩)
    · exact j180 _ _ _ _ (⟨by (try clear hC hA hO hh iJ168); (try clear j168); (try clear j180); (try clear j223); (try clear hk197); (try clear hr_waitTree); (try clear hf_waitTree); grind [XI, PI, PJ, BU, LV, LA_i, q_zz, q_za, q_zga, q_fza, q_fx, q_fga, q_gza, q_gfa, q_gx, q_zf1, q_zg1, q_ff, q_fg1, q_gf1, q_gg, ti_link], by refine ⟨?_, ?_, ?_, ?_, ?_, ?_⟩ <;> ((try clear j168); (try clear j180); (try clear j223); (try clear hk197); (try clear hr_waitTree); (try clear hf_waitTree); clear hJ168; grind (ematch := 20) (gen := 20) [→ LV_d, → CF_tick0, → CF_open20, → CF_nc, → AF_na, → OH_no, → CF_step, → CF_e0, → CF_letter, → CF_tick, → CF_yield, → CF_open2, → CF_openv, → CF_shut, ti_link])⟩)
  refine fm_isWait _ _ _ (fun S1 r1 hF16 pS1 => ?_) (sg_isWait (nx := nx) (n := n) (so := so) (pl := pl) (wo := wo) (ws := ws) (by (try clear hC hA hO hh); (try clear j168); (try clear j180); (try clear j223); (try clear hk197); (try clear hr_waitTree); (try clear hf_waitTree); grind [XI, PI, PJ, BU, LV, LA_i, q_zz, q_za, q_zga, q_fza, q_fx, q_fga, q_gza, q_gfa, q_gx, q_zf1, q_zg1, q_ff, q_fg1, q_gf1, q_gg, ti_link]))
  have fS1 : S1.1 4 = 0 → S.1 4 = 0 := fun q => (hF16.1 4 (by decide)).symm.trans q
  have nS1 : NC S S1 := NC_fr hF16 (by decide) (by decide) fS1
  have mS1 : NA S S1 := NA_fr hF16 (by decide) (by decide) fS1
  have oS1 : NO nx S S1 := NO_fr hF16 (by decide) (by decide)
  have z3_S1 := hF16.1 3 (by decide)
  have z4_S1 := hF16.1 4 (by decide)
  have z6_S1 := hF16.1 6 (by decide)
  have z7_S1 := hF16.1 7 (by decide)
  have z8_S1 := hF16.1 8 (by decide)
  have z11_S1 := hF16.1 11 (by decide)
  have z12_S1 := hF16.1 12 (by decide)
  have z18_S1 := hF16.1 18 (by decide)
  have z19_S1 := hF16.1 19 (by decide)
  have f1_S1 := hF16.2.1 1 (by decide)
  have f1a_S1 := Fr_fa hF16 1 (by decide)
  have f2_S1 := hF16.2.1 2 (by decide)
  have f2a_S1 := Fr_fa hF16 2 (by decide)
  have f8_S1 := hF16.2.1 8 (by decide)
  have f8a_S1 := Fr_fa hF16 8 (by decide)
  have f46_S1 := hF16.2.1 46 (by decide)
  have f46a_S1 := Fr_fa hF16 46 (by decide)
  have f48_S1 := hF16.2.1 48 (by decide)
  have f48a_S1 := Fr_fa hF16 48 (by decide)
  have g3_S1 := hF16.2.2 3 (by decide)
  have g3a_S1 := Fr_ga hF16 3 (by decide)
  have g4_S1 := hF16.2.2 4 (by decide)
  have g4a_S1 := Fr_ga hF16 4 (by decide)
  clear hF16
  refine fm_within _ _ _ _ (fun S2 hF17 pS2 => ?_) (sg_within (nx := nx) (n := n) (so := so) (pl := pl) (wo := wo) (ws := ws) _ (by (try clear hC hA hO hh nS1 mS1 oS1); (try clear j168); (try clear j180); (try clear j223); (try clear hk197); (try clear hr_waitTree); (try clear hf_waitTree); grind [XI, PI, PJ, BU, LV, LA_i, q_zz, q_za, q_zga, q_fza, q_fx, q_fga, q_gza, q_gfa, q_gx, q_zf1, q_zg1, q_ff, q_fg1, q_gf1, q_gg, ti_link]) (by (try clear hC hA hO hh nS1 mS1 oS1); (try clear j168); (try clear j180); (try clear j223); (try clear hk197); (try clear hr_waitTree); (try clear hf_waitTree); grind [XI, PI, PJ, BU, LV, LA_i, q_zz, q_za, q_zga, q_fza, q_fx, q_fga, q_gza, q_gfa, q_gx, q_zf1, q_zg1, q_ff, q_fg1, q_gf1, q_gg, ti_link]))
  have fS2 : S2.1 4 = 0 → S1.1 4 = 0 := by (try clear hC hA hO hh nS1 mS1 oS1); (try clear j168); (try clear j180); (try clear j223); (try clear hk197); (try clear hr_waitTree); (try clear hf_waitTree); grind [ti_link]
  have nS2 : NC S1 S2 := NC_fr hF17 (by decide) (by decide) fS2
  have mS2 : NA S1 S2 := NA_fr hF17 (by decide) (by decide) fS2
  have oS2 : NO nx S1 S2 := NO_fr hF17 (by decide) (by decide)
  have z3_S2 := hF17.1 3 (by decide)
  have z6_S2 := hF17.1 6 (by decide)
  have z7_S2 := hF17.1 7 (by decide)
  have z8_S2 := hF17.1 8 (by decide)
  have z11_S2 := hF17.1 11 (by decide)
  have z12_S2 := hF17.1 12 (by decide)
  have z19_S2 := hF17.1 19 (by decide)
  have f1_S2 := hF17.2.1 1 (by decide)
  have f1a_S2 := Fr_fa hF17 1 (by decide)
  have f2_S2 := hF17.2.1 2 (by decide)
  have f2a_S2 := Fr_fa hF17 2 (by decide)
  have f8_S2 := hF17.2.1 8 (by decide)
  have f8a_S2 := Fr_fa hF17 8 (by decide)
  have f46_S2 := hF17.2.1 46 (by decide)
  have f46a_S2 := Fr_fa hF17 46 (by decide)
  have f48_S2 := hF17.2.1 48 (by decide)
  have f48a_S2 := Fr_fa hF17 48 (by decide)
  have g3_S2 := hF17.2.2 3 (by decide)
  have g3a_S2 := Fr_ga hF17 3 (by decide)
  have g4_S2 := hF17.2.2 4 (by decide)
  have g4a_S2 := Fr_ga hF17 4 (by decide)
  clear hF17
  refine ⟨fun c18 => ?_, fun c18 => ?_⟩
  · refine fm_emit _ _ _ _ _ _ (fun S4 r4 hF19 pS4 => ?_) (sg_emit (nx := nx) _ _ _ (by (try clear hC hA hO hh nS1 mS1 oS1 nS2 mS2 oS2); (try clear j168); (try clear j180); (try clear j223); (try clear hk197); (try clear hr_waitTree); (try clear hf_waitTree); grind [XI, PI, PJ, BU, LV, LA_i, q_zz, q_za, q_zga, q_fza, q_fx, q_fga, q_gza, q_gfa, q_gx, q_zf1, q_zg1, q_ff, q_fg1, q_gf1, q_gg, ti_link]))
    obtain ⟨pS4, qS4⟩ := pS4
    have fS4 : S4.1 4 = 0 → S2.1 4 = 0 := fun q => (hF19.1 4 (by decide)).symm.trans q
    have mS4 : NA S2 S4 := NA_fr hF19 (by decide) (by decide) fS4
    have z3_S4 := hF19.1 3 (by decide)
    have z4_S4 := hF19.1 4 (by decide)
    have z6_S4 := hF19.1 6 (by decide)
    have z8_S4 := hF19.1 8 (by decide)
    have z11_S4 := hF19.1 11 (by decide)
    have z12_S4 := hF19.1 12 (by decide)
    have z18_S4 := hF19.1 18 (by decide)
    have z19_S4 := hF19.1 19 (by decide)
    have f1_S4 := hF19.2.1 1 (by decide)
    have f1a_S4 := Fr_fa hF19 1 (by decide)
    have f2_S4 := hF19.2.1 2 (by decide)
    have f2a_S4 := Fr_fa hF19 2 (by decide)
    have f8_S4 := hF19.2.1 8 (by decide)
    have f8a_S4 := Fr_fa hF19 8 (by decide)
    have f46_S4 := hF19.2.1 46 (by decide)
    have f46a_S4 := Fr_fa hF19 46 (by decide)
    have f48_S4 := hF19.2.1 48 (by decide)
    have f48a_S4 := Fr_fa hF19 48 (by decide)
    have g3_S4 := hF19.2.2 3 (by decide)
    have g3a_S4 := Fr_ga hF19 3 (by decide)
    have g4_S4 := hF19.2.2 4 (by decide)
    have g4a_S4 := Fr_ga hF19 4 (by decide)
    clear hF19
    refine fm_hasWord _ _ _ _ (fun S5 r5 hF20 pS5 => ?_) (sg_hasWord (nx := nx) (n := n) (so := so) (pl := pl) (wo := wo) (ws := ws) _ (by (try clear hC hA hO hh nS1 mS1 oS1 nS2 mS2 oS2 qS4 mS4); (try clear j168); (try clear j180); (try clear j223); (try clear hk197); (try clear hr_waitTree); (try clear hf_waitTree); grind [XI, PI, PJ, BU, LV, LA_i, q_zz, q_za, q_zga, q_fza, q_fx, q_fga, q_gza, q_gfa, q_gx, q_zf1, q_zg1, q_ff, q_fg1, q_gf1, q_gg, ti_link]) (by (try clear hC hA hO hh nS1 mS1 oS1 nS2 mS2 oS2 qS4 mS4); (try clear j168); (try clear j180); (try clear j223); (try clear hk197); (try clear hr_waitTree); (try clear hf_waitTree); grind [XI, PI, PJ, BU, LV, LA_i, q_zz, q_za, q_zga, q_fza, q_fx, q_fga, q_gza, q_gfa, q_gx, q_zf1, q_zg1, q_ff, q_fg1, q_gf1, q_gg, ti_link]))
    have fS5 : S5.1 4 = 0 → S4.1 4 = 0 := fun q => (hF20.1 4 (by decide)).symm.trans q
    have nS5 : NC S4 S5 := NC_fr hF20 (by decide) (by decide) fS5
    have mS5 : NA S4 S5 := NA_fr hF20 (by decide) (by decide) fS5
    have oS5 : NO nx S4 S5 := NO_fr hF20 (by decide) (by decide)
    have z4_S5 := hF20.1 4 (by decide)
    have z6_S5 := hF20.1 6 (by decide)
    have z7_S5 := hF20.1 7 (by decide)
    have z8_S5 := hF20.1 8 (by decide)
    have z11_S5 := hF20.1 11 (by decide)
    have z12_S5 := hF20.1 12 (by decide)
    have z18_S5 := hF20.1 18 (by decide)
    have z19_S5 := hF20.1 19 (by decide)
    have f1_S5 := hF20.2.1 1 (by decide)
    have f1a_S5 := Fr_fa hF20 1 (by decide)
    have f2_S5 := hF20.2.1 2 (by decide)
    have f2a_S5 := Fr_fa hF20 2 (by decide)
    have f8_S5 := hF20.2.1 8 (by decide)
    have f8a_S5 := Fr_fa hF20 8 (by decide)
    have f46_S5 := hF20.2.1 46 (by decide)
    have f46a_S5 := Fr_fa hF20 46 (by decide)
    have f48_S5 := hF20.2.1 48 (by decide)
    have f48a_S5 := Fr_fa hF20 48 (by decide)
    have g3_S5 := hF20.2.2 3 (by decide)
    have g3a_S5 := Fr_ga hF20 3 (by decide)
    have g4_S5 := hF20.2.2 4 (by decide)
    have g4a_S5 := Fr_ga hF20 4 (by decide)
    clear hF20
    refine ⟨fun c21 => ?_, fun c21 => ?_⟩
    · refine fm_hasWord _ _ _ _ (fun S7 r7 hF22 pS7 => ?_) (sg_hasWord (nx := nx) (n := n) (so := so) (pl := pl) (wo := wo) (ws := ws) _ (by (try clear hC hA hO hh nS1 mS1 oS1 nS2 mS2 oS2 qS4 mS4 nS5 mS5 oS5); (try clear j168); (try clear j180); (try clear j223); (try clear hk197); (try clear hr_waitTree); (try clear hf_waitTree); grind [XI, PI, PJ, BU, LV, LA_i, q_zz, q_za, q_zga, q_fza, q_fx, q_fga, q_gza, q_gfa, q_gx, q_zf1, q_zg1, q_ff, q_fg1, q_gf1, q_gg, ti_link]) (by (try clear hC hA hO hh nS1 mS1 oS1 nS2 mS2 oS2 qS4 mS4 nS5 mS5 oS5); (try clear j168); (try clear j180); (try clear j223); (try clear hk197); (try clear hr_waitTree); (try clear hf_waitTree); grind [XI, PI, PJ, BU, LV, LA_i, q_zz, q_za, q_zga, q_fza, q_fx, q_fga, q_gza, q_gfa, q_gx, q_zf1, q_zg1, q_ff, q_fg1, q_gf1, q_gg, ti_link]))
      have fS7 : S7.1 4 = 0 → S5.1 4 = 0 := fun q => (hF22.1 4 (by decide)).symm.trans q
      have nS7 : NC S5 S7 := NC_fr hF22 (by decide) (by decide) fS7
      have mS7 : NA S5 S7 := NA_fr hF22 (by decide) (by decide) fS7
      have oS7 : NO nx S5 S7 := NO_fr hF22 (by decide) (by decide)
      have z4_S7 := hF22.1 4 (by decide)
      have z6_S7 := hF22.1 6 (by decide)
      have z7_S7 := hF22.1 7 (by decide)
      have z8_S7 := hF22.1 8 (by decide)
      have z11_S7 := hF22.1 11 (by decide)
      have z12_S7 := hF22.1 12 (by decide)
      have z18_S7 := hF22.1 18 (by decide)
      have z19_S7 := hF22.1 19 (by decide)
      have f1_S7 := hF22.2.1 1 (by decide)
      have f1a_S7 := Fr_fa hF22 1 (by decide)
      have f2_S7 := hF22.2.1 2 (by decide)
      have f2a_S7 := Fr_fa hF22 2 (by decide)
      have f8_S7 := hF22.2.1 8 (by decide)
      have f8a_S7 := Fr_fa hF22 8 (by decide)
      have f46_S7 := hF22.2.1 46 (by decide)
      have f46a_S7 := Fr_fa hF22 46 (by decide)
      have f48_S7 := hF22.2.1 48 (by decide)
      have f48a_S7 := Fr_fa hF22 48 (by decide)
      have g3_S7 := hF22.2.2 3 (by decide)
      have g3a_S7 := Fr_ga hF22 3 (by decide)
      have g4_S7 := hF22.2.2 4 (by decide)
      have g4a_S7 := Fr_ga hF22 4 (by decide)
      clear hF22
      refine ⟨fun c23 => ?_, fun c23 => ?_⟩
      · refine fm_hasWord _ _ _ _ (fun S9 r9 hF24 pS9 => ?_) (sg_hasWord (nx := nx) (n := n) (so := so) (pl := pl) (wo := wo) (ws := ws) _ (by (try clear hC hA hO hh nS1 mS1 oS1 nS2 mS2 oS2 qS4 mS4 nS5 mS5 oS5 nS7 mS7 oS7); (try clear j168); (try clear j180); (try clear j223); (try clear hk197); (try clear hr_waitTree); (try clear hf_waitTree); grind [XI, PI, PJ, BU, LV, LA_i, q_zz, q_za, q_zga, q_fza, q_fx, q_fga, q_gza, q_gfa, q_gx, q_zf1, q_zg1, q_ff, q_fg1, q_gf1, q_gg, ti_link]) (by (try clear hC hA hO hh nS1 mS1 oS1 nS2 mS2 oS2 qS4 mS4 nS5 mS5 oS5 nS7 mS7 oS7); (try clear j168); (try clear j180); (try clear j223); (try clear hk197); (try clear hr_waitTree); (try clear hf_waitTree); grind [XI, PI, PJ, BU, LV, LA_i, q_zz, q_za, q_zga, q_fza, q_fx, q_fga, q_gza, q_gfa, q_gx, q_zf1, q_zg1, q_ff, q_fg1, q_gf1, q_gg, ti_link]))
        have fS9 : S9.1 4 = 0 → S7.1 4 = 0 := fun q => (hF24.1 4 (by decide)).symm.trans q
        have nS9 : NC S7 S9 := NC_fr hF24 (by decide) (by decide) fS9
        have mS9 : NA S7 S9 := NA_fr hF24 (by decide) (by decide) fS9
        have oS9 : NO nx S7 S9 := NO_fr hF24 (by decide) (by decide)
        have z4_S9 := hF24.1 4 (by decide)
        have z6_S9 := hF24.1 6 (by decide)
        have z7_S9 := hF24.1 7 (by decide)
        have z8_S9 := hF24.1 8 (by decide)
        have z11_S9 := hF24.1 11 (by decide)
        have z12_S9 := hF24.1 12 (by decide)
        have z18_S9 := hF24.1 18 (by decide)
        have z19_S9 := hF24.1 19 (by decide)
        have f1_S9 := hF24.2.1 1 (by decide)
        have f1a_S9 := Fr_fa hF24 1 (by decide)
        have f2_S9 := hF24.2.1 2 (by decide)
        have f2a_S9 := Fr_fa hF24 2 (by decide)
        have f8_S9 := hF24.2.1 8 (by decide)
        have f8a_S9 := Fr_fa hF24 8 (by decide)
        have f46_S9 := hF24.2.1 46 (by decide)
        have f46a_S9 := Fr_fa hF24 46 (by decide)
        have f48_S9 := hF24.2.1 48 (by decide)
        have f48a_S9 := Fr_fa hF24 48 (by decide)
        have g3_S9 := hF24.2.2 3 (by decide)
        have g3a_S9 := Fr_ga hF24 3 (by decide)
        have g4_S9 := hF24.2.2 4 (by decide)
        have g4a_S9 := Fr_ga hF24 4 (by decide)
        clear hF24
        refine ⟨fun c25 => ?_, fun c25 => ?_⟩
        · refine fm_hasWord _ _ _ _ (fun S11 r11 hF26 pS11 => ?_) (sg_hasWord (nx := nx) (n := n) (so := so) (pl := pl) (wo := wo) (ws := ws) _ (by (try clear hC hA hO hh nS1 mS1 oS1 nS2 mS2 oS2 qS4 mS4 nS5 mS5 oS5 nS7 mS7 oS7 nS9 mS9 oS9); (try clear j168); (try clear j180); (try clear j223); (try clear hk197); (try clear hr_waitTree); (try clear hf_waitTree); grind [XI, PI, PJ, BU, LV, LA_i, q_zz, q_za, q_zga, q_fza, q_fx, q_fga, q_gza, q_gfa, q_gx, q_zf1, q_zg1, q_ff, q_fg1, q_gf1, q_gg, ti_link]) (by (try clear hC hA hO hh nS1 mS1 oS1 nS2 mS2 oS2 qS4 mS4 nS5 mS5 oS5 nS7 mS7 oS7 nS9 mS9 oS9); (try clear j168); (try clear j180); (try clear j223); (try clear hk197); (try clear hr_waitTree); (try clear hf_waitTree); grind [XI, PI, PJ, BU, LV, LA_i, q_zz, q_za, q_zga, q_fza, q_fx, q_fga, q_gza, q_gfa, q_gx, q_zf1, q_zg1, q_ff, q_fg1, q_gf1, q_gg, ti_link]))
          have fS11 : S11.1 4 = 0 → S9.1 4 = 0 := fun q => (hF26.1 4 (by decide)).symm.trans q
          have nS11 : NC S9 S11 := NC_fr hF26 (by decide) (by decide) fS11
          have mS11 : NA S9 S11 := NA_fr hF26 (by decide) (by decide) fS11
          have oS11 : NO nx S9 S11 := NO_fr hF26 (by decide) (by decide)
          have z4_S11 := hF26.1 4 (by decide)
          have z6_S11 := hF26.1 6 (by decide)
          have z7_S11 := hF26.1 7 (by decide)
          have z8_S11 := hF26.1 8 (by decide)
          have z11_S11 := hF26.1 11 (by decide)
          have z12_S11 := hF26.1 12 (by decide)
          have z18_S11 := hF26.1 18 (by decide)
          have z19_S11 := hF26.1 19 (by decide)
          have f1_S11 := hF26.2.1 1 (by decide)
          have f1a_S11 := Fr_fa hF26 1 (by decide)
          have f2_S11 := hF26.2.1 2 (by decide)
          have f2a_S11 := Fr_fa hF26 2 (by decide)
          have f8_S11 := hF26.2.1 8 (by decide)
          have f8a_S11 := Fr_fa hF26 8 (by decide)
          have f46_S11 := hF26.2.1 46 (by decide)
          have f46a_S11 := Fr_fa hF26 46 (by decide)
          have f48_S11 := hF26.2.1 48 (by decide)
          have f48a_S11 := Fr_fa hF26 48 (by decide)
          have g3_S11 := hF26.2.2 3 (by decide)
          have g3a_S11 := Fr_ga hF26 3 (by decide)
          have g4_S11 := hF26.2.2 4 (by decide)
          have g4a_S11 := Fr_ga hF26 4 (by decide)
          clear hF26
          refine ⟨fun c27 => ?_, fun c27 => ?_⟩
          · refine fm_hasWord _ _ _ _ (fun S13 r13 hF28 pS13 => ?_) (sg_hasWord (nx := nx) (n := n) (so := so) (pl := pl) (wo := wo) (ws := ws) _ (by (try clear hC hA hO hh nS1 mS1 oS1 nS2 mS2 oS2 qS4 mS4 nS5 mS5 oS5 nS7 mS7 oS7 nS9 mS9 oS9 nS11 mS11 oS11); (try clear j168); (try clear j180); (try clear j223); (try clear hk197); (try clear hr_waitTree); (try clear hf_waitTree); grind [XI, PI, PJ, BU, LV, LA_i, q_zz, q_za, q_zga, q_fza, q_fx, q_fga, q_gza, q_gfa, q_gx, q_zf1, q_zg1, q_ff, q_fg1, q_gf1, q_gg, ti_link]) (by (try clear hC hA hO hh nS1 mS1 oS1 nS2 mS2 oS2 qS4 mS4 nS5 mS5 oS5 nS7 mS7 oS7 nS9 mS9 oS9 nS11 mS11 oS11); (try clear j168); (try clear j180); (try clear j223); (try clear hk197); (try clear hr_waitTree); (try clear hf_waitTree); grind [XI, PI, PJ, BU, LV, LA_i, q_zz, q_za, q_zga, q_fza, q_fx, q_fga, q_gza, q_gfa, q_gx, q_zf1, q_zg1, q_ff, q_fg1, q_gf1, q_gg, ti_link]))
            have fS13 : S13.1 4 = 0 → S11.1 4 = 0 := fun q => (hF28.1 4 (by decide)).symm.trans q
            have nS13 : NC S11 S13 := NC_fr hF28 (by decide) (by decide) fS13
            have mS13 : NA S11 S13 := NA_fr hF28 (by decide) (by decide) fS13
            have oS13 : NO nx S11 S13 := NO_fr hF28 (by decide) (by decide)
            have z4_S13 := hF28.1 4 (by decide)
            have z6_S13 := hF28.1 6 (by decide)
            have z7_S13 := hF28.1 7 (by decide)
            have z8_S13 := hF28.1 8 (by decide)
            have z11_S13 := hF28.1 11 (by decide)
            have z12_S13 := hF28.1 12 (by decide)
            have z18_S13 := hF28.1 18 (by decide)
            have z19_S13 := hF28.1 19 (by decide)
            have f1_S13 := hF28.2.1 1 (by decide)
            have f1a_S13 := Fr_fa hF28 1 (by decide)
            have f2_S13 := hF28.2.1 2 (by decide)
            have f2a_S13 := Fr_fa hF28 2 (by decide)
            have f8_S13 := hF28.2.1 8 (by decide)
            have f8a_S13 := Fr_fa hF28 8 (by decide)
            have f46_S13 := hF28.2.1 46 (by decide)
            have f46a_S13 := Fr_fa hF28 46 (by decide)
            have f48_S13 := hF28.2.1 48 (by decide)
            have f48a_S13 := Fr_fa hF28 48 (by decide)
            have g3_S13 := hF28.2.2 3 (by decide)
            have g3a_S13 := Fr_ga hF28 3 (by decide)
            have g4_S13 := hF28.2.2 4 (by decide)
            have g4a_S13 := Fr_ga hF28 4 (by decide)
            clear hF28
            refine ⟨fun c29 => ?_, fun c29 => ?_⟩
            · refine fm_hasWord _ _ _ _ (fun S15 r15 hF30 pS15 => ?_) (sg_hasWord (nx := nx) (n := n) (so := so) (pl := pl) (wo := wo) (ws := ws) _ (by (try clear hC hA hO hh nS1 mS1 oS1 nS2 mS2 oS2 qS4 mS4 nS5 mS5 oS5 nS7 mS7 oS7 nS9 mS9 oS9 nS11 mS11 oS11 nS13 mS13 oS13); (try clear j168); (try clear j180); (try clear j223); (try clear hk197); (try clear hr_waitTree); (try clear hf_waitTree); grind [XI, PI, PJ, BU, LV, LA_i, q_zz, q_za, q_zga, q_fza, q_fx, q_fga, q_gza, q_gfa, q_gx, q_zf1, q_zg1, q_ff, q_fg1, q_gf1, q_gg, ti_link]) (by (try clear hC hA hO hh nS1 mS1 oS1 nS2 mS2 oS2 qS4 mS4 nS5 mS5 oS5 nS7 mS7 oS7 nS9 mS9 oS9 nS11 mS11 oS11 nS13 mS13 oS13); (try clear j168); (try clear j180); (try clear j223); (try clear hk197); (try clear hr_waitTree); (try clear hf_waitTree); grind [XI, PI, PJ, BU, LV, LA_i, q_zz, q_za, q_zga, q_fza, q_fx, q_fga, q_gza, q_gfa, q_gx, q_zf1, q_zg1, q_ff, q_fg1, q_gf1, q_gg, ti_link]))
              have fS15 : S15.1 4 = 0 → S13.1 4 = 0 := fun q => (hF30.1 4 (by decide)).symm.trans q
              have nS15 : NC S13 S15 := NC_fr hF30 (by decide) (by decide) fS15
              have mS15 : NA S13 S15 := NA_fr hF30 (by decide) (by decide) fS15
              have oS15 : NO nx S13 S15 := NO_fr hF30 (by decide) (by decide)
              have z4_S15 := hF30.1 4 (by decide)
              have z6_S15 := hF30.1 6 (by decide)
              have z7_S15 := hF30.1 7 (by decide)
              have z8_S15 := hF30.1 8 (by decide)
              have z11_S15 := hF30.1 11 (by decide)
              have z12_S15 := hF30.1 12 (by decide)
              have z18_S15 := hF30.1 18 (by decide)
              have z19_S15 := hF30.1 19 (by decide)
              have f1_S15 := hF30.2.1 1 (by decide)
              have f1a_S15 := Fr_fa hF30 1 (by decide)
              have f2_S15 := hF30.2.1 2 (by decide)
              have f2a_S15 := Fr_fa hF30 2 (by decide)
              have f8_S15 := hF30.2.1 8 (by decide)
              have f8a_S15 := Fr_fa hF30 8 (by decide)
              have f46_S15 := hF30.2.1 46 (by decide)
              have f46a_S15 := Fr_fa hF30 46 (by decide)
              have f48_S15 := hF30.2.1 48 (by decide)
              have f48a_S15 := Fr_fa hF30 48 (by decide)
              have g3_S15 := hF30.2.2 3 (by decide)
              have g3a_S15 := Fr_ga hF30 3 (by decide)
              have g4_S15 := hF30.2.2 4 (by decide)
              have g4a_S15 := Fr_ga hF30 4 (by decide)
              clear hF30
              refine ⟨fun c31 => ?_, fun c31 => ?_⟩
              · exact j168 _ _ (⟨by (try clear hC hA hO hh nS1 mS1 oS1 nS2 mS2 oS2 qS4 mS4 nS5 mS5 oS5 nS7 mS7 oS7 nS9 mS9 oS9 nS11 mS11 oS11 nS13 mS13 oS13 nS15 mS15 oS15); (try clear j168); (try clear j180); (try clear j223); (try clear hk197); (try clear hr_waitTree); (try clear hf_waitTree); grind [XI, PI, PJ, BU, LV, LA_i, q_zz, q_za, q_zga, q_fza, q_fx, q_fga, q_gza, q_gfa, q_gx, q_zf1, q_zg1, q_ff, q_fg1, q_gf1, q_gg, ti_link], by refine ⟨?_, ?_, ?_⟩ <;> ((try clear j168); (try clear j180); (try clear j223); (try clear hk197); (try clear hr_waitTree); (try clear hf_waitTree); clear pS1 z3_S1 z4_S1 z6_S1 z7_S1 z8_S1 z11_S1 z12_S1 z18_S1 z19_S1 f1_S1 f1a_S1 f2_S1 f2a_S1 f8_S1 f8a_S1 f46_S1 f46a_S1 f48_S1 f48a_S1 g3_S1 g3a_S1 g4_S1 g4a_S1 pS2 z3_S2 z6_S2 z7_S2 z8_S2 z11_S2 z12_S2 z19_S2 f1_S2 f1a_S2 f2_S2 f2a_S2 f8_S2 f8a_S2 f46_S2 f46a_S2 f48_S2 f48a_S2 g3_S2 g3a_S2 g4_S2 g4a_S2 pS4 z3_S4 z4_S4 z6_S4 z8_S4 z11_S4 z12_S4 z18_S4 z19_S4 f1_S4 f1a_S4 f2_S4 f2a_S4 f8_S4 f8a_S4 f46_S4 f46a_S4 f48_S4 f48a_S4 g3_S4 g3a_S4 g4_S4 g4a_S4 pS5 z4_S5 z6_S5 z7_S5 z8_S5 z11_S5 z12_S5 z18_S5 z19_S5 f1_S5 f1a_S5 f2_S5 f2a_S5 f8_S5 f8a_S5 f46_S5 f46a_S5 f48_S5 f48a_S5 g3_S5 g3a_S5 g4_S5 g4a_S5 pS7 z4_S7 z6_S7 z7_S7 z8_S7 z11_S7 z12_S7 z18_S7 z19_S7 f1_S7 f1a_S7 f2_S7 f2a_S7 f8_S7 f8a_S7 f46_S7 f46a_S7 f48_S7 f48a_S7 g3_S7 g3a_S7 g4_S7 g4a_S7 pS9 z4_S9 z6_S9 z7_S9 z8_S9 z11_S9 z12_S9 z18_S9 z19_S9 f1_S9 f1a_S9 f2_S9 f2a_S9 f8_S9 f8a_S9 f46_S9 f46a_S9 f48_S9 f48a_S9 g3_S9 g3a_S9 g4_S9 g4a_S9 pS11 z4_S11 z6_S11 z7_S11 z8_S11 z11_S11 z12_S11 z18_S11 z19_S11 f1_S11 f1a_S11 f2_S11 f2a_S11 f8_S11 f8a_S11 f46_S11 f46a_S11 f48_S11 f48a_S11 g3_S11 g3a_S11 g4_S11 g4a_S11 pS13 z4_S13 z6_S13 z7_S13 z8_S13 z11_S13 z12_S13 z18_S13 z19_S13 f1_S13 f1a_S13 f2_S13 f2a_S13 f8_S13 f8a_S13 f46_S13 f46a_S13 f48_S13 f48a_S13 g3_S13 g3a_S13 g4_S13 g4a_S13 pS15 z4_S15 z6_S15 z7_S15 z8_S15 z11_S15 z12_S15 z18_S15 z19_S15 f1_S15 f1a_S15 f2_S15 f2a_S15 f8_S15 f8a_S15 f46_S15 f46a_S15 f48_S15 f48a_S15 g3_S15 g3a_S15 g4_S15 g4a_S15; grind (ematch := 20) (gen := 20) [→ LV_d, → CF_tick0, → CF_open20, → CF_nc, → AF_na, → OH_no, → CF_step, → CF_e0, → CF_letter, → CF_tick, → CF_yield, → CF_open2, → CF_openv, → CF_shut, ti_link])⟩)
              · refine fm_takeWord _ _ _ _ (fun S17 hF32 pS17 => ?_) (sg_takeWord (nx := nx) (n := n) (so := so) (pl := pl) (wo := wo) (ws := ws) _ (by (try clear hC hA hO hh nS1 mS1 oS1 nS2 mS2 oS2 qS4 mS4 nS5 mS5 oS5 nS7 mS7 oS7 nS9 mS9 oS9 nS11 mS11 oS11 nS13 mS13 oS13 nS15 mS15 oS15); (try clear j168); (try clear j180); (try clear j223); (try clear hk197); (try clear hr_waitTree); (try clear hf_waitTree); grind [XI, PI, PJ, BU, LV, LA_i, q_zz, q_za, q_zga, q_fza, q_fx, q_fga, q_gza, q_gfa, q_gx, q_zf1, q_zg1, q_ff, q_fg1, q_gf1, q_gg, ti_link]) (by (try clear hC hA hO hh nS1 mS1 oS1 nS2 mS2 oS2 qS4 mS4 nS5 mS5 oS5 nS7 mS7 oS7 nS9 mS9 oS9 nS11 mS11 oS11 nS13 mS13 oS13 nS15 mS15 oS15); (try clear j168); (try clear j180); (try clear j223); (try clear hk197); (try clear hr_waitTree); (try clear hf_waitTree); grind [XI, PI, PJ, BU, LV, LA_i, q_zz, q_za, q_zga, q_fza, q_fx, q_fga, q_gza, q_gfa, q_gx, q_zf1, q_zg1, q_ff, q_fg1, q_gf1, q_gg, ti_link]))
                have fS17 : S17.1 4 = 0 → S15.1 4 = 0 := by (try clear hC hA hO hh nS1 mS1 oS1 nS2 mS2 oS2 qS4 mS4 nS5 mS5 oS5 nS7 mS7 oS7 nS9 mS9 oS9 nS11 mS11 oS11 nS13 mS13 oS13 nS15 mS15 oS15); (try clear j168); (try clear j180); (try clear j223); (try clear hk197); (try clear hr_waitTree); (try clear hf_waitTree); grind [ti_link]
                have nS17 : NC S15 S17 := NC_fr hF32 (by decide) (by decide) fS17
                have mS17 : NA S15 S17 := NA_fr hF32 (by decide) (by decide) fS17
                have oS17 : NO nx S15 S17 := NO_fr hF32 (by decide) (by decide)
                have z6_S17 := hF32.1 6 (by decide)
                have z7_S17 := hF32.1 7 (by decide)
                have z8_S17 := hF32.1 8 (by decide)
                have z11_S17 := hF32.1 11 (by decide)
                have z12_S17 := hF32.1 12 (by decide)
                have z18_S17 := hF32.1 18 (by decide)
                have z19_S17 := hF32.1 19 (by decide)
                have f1_S17 := hF32.2.1 1 (by decide)
                have f1a_S17 := Fr_fa hF32 1 (by decide)
                have f2_S17 := hF32.2.1 2 (by decide)
                have f2a_S17 := Fr_fa hF32 2 (by decide)
                have f8_S17 := hF32.2.1 8 (by decide)
                have f8a_S17 := Fr_fa hF32 8 (by decide)
                have f46_S17 := hF32.2.1 46 (by decide)
                have f46a_S17 := Fr_fa hF32 46 (by decide)
                have f48_S17 := hF32.2.1 48 (by decide)
                have f48a_S17 := Fr_fa hF32 48 (by decide)
                have g3_S17 := hF32.2.2 3 (by decide)
                have g3a_S17 := Fr_ga hF32 3 (by decide)
                have g4_S17 := hF32.2.2 4 (by decide)
                have g4a_S17 := Fr_ga hF32 4 (by decide)
                clear hF32
                exact j168 _ _ (⟨by (try clear hC hA hO hh nS1 mS1 oS1 nS2 mS2 oS2 qS4 mS4 nS5 mS5 oS5 nS7 mS7 oS7 nS9 mS9 oS9 nS11 mS11 oS11 nS13 mS13 oS13 nS15 mS15 oS15 nS17 mS17 oS17); (try clear j168); (try clear j180); (try clear j223); (try clear hk197); (try clear hr_waitTree); (try clear hf_waitTree); grind [XI, PI, PJ, BU, LV, LA_i, q_zz, q_za, q_zga, q_fza, q_fx, q_fga, q_gza, q_gfa, q_gx, q_zf1, q_zg1, q_ff, q_fg1, q_gf1, q_gg, ti_link], by refine ⟨?_, ?_, ?_⟩ <;> ((try clear j168); (try clear j180); (try clear j223); (try clear hk197); (try clear hr_waitTree); (try clear hf_waitTree); clear pS1 z3_S1 z4_S1 z6_S1 z7_S1 z8_S1 z11_S1 z12_S1 z18_S1 z19_S1 f1_S1 f1a_S1 f2_S1 f2a_S1 f8_S1 f8a_S1 f46_S1 f46a_S1 f48_S1 f48a_S1 g3_S1 g3a_S1 g4_S1 g4a_S1 pS2 z3_S2 z6_S2 z7_S2 z8_S2 z11_S2 z12_S2 z19_S2 f1_S2 f1a_S2 f2_S2 f2a_S2 f8_S2 f8a_S2 f46_S2 f46a_S2 f48_S2 f48a_S2 g3_S2 g3a_S2 g4_S2 g4a_S2 pS4 z3_S4 z4_S4 z6_S4 z8_S4 z11_S4 z12_S4 z18_S4 z19_S4 f1_S4 f1a_S4 f2_S4 f2a_S4 f8_S4 f8a_S4 f46_S4 f46a_S4 f48_S4 f48a_S4 g3_S4 g3a_S4 g4_S4 g4a_S4 pS5 z4_S5 z6_S5 z7_S5 z8_S5 z11_S5 z12_S5 z18_S5 z19_S5 f1_S5 f1a_S5 f2_S5 f2a_S5 f8_S5 f8a_S5 f46_S5 f46a_S5 f48_S5 f48a_S5 g3_S5 g3a_S5 g4_S5 g4a_S5 pS7 z4_S7 z6_S7 z7_S7 z8_S7 z11_S7 z12_S7 z18_S7 z19_S7 f1_S7 f1a_S7 f2_S7 f2a_S7 f8_S7 f8a_S7 f46_S7 f46a_S7 f48_S7 f48a_S7 g3_S7 g3a_S7 g4_S7 g4a_S7 pS9 z4_S9 z6_S9 z7_S9 z8_S9 z11_S9 z12_S9 z18_S9 z19_S9 f1_S9 f1a_S9 f2_S9 f2a_S9 f8_S9 f8a_S9 f46_S9 f46a_S9 f48_S9 f48a_S9 g3_S9 g3a_S9 g4_S9 g4a_S9 pS11 z4_S11 z6_S11 z7_S11 z8_S11 z11_S11 z12_S11 z18_S11 z19_S11 f1_S11 f1a_S11 f2_S11 f2a_S11 f8_S11 f8a_S11 f46_S11 f46a_S11 f48_S11 f48a_S11 g3_S11 g3a_S11 g4_S11 g4a_S11 pS13 z4_S13 z6_S13 z7_S13 z8_S13 z11_S13 z12_S13 z18_S13 z19_S13 f1_S13 f1a_S13 f2_S13 f2a_S13 f8_S13 f8a_S13 f46_S13 f46a_S13 f48_S13 f48a_S13 g3_S13 g3a_S13 g4_S13 g4a_S13 pS15 z4_S15 z6_S15 z7_S15 z8_S15 z11_S15 z12_S15 z18_S15 z19_S15 f1_S15 f1a_S15 f2_S15 f2a_S15 f8_S15 f8a_S15 f46_S15 f46a_S15 f48_S15 f48a_S15 g3_S15 g3a_S15 g4_S15 g4a_S15 pS17 z6_S17 z7_S17 z8_S17 z11_S17 z12_S17 z18_S17 z19_S17 f1_S17 f1a_S17 f2_S17 f2a_S17 f8_S17 f8a_S17 f46_S17 f46a_S17 f48_S17 f48a_S17 g3_S17 g3a_S17 g4_S17 g4a_S17; grind (ematch := 20) (gen := 20) [→ LV_d, → CF_tick0, → CF_open20, → CF_nc, → AF_na, → OH_no, → CF_step, → CF_e0, → CF_letter, → CF_tick, → CF_yield, → CF_open2, → CF_openv, → CF_shut, ti_link])⟩)
            · refine fq_expression _ _ _ (fun S18 hF33 pS18 => ?_) (sq_expression (nx := nx) (n := n) (so := so) (pl := pl) (wo := wo) (ws := ws) (S0 := S0) (d := (d + 1)) (G := (G - 3)) (GA := GA) (X := (1000 - 40 * (d + 1))) (Y := (400 - 20 * (d + 1))) (kL := kL) (kn := kn) (kw := kw) (kh := 0) (ki := 1) (kc := (kc + 1)) (ko := ko) (km := km) (kt := kt) (by (try clear hC hA hO hh nS1 mS1 oS1 nS2 mS2 oS2 qS4 mS4 nS5 mS5 oS5 nS7 mS7 oS7 nS9 mS9 oS9 nS11 mS11 oS11 nS13 mS13 oS13); (try clear j168); (try clear j180); (try clear j223); (try clear hk197); (try clear hr_waitTree); (try clear hf_waitTree); grind [XI, PI, PJ, BU, LV, LA_i, q_zz, q_za, q_zga, q_fza, q_fx, q_fga, q_gza, q_gfa, q_gx, q_zf1, q_zg1, q_ff, q_fg1, q_gf1, q_gg, ti_link]) (by (try clear hC hA hO hh nS1 mS1 oS1 nS2 mS2 oS2 qS4 mS4 nS5 mS5 oS5 nS7 mS7 oS7 nS9 mS9 oS9 nS11 mS11 oS11 nS13 mS13 oS13); (try clear j168); (try clear j180); (try clear j223); (try clear hk197); (try clear hr_waitTree); (try clear hf_waitTree); grind [XI, PI, PJ, BU, LV, LA_i, q_zz, q_za, q_zga, q_fza, q_fx, q_fga, q_gza, q_gfa, q_gx, q_zf1, q_zg1, q_ff, q_fg1, q_gf1, q_gg, ti_link]) (by (try clear j168); (try clear j180); (try clear j223); (try clear hk197); (try clear hr_waitTree); (try clear hf_waitTree); clear pS1 z3_S1 z4_S1 z6_S1 z7_S1 z8_S1 z11_S1 z12_S1 z18_S1 z19_S1 f1_S1 f1a_S1 f2_S1 f2a_S1 f8_S1 f8a_S1 f46_S1 f46a_S1 f48_S1 f48a_S1 g3_S1 g3a_S1 g4_S1 g4a_S1 pS2 z3_S2 z6_S2 z7_S2 z8_S2 z11_S2 z12_S2 z19_S2 f1_S2 f1a_S2 f2_S2 f2a_S2 f8_S2 f8a_S2 f46_S2 f46a_S2 f48_S2 f48a_S2 g3_S2 g3a_S2 g4_S2 g4a_S2 pS4 z3_S4 z4_S4 z6_S4 z8_S4 z11_S4 z12_S4 z18_S4 z19_S4 f1_S4 f1a_S4 f2_S4 f2a_S4 f8_S4 f8a_S4 f46_S4 f46a_S4 f48_S4 f48a_S4 g3_S4 g3a_S4 g4_S4 g4a_S4 pS5 z4_S5 z6_S5 z7_S5 z8_S5 z11_S5 z12_S5 z18_S5 z19_S5 f1_S5 f1a_S5 f2_S5 f2a_S5 f8_S5 f8a_S5 f46_S5 f46a_S5 f48_S5 f48a_S5 g3_S5 g3a_S5 g4_S5 g4a_S5 pS7 z4_S7 z6_S7 z7_S7 z8_S7 z11_S7 z12_S7 z18_S7 z19_S7 f1_S7 f1a_S7 f2_S7 f2a_S7 f8_S7 f8a_S7 f46_S7 f46a_S7 f48_S7 f48a_S7 g3_S7 g3a_S7 g4_S7 g4a_S7 pS9 z4_S9 z6_S9 z7_S9 z8_S9 z11_S9 z12_S9 z18_S9 z19_S9 f1_S9 f1a_S9 f2_S9 f2a_S9 f8_S9 f8a_S9 f46_S9 f46a_S9 f48_S9 f48a_S9 g3_S9 g3a_S9 g4_S9 g4a_S9 pS11 z4_S11 z6_S11 z7_S11 z8_S11 z11_S11 z12_S11 z18_S11 z19_S11 f1_S11 f1a_S11 f2_S11 f2a_S11 f8_S11 f8a_S11 f46_S11 f46a_S11 f48_S11 f48a_S11 g3_S11 g3a_S11 g4_S11 g4a_S11 pS13 z4_S13 z6_S13 z7_S13 z8_S13 z11_S13 z12_S13 z18_S13 z19_S13 f1_S13 f1a_S13 f2_S13 f2a_S13 f8_S13 f8a_S13 f46_S13 f46a_S13 f48_S13 f48a_S13 g3_S13 g3a_S13 g4_S13 g4a_S13; grind (ematch := 20) (gen := 20) [→ LV_d, → CF_tick0, → CF_open20, → CF_nc, → AF_na, → OH_no, → CF_step, → CF_e0, → CF_letter, → CF_tick, → CF_yield, → CF_open2, → CF_openv, → CF_shut, ti_link]) (by (try clear j168); (try clear j180); (try clear j223); (try clear hk197); (try clear hr_waitTree); (try clear hf_waitTree); clear pS1 z3_S1 z4_S1 z6_S1 z7_S1 z8_S1 z11_S1 z12_S1 z18_S1 z19_S1 f1_S1 f1a_S1 f2_S1 f2a_S1 f8_S1 f8a_S1 f46_S1 f46a_S1 f48_S1 f48a_S1 g3_S1 g3a_S1 g4_S1 g4a_S1 pS2 z3_S2 z6_S2 z7_S2 z8_S2 z11_S2 z12_S2 z19_S2 f1_S2 f1a_S2 f2_S2 f2a_S2 f8_S2 f8a_S2 f46_S2 f46a_S2 f48_S2 f48a_S2 g3_S2 g3a_S2 g4_S2 g4a_S2 pS4 z3_S4 z4_S4 z6_S4 z8_S4 z11_S4 z12_S4 z18_S4 z19_S4 f1_S4 f1a_S4 f2_S4 f2a_S4 f8_S4 f8a_S4 f46_S4 f46a_S4 f48_S4 f48a_S4 g3_S4 g3a_S4 g4_S4 g4a_S4 pS5 z4_S5 z6_S5 z7_S5 z8_S5 z11_S5 z12_S5 z18_S5 z19_S5 f1_S5 f1a_S5 f2_S5 f2a_S5 f8_S5 f8a_S5 f46_S5 f46a_S5 f48_S5 f48a_S5 g3_S5 g3a_S5 g4_S5 g4a_S5 pS7 z4_S7 z6_S7 z7_S7 z8_S7 z11_S7 z12_S7 z18_S7 z19_S7 f1_S7 f1a_S7 f2_S7 f2a_S7 f8_S7 f8a_S7 f46_S7 f46a_S7 f48_S7 f48a_S7 g3_S7 g3a_S7 g4_S7 g4a_S7 pS9 z4_S9 z6_S9 z7_S9 z8_S9 z11_S9 z12_S9 z18_S9 z19_S9 f1_S9 f1a_S9 f2_S9 f2a_S9 f8_S9 f8a_S9 f46_S9 f46a_S9 f48_S9 f48a_S9 g3_S9 g3a_S9 g4_S9 g4a_S9 pS11 z4_S11 z6_S11 z7_S11 z8_S11 z11_S11 z12_S11 z18_S11 z19_S11 f1_S11 f1a_S11 f2_S11 f2a_S11 f8_S11 f8a_S11 f46_S11 f46a_S11 f48_S11 f48a_S11 g3_S11 g3a_S11 g4_S11 g4a_S11 pS13 z4_S13 z6_S13 z7_S13 z8_S13 z11_S13 z12_S13 z18_S13 z19_S13 f1_S13 f1a_S13 f2_S13 f2a_S13 f8_S13 f8a_S13 f46_S13 f46a_S13 f48_S13 f48a_S13 g3_S13 g3a_S13 g4_S13 g4a_S13; grind (ematch := 20) (gen := 20) [→ LV_d, → CF_tick0, → CF_open20, → CF_nc, → AF_na, → OH_no, → CF_step, → CF_e0, → CF_letter, → CF_tick, → CF_yield, → CF_open2, → CF_openv, → CF_shut, ti_link]) (by (try clear j168); (try clear j180); (try clear j223); (try clear hk197); (try clear hr_waitTree); (try clear hf_waitTree); clear pS1 z3_S1 z4_S1 z6_S1 z7_S1 z8_S1 z11_S1 z12_S1 z18_S1 z19_S1 f1_S1 f1a_S1 f2_S1 f2a_S1 f8_S1 f8a_S1 f46_S1 f46a_S1 f48_S1 f48a_S1 g3_S1 g3a_S1 g4_S1 g4a_S1 pS2 z3_S2 z6_S2 z7_S2 z8_S2 z11_S2 z12_S2 z19_S2 f1_S2 f1a_S2 f2_S2 f2a_S2 f8_S2 f8a_S2 f46_S2 f46a_S2 f48_S2 f48a_S2 g3_S2 g3a_S2 g4_S2 g4a_S2 pS4 z3_S4 z4_S4 z6_S4 z8_S4 z11_S4 z12_S4 z18_S4 z19_S4 f1_S4 f1a_S4 f2_S4 f2a_S4 f8_S4 f8a_S4 f46_S4 f46a_S4 f48_S4 f48a_S4 g3_S4 g3a_S4 g4_S4 g4a_S4 pS5 z4_S5 z6_S5 z7_S5 z8_S5 z11_S5 z12_S5 z18_S5 z19_S5 f1_S5 f1a_S5 f2_S5 f2a_S5 f8_S5 f8a_S5 f46_S5 f46a_S5 f48_S5 f48a_S5 g3_S5 g3a_S5 g4_S5 g4a_S5 pS7 z4_S7 z6_S7 z7_S7 z8_S7 z11_S7 z12_S7 z18_S7 z19_S7 f1_S7 f1a_S7 f2_S7 f2a_S7 f8_S7 f8a_S7 f46_S7 f46a_S7 f48_S7 f48a_S7 g3_S7 g3a_S7 g4_S7 g4a_S7 pS9 z4_S9 z6_S9 z7_S9 z8_S9 z11_S9 z12_S9 z18_S9 z19_S9 f1_S9 f1a_S9 f2_S9 f2a_S9 f8_S9 f8a_S9 f46_S9 f46a_S9 f48_S9 f48a_S9 g3_S9 g3a_S9 g4_S9 g4a_S9 pS11 z4_S11 z6_S11 z7_S11 z8_S11 z11_S11 z12_S11 z18_S11 z19_S11 f1_S11 f1a_S11 f2_S11 f2a_S11 f8_S11 f8a_S11 f46_S11 f46a_S11 f48_S11 f48a_S11 g3_S11 g3a_S11 g4_S11 g4a_S11 pS13 z4_S13 z6_S13 z7_S13 z8_S13 z11_S13 z12_S13 z18_S13 z19_S13 f1_S13 f1a_S13 f2_S13 f2a_S13 f8_S13 f8a_S13 f46_S13 f46a_S13 f48_S13 f48a_S13 g3_S13 g3a_S13 g4_S13 g4a_S13; grind (ematch := 20) (gen := 20) [→ LV_d, → CF_tick0, → CF_open20, → CF_nc, → AF_na, → OH_no, → CF_step, → CF_e0, → CF_letter, → CF_tick, → CF_yield, → CF_open2, → CF_openv, → CF_shut, ti_link]) (by (try clear j168); (try clear j180); (try clear j223); (try clear hk197); (try clear hr_waitTree); (try clear hf_waitTree); clear pS1 z3_S1 z4_S1 z6_S1 z7_S1 z8_S1 z11_S1 z12_S1 z18_S1 z19_S1 f1_S1 f1a_S1 f2_S1 f2a_S1 f8_S1 f8a_S1 f46_S1 f46a_S1 f48_S1 f48a_S1 g3_S1 g3a_S1 g4_S1 g4a_S1 pS2 z3_S2 z6_S2 z7_S2 z8_S2 z11_S2 z12_S2 z19_S2 f1_S2 f1a_S2 f2_S2 f2a_S2 f8_S2 f8a_S2 f46_S2 f46a_S2 f48_S2 f48a_S2 g3_S2 g3a_S2 g4_S2 g4a_S2 pS4 z3_S4 z4_S4 z6_S4 z8_S4 z11_S4 z12_S4 z18_S4 z19_S4 f1_S4 f1a_S4 f2_S4 f2a_S4 f8_S4 f8a_S4 f46_S4 f46a_S4 f48_S4 f48a_S4 g3_S4 g3a_S4 g4_S4 g4a_S4 pS5 z4_S5 z6_S5 z7_S5 z8_S5 z11_S5 z12_S5 z18_S5 z19_S5 f1_S5 f1a_S5 f2_S5 f2a_S5 f8_S5 f8a_S5 f46_S5 f46a_S5 f48_S5 f48a_S5 g3_S5 g3a_S5 g4_S5 g4a_S5 pS7 z4_S7 z6_S7 z7_S7 z8_S7 z11_S7 z12_S7 z18_S7 z19_S7 f1_S7 f1a_S7 f2_S7 f2a_S7 f8_S7 f8a_S7 f46_S7 f46a_S7 f48_S7 f48a_S7 g3_S7 g3a_S7 g4_S7 g4a_S7 pS9 z4_S9 z6_S9 z7_S9 z8_S9 z11_S9 z12_S9 z18_S9 z19_S9 f1_S9 f1a_S9 f2_S9 f2a_S9 f8_S9 f8a_S9 f46_S9 f46a_S9 f48_S9 f48a_S9 g3_S9 g3a_S9 g4_S9 g4a_S9 pS11 z4_S11 z6_S11 z7_S11 z8_S11 z11_S11 z12_S11 z18_S11 z19_S11 f1_S11 f1a_S11 f2_S11 f2a_S11 f8_S11 f8a_S11 f46_S11 f46a_S11 f48_S11 f48a_S11 g3_S11 g3a_S11 g4_S11 g4a_S11 pS13 z4_S13 z6_S13 z7_S13 z8_S13 z11_S13 z12_S13 z18_S13 z19_S13 f1_S13 f1a_S13 f2_S13 f2a_S13 f8_S13 f8a_S13 f46_S13 f46a_S13 f48_S13 f48a_S13 g3_S13 g3a_S13 g4_S13 g4a_S13; grind (ematch := 20) (gen := 20) [→ LV_d, → CF_tick0, → CF_open20, → CF_nc, → AF_na, → OH_no, → CF_step, → CF_e0, → CF_letter, → CF_tick, → CF_yield, → CF_open2, → CF_openv, → CF_shut, ti_link]))
              obtain ⟨pS18, qS18⟩ := pS18
              have z6_S18 := hF33.1 6 (by decide)
              have z11_S18 := hF33.1 11 (by decide)
              have z12_S18 := hF33.1 12 (by decide)
              have f1_S18 := hF33.2.1 1 (by decide)
              have f1a_S18 := Fr_fa hF33 1 (by decide)
              have f2_S18 := hF33.2.1 2 (by decide)
              have f2a_S18 := Fr_fa hF33 2 (by decide)
              have f46_S18 := hF33.2.1 46 (by decide)
              have f46a_S18 := Fr_fa hF33 46 (by decide)
              have f48_S18 := hF33.2.1 48 (by decide)
              have f48a_S18 := Fr_fa hF33 48 (by decide)
              have g3_S18 := hF33.2.2 3 (by decide)
              have g3a_S18 := Fr_ga hF33 3 (by decide)
              have g4_S18 := hF33.2.2 4 (by decide)
              have g4a_S18 := Fr_ga hF33 4 (by decide)
              clear hF33
              refine fm_emit _ _ _ _ _ _ (fun S19 r19 hF34 pS19 => ?_) (sg_emit (nx := nx) _ _ _ (by (try clear hC hA hO hh nS1 mS1 oS1 nS2 mS2 oS2 qS4 mS4 nS5 mS5 oS5 nS7 mS7 oS7 nS9 mS9 oS9 nS11 mS11 oS11 nS13 mS13 oS13 qS18); (try clear j168); (try clear j180); (try clear j223); (try clear hk197); (try clear hr_waitTree); (try clear hf_waitTree); grind [XI, PI, PJ, BU, LV, LA_i, q_zz, q_za, q_zga, q_fza, q_fx, q_fga, q_gza, q_gfa, q_gx, q_zf1, q_zg1, q_ff, q_fg1, q_gf1, q_gg, ti_link]))
              obtain ⟨pS19, qS19⟩ := pS19
              have fS19 : S19.1 4 = 0 → S18.1 4 = 0 := fun q => (hF34.1 4 (by decide)).symm.trans q
              have mS19 : NA S18 S19 := NA_fr hF34 (by decide) (by decide) fS19
              have z3_S19 := hF34.1 3 (by decide)
              have z4_S19 := hF34.1 4 (by decide)
              have z6_S19 := hF34.1 6 (by decide)
              have z8_S19 := hF34.1 8 (by decide)
              have z11_S19 := hF34.1 11 (by decide)
              have z12_S19 := hF34.1 12 (by decide)
              have z18_S19 := hF34.1 18 (by decide)
              have z19_S19 := hF34.1 19 (by decide)
              have f1_S19 := hF34.2.1 1 (by decide)
              have f1a_S19 := Fr_fa hF34 1 (by decide)
              have f2_S19 := hF34.2.1 2 (by decide)
              have f2a_S19 := Fr_fa hF34 2 (by decide)
              have f8_S19 := hF34.2.1 8 (by decide)
              have f8a_S19 := Fr_fa hF34 8 (by decide)
              have f46_S19 := hF34.2.1 46 (by decide)
              have f46a_S19 := Fr_fa hF34 46 (by decide)
              have f48_S19 := hF34.2.1 48 (by decide)
              have f48a_S19 := Fr_fa hF34 48 (by decide)
              have g3_S19 := hF34.2.2 3 (by decide)
              have g3a_S19 := Fr_ga hF34 3 (by decide)
              have g4_S19 := hF34.2.2 4 (by decide)
              have g4a_S19 := Fr_ga hF34 4 (by decide)
              clear hF34
              refine hf_waitTree _ _ _ (fun S20 hF35 pS20 => ?_) (hr_waitTree (d + 1) (G - 2) GA ((1000 - 40 * (d + 1)) + 8) ((400 - 20 * (d + 1)) + 1) kL kn kw kc (ko + 1) km kt _ (by (try clear hC hA hO hh nS1 mS1 oS1 nS2 mS2 oS2 qS4 mS4 nS5 mS5 oS5 nS7 mS7 oS7 nS9 mS9 oS9 nS11 mS11 oS11 nS13 mS13 oS13 qS18 qS19 mS19); (try clear j168); (try clear j180); (try clear j223); (try clear hk197); (try clear hr_waitTree); (try clear hf_waitTree); grind [XI, PI, PJ, BU, LV, LA_i, q_zz, q_za, q_zga, q_fza, q_fx, q_fga, q_gza, q_gfa, q_gx, q_zf1, q_zg1, q_ff, q_fg1, q_gf1, q_gg, ti_link]) (by (try clear hC hA hO hh nS1 mS1 oS1 nS2 mS2 oS2 qS4 mS4 nS5 mS5 oS5 nS7 mS7 oS7 nS9 mS9 oS9 nS11 mS11 oS11 nS13 mS13 oS13 qS18 qS19 mS19); (try clear j168); (try clear j180); (try clear j223); (try clear hk197); (try clear hr_waitTree); (try clear hf_waitTree); grind [XI, PI, PJ, BU, LV, LA_i, q_zz, q_za, q_zga, q_fza, q_fx, q_fga, q_gza, q_gfa, q_gx, q_zf1, q_zg1, q_ff, q_fg1, q_gf1, q_gg, ti_link]) (by (try clear hC hA hO hh nS1 mS1 oS1 nS2 mS2 oS2 qS4 mS4 nS5 mS5 oS5 nS7 mS7 oS7 nS9 mS9 oS9 nS11 mS11 oS11 nS13 mS13 oS13 qS18 qS19 mS19); (try clear j168); (try clear j180); (try clear j223); (try clear hk197); (try clear hr_waitTree); (try clear hf_waitTree); grind [XI, PI, PJ, BU, LV, LA_i, q_zz, q_za, q_zga, q_fza, q_fx, q_fga, q_gza, q_gfa, q_gx, q_zf1, q_zg1, q_ff, q_fg1, q_gf1, q_gg, ti_link]) (by (try clear j168); (try clear j180); (try clear j223); (try clear hk197); (try clear hr_waitTree); (try clear hf_waitTree); clear pS1 z3_S1 z4_S1 z6_S1 z7_S1 z8_S1 z11_S1 z12_S1 z18_S1 z19_S1 f1_S1 f1a_S1 f2_S1 f2a_S1 f8_S1 f8a_S1 f46_S1 f46a_S1 f48_S1 f48a_S1 g3_S1 g3a_S1 g4_S1 g4a_S1 pS2 z3_S2 z6_S2 z7_S2 z8_S2 z11_S2 z12_S2 z19_S2 f1_S2 f1a_S2 f2_S2 f2a_S2 f8_S2 f8a_S2 f46_S2 f46a_S2 f48_S2 f48a_S2 g3_S2 g3a_S2 g4_S2 g4a_S2 pS4 z3_S4 z4_S4 z6_S4 z8_S4 z11_S4 z12_S4 z18_S4 z19_S4 f1_S4 f1a_S4 f2_S4 f2a_S4 f8_S4 f8a_S4 f46_S4 f46a_S4 f48_S4 f48a_S4 g3_S4 g3a_S4 g4_S4 g4a_S4 pS5 z4_S5 z6_S5 z7_S5 z8_S5 z11_S5 z12_S5 z18_S5 z19_S5 f1_S5 f1a_S5 f2_S5 f2a_S5 f8_S5 f8a_S5 f46_S5 f46a_S5 f48_S5 f48a_S5 g3_S5 g3a_S5 g4_S5 g4a_S5 pS7 z4_S7 z6_S7 z7_S7 z8_S7 z11_S7 z12_S7 z18_S7 z19_S7 f1_S7 f1a_S7 f2_S7 f2a_S7 f8_S7 f8a_S7 f46_S7 f46a_S7 f48_S7 f48a_S7 g3_S7 g3a_S7 g4_S7 g4a_S7 pS9 z4_S9 z6_S9 z7_S9 z8_S9 z11_S9 z12_S9 z18_S9 z19_S9 f1_S9 f1a_S9 f2_S9 f2a_S9 f8_S9 f8a_S9 f46_S9 f46a_S9 f48_S9 f48a_S9 g3_S9 g3a_S9 g4_S9 g4a_S9 pS11 z4_S11 z6_S11 z7_S11 z8_S11 z11_S11 z12_S11 z18_S11 z19_S11 f1_S11 f1a_S11 f2_S11 f2a_S11 f8_S11 f8a_S11 f46_S11 f46a_S11 f48_S11 f48a_S11 g3_S11 g3a_S11 g4_S11 g4a_S11 pS13 z4_S13 z6_S13 z7_S13 z8_S13 z11_S13 z12_S13 z18_S13 z19_S13 f1_S13 f1a_S13 f2_S13 f2a_S13 f8_S13 f8a_S13 f46_S13 f46a_S13 f48_S13 f48a_S13 g3_S13 g3a_S13 g4_S13 g4a_S13 pS18 z6_S18 z11_S18 z12_S18 f1_S18 f1a_S18 f2_S18 f2a_S18 f46_S18 f46a_S18 f48_S18 f48a_S18 g3_S18 g3a_S18 g4_S18 g4a_S18 pS19 z3_S19 z4_S19 z6_S19 z8_S19 z11_S19 z12_S19 z18_S19 z19_S19 f1_S19 f1a_S19 f2_S19 f2a_S19 f8_S19 f8a_S19 f46_S19 f46a_S19 f48_S19 f48a_S19 g3_S19 g3a_S19 g4_S19 g4a_S19; grind (ematch := 20) (gen := 20) [→ LV_d, → CF_tick0, → CF_open20, → CF_nc, → AF_na, → OH_no, → CF_step, → CF_e0, → CF_letter, → CF_tick, → CF_yield, → CF_open2, → CF_openv, → CF_shut, ti_link]) (by (try clear j168); (try clear j180); (try clear j223); (try clear hk197); (try clear hr_waitTree); (try clear hf_waitTree); clear pS1 z3_S1 z4_S1 z6_S1 z7_S1 z8_S1 z11_S1 z12_S1 z18_S1 z19_S1 f1_S1 f1a_S1 f2_S1 f2a_S1 f8_S1 f8a_S1 f46_S1 f46a_S1 f48_S1 f48a_S1 g3_S1 g3a_S1 g4_S1 g4a_S1 pS2 z3_S2 z6_S2 z7_S2 z8_S2 z11_S2 z12_S2 z19_S2 f1_S2 f1a_S2 f2_S2 f2a_S2 f8_S2 f8a_S2 f46_S2 f46a_S2 f48_S2 f48a_S2 g3_S2 g3a_S2 g4_S2 g4a_S2 pS4 z3_S4 z4_S4 z6_S4 z8_S4 z11_S4 z12_S4 z18_S4 z19_S4 f1_S4 f1a_S4 f2_S4 f2a_S4 f8_S4 f8a_S4 f46_S4 f46a_S4 f48_S4 f48a_S4 g3_S4 g3a_S4 g4_S4 g4a_S4 pS5 z4_S5 z6_S5 z7_S5 z8_S5 z11_S5 z12_S5 z18_S5 z19_S5 f1_S5 f1a_S5 f2_S5 f2a_S5 f8_S5 f8a_S5 f46_S5 f46a_S5 f48_S5 f48a_S5 g3_S5 g3a_S5 g4_S5 g4a_S5 pS7 z4_S7 z6_S7 z7_S7 z8_S7 z11_S7 z12_S7 z18_S7 z19_S7 f1_S7 f1a_S7 f2_S7 f2a_S7 f8_S7 f8a_S7 f46_S7 f46a_S7 f48_S7 f48a_S7 g3_S7 g3a_S7 g4_S7 g4a_S7 pS9 z4_S9 z6_S9 z7_S9 z8_S9 z11_S9 z12_S9 z18_S9 z19_S9 f1_S9 f1a_S9 f2_S9 f2a_S9 f8_S9 f8a_S9 f46_S9 f46a_S9 f48_S9 f48a_S9 g3_S9 g3a_S9 g4_S9 g4a_S9 pS11 z4_S11 z6_S11 z7_S11 z8_S11 z11_S11 z12_S11 z18_S11 z19_S11 f1_S11 f1a_S11 f2_S11 f2a_S11 f8_S11 f8a_S11 f46_S11 f46a_S11 f48_S11 f48a_S11 g3_S11 g3a_S11 g4_S11 g4a_S11 pS13 z4_S13 z6_S13 z7_S13 z8_S13 z11_S13 z12_S13 z18_S13 z19_S13 f1_S13 f1a_S13 f2_S13 f2a_S13 f8_S13 f8a_S13 f46_S13 f46a_S13 f48_S13 f48a_S13 g3_S13 g3a_S13 g4_S13 g4a_S13 pS18 z6_S18 z11_S18 z12_S18 f1_S18 f1a_S18 f2_S18 f2a_S18 f46_S18 f46a_S18 f48_S18 f48a_S18 g3_S18 g3a_S18 g4_S18 g4a_S18 pS19 z3_S19 z4_S19 z6_S19 z8_S19 z11_S19 z12_S19 z18_S19 z19_S19 f1_S19 f1a_S19 f2_S19 f2a_S19 f8_S19 f8a_S19 f46_S19 f46a_S19 f48_S19 f48a_S19 g3_S19 g3a_S19 g4_S19 g4a_S19; grind (ematch := 20) (gen := 20) [→ LV_d, → CF_tick0, → CF_open20, → CF_nc, → AF_na, → OH_no, → CF_step, → CF_e0, → CF_letter, → CF_tick, → CF_yield, → CF_open2, → CF_openv, → CF_shut, ti_link]) (by (try clear j168); (try clear j180); (try clear j223); (try clear hk197); (try clear hr_waitTree); (try clear hf_waitTree); clear pS1 z3_S1 z4_S1 z6_S1 z7_S1 z8_S1 z11_S1 z12_S1 z18_S1 z19_S1 f1_S1 f1a_S1 f2_S1 f2a_S1 f8_S1 f8a_S1 f46_S1 f46a_S1 f48_S1 f48a_S1 g3_S1 g3a_S1 g4_S1 g4a_S1 pS2 z3_S2 z6_S2 z7_S2 z8_S2 z11_S2 z12_S2 z19_S2 f1_S2 f1a_S2 f2_S2 f2a_S2 f8_S2 f8a_S2 f46_S2 f46a_S2 f48_S2 f48a_S2 g3_S2 g3a_S2 g4_S2 g4a_S2 pS4 z3_S4 z4_S4 z6_S4 z8_S4 z11_S4 z12_S4 z18_S4 z19_S4 f1_S4 f1a_S4 f2_S4 f2a_S4 f8_S4 f8a_S4 f46_S4 f46a_S4 f48_S4 f48a_S4 g3_S4 g3a_S4 g4_S4 g4a_S4 pS5 z4_S5 z6_S5 z7_S5 z8_S5 z11_S5 z12_S5 z18_S5 z19_S5 f1_S5 f1a_S5 f2_S5 f2a_S5 f8_S5 f8a_S5 f46_S5 f46a_S5 f48_S5 f48a_S5 g3_S5 g3a_S5 g4_S5 g4a_S5 pS7 z4_S7 z6_S7 z7_S7 z8_S7 z11_S7 z12_S7 z18_S7 z19_S7 f1_S7 f1a_S7 f2_S7 f2a_S7 f8_S7 f8a_S7 f46_S7 f46a_S7 f48_S7 f48a_S7 g3_S7 g3a_S7 g4_S7 g4a_S7 pS9 z4_S9 z6_S9 z7_S9 z8_S9 z11_S9 z12_S9 z18_S9 z19_S9 f1_S9 f1a_S9 f2_S9 f2a_S9 f8_S9 f8a_S9 f46_S9 f46a_S9 f48_S9 f48a_S9 g3_S9 g3a_S9 g4_S9 g4a_S9 pS11 z4_S11 z6_S11 z7_S11 z8_S11 z11_S11 z12_S11 z18_S11 z19_S11 f1_S11 f1a_S11 f2_S11 f2a_S11 f8_S11 f8a_S11 f46_S11 f46a_S11 f48_S11 f48a_S11 g3_S11 g3a_S11 g4_S11 g4a_S11 pS13 z4_S13 z6_S13 z7_S13 z8_S13 z11_S13 z12_S13 z18_S13 z19_S13 f1_S13 f1a_S13 f2_S13 f2a_S13 f8_S13 f8a_S13 f46_S13 f46a_S13 f48_S13 f48a_S13 g3_S13 g3a_S13 g4_S13 g4a_S13 pS18 z6_S18 z11_S18 z12_S18 f1_S18 f1a_S18 f2_S18 f2a_S18 f46_S18 f46a_S18 f48_S18 f48a_S18 g3_S18 g3a_S18 g4_S18 g4a_S18 pS19 z3_S19 z4_S19 z6_S19 z8_S19 z11_S19 z12_S19 z18_S19 z19_S19 f1_S19 f1a_S19 f2_S19 f2a_S19 f8_S19 f8a_S19 f46_S19 f46a_S19 f48_S19 f48a_S19 g3_S19 g3a_S19 g4_S19 g4a_S19; grind (ematch := 20) (gen := 20) [→ LV_d, → CF_tick0, → CF_open20, → CF_nc, → AF_na, → OH_no, → CF_step, → CF_e0, → CF_letter, → CF_tick, → CF_yield, → CF_open2, → CF_openv, → CF_shut, ti_link]) (by (try clear j168); (try clear j180); (try clear j223); (try clear hk197); (try clear hr_waitTree); (try clear hf_waitTree); clear pS1 z3_S1 z4_S1 z6_S1 z7_S1 z8_S1 z11_S1 z12_S1 z18_S1 z19_S1 f1_S1 f1a_S1 f2_S1 f2a_S1 f8_S1 f8a_S1 f46_S1 f46a_S1 f48_S1 f48a_S1 g3_S1 g3a_S1 g4_S1 g4a_S1 pS2 z3_S2 z6_S2 z7_S2 z8_S2 z11_S2 z12_S2 z19_S2 f1_S2 f1a_S2 f2_S2 f2a_S2 f8_S2 f8a_S2 f46_S2 f46a_S2 f48_S2 f48a_S2 g3_S2 g3a_S2 g4_S2 g4a_S2 pS4 z3_S4 z4_S4 z6_S4 z8_S4 z11_S4 z12_S4 z18_S4 z19_S4 f1_S4 f1a_S4 f2_S4 f2a_S4 f8_S4 f8a_S4 f46_S4 f46a_S4 f48_S4 f48a_S4 g3_S4 g3a_S4 g4_S4 g4a_S4 pS5 z4_S5 z6_S5 z7_S5 z8_S5 z11_S5 z12_S5 z18_S5 z19_S5 f1_S5 f1a_S5 f2_S5 f2a_S5 f8_S5 f8a_S5 f46_S5 f46a_S5 f48_S5 f48a_S5 g3_S5 g3a_S5 g4_S5 g4a_S5 pS7 z4_S7 z6_S7 z7_S7 z8_S7 z11_S7 z12_S7 z18_S7 z19_S7 f1_S7 f1a_S7 f2_S7 f2a_S7 f8_S7 f8a_S7 f46_S7 f46a_S7 f48_S7 f48a_S7 g3_S7 g3a_S7 g4_S7 g4a_S7 pS9 z4_S9 z6_S9 z7_S9 z8_S9 z11_S9 z12_S9 z18_S9 z19_S9 f1_S9 f1a_S9 f2_S9 f2a_S9 f8_S9 f8a_S9 f46_S9 f46a_S9 f48_S9 f48a_S9 g3_S9 g3a_S9 g4_S9 g4a_S9 pS11 z4_S11 z6_S11 z7_S11 z8_S11 z11_S11 z12_S11 z18_S11 z19_S11 f1_S11 f1a_S11 f2_S11 f2a_S11 f8_S11 f8a_S11 f46_S11 f46a_S11 f48_S11 f48a_S11 g3_S11 g3a_S11 g4_S11 g4a_S11 pS13 z4_S13 z6_S13 z7_S13 z8_S13 z11_S13 z12_S13 z18_S13 z19_S13 f1_S13 f1a_S13 f2_S13 f2a_S13 f8_S13 f8a_S13 f46_S13 f46a_S13 f48_S13 f48a_S13 g3_S13 g3a_S13 g4_S13 g4a_S13 pS18 z6_S18 z11_S18 z12_S18 f1_S18 f1a_S18 f2_S18 f2a_S18 f46_S18 f46a_S18 f48_S18 f48a_S18 g3_S18 g3a_S18 g4_S18 g4a_S18 pS19 z3_S19 z4_S19 z6_S19 z8_S19 z11_S19 z12_S19 z18_S19 z19_S19 f1_S19 f1a_S19 f2_S19 f2a_S19 f8_S19 f8a_S19 f46_S19 f46a_S19 f48_S19 f48a_S19 g3_S19 g3a_S19 g4_S19 g4a_S19; grind (ematch := 20) (gen := 20) [→ LV_d, → CF_tick0, → CF_open20, → CF_nc, → AF_na, → OH_no, → CF_step, → CF_e0, → CF_letter, → CF_tick, → CF_yield, → CF_open2, → CF_openv, → CF_shut, ti_link]))
              obtain ⟨pS20, qS20⟩ := pS20
              have z6_S20 := hF35.1 6 (by decide)
              have z12_S20 := hF35.1 12 (by decide)
              have f1_S20 := hF35.2.1 1 (by decide)
              have f1a_S20 := Fr_fa hF35 1 (by decide)
              have f2_S20 := hF35.2.1 2 (by decide)
              have f2a_S20 := Fr_fa hF35 2 (by decide)
              have g3_S20 := hF35.2.2 3 (by decide)
              have g3a_S20 := Fr_ga hF35 3 (by decide)
              have g4_S20 := hF35.2.2 4 (by decide)
              have g4a_S20 := Fr_ga hF35 4 (by decide)
              clear hF35
              refine fm_emit _ _ _ _ _ _ (fun S21 r21 hF36 pS21 => ?_) (sg_emit (nx := nx) _ _ _ (by (try clear hC hA hO hh nS1 mS1 oS1 nS2 mS2 oS2 qS4 mS4 nS5 mS5 oS5 nS7 mS7 oS7 nS9 mS9 oS9 nS11 mS11 oS11 nS13 mS13 oS13 qS18 qS19 mS19 qS20); (try clear j168); (try clear j180); (try clear j223); (try clear hk197); (try clear hr_waitTree); (try clear hf_waitTree); grind [XI, PI, PJ, BU, LV, LA_i, q_zz, q_za, q_zga, q_fza, q_fx, q_fga, q_gza, q_gfa, q_gx, q_zf1, q_zg1, q_ff, q_fg1, q_gf1, q_gg, ti_link]))
              obtain ⟨pS21, qS21⟩ := pS21
              have fS21 : S21.1 4 = 0 → S20.1 4 = 0 := fun q => (hF36.1 4 (by decide)).symm.trans q
              have mS21 : NA S20 S21 := NA_fr hF36 (by decide) (by decide) fS21
              have z3_S21 := hF36.1 3 (by decide)
              have z4_S21 := hF36.1 4 (by decide)
              have z6_S21 := hF36.1 6 (by decide)
              have z8_S21 := hF36.1 8 (by decide)
              have z11_S21 := hF36.1 11 (by decide)
              have z12_S21 := hF36.1 12 (by decide)
              have z18_S21 := hF36.1 18 (by decide)
              have z19_S21 := hF36.1 19 (by decide)
              have f1_S21 := hF36.2.1 1 (by decide)
              have f1a_S21 := Fr_fa hF36 1 (by decide)
              have f2_S21 := hF36.2.1 2 (by decide)
              have f2a_S21 := Fr_fa hF36 2 (by decide)
              have f8_S21 := hF36.2.1 8 (by decide)
              have f8a_S21 := Fr_fa hF36 8 (by decide)
              have f46_S21 := hF36.2.1 46 (by decide)
              have f46a_S21 := Fr_fa hF36 46 (by decide)
              have f48_S21 := hF36.2.1 48 (by decide)
              have f48a_S21 := Fr_fa hF36 48 (by decide)
              have g3_S21 := hF36.2.2 3 (by decide)
              have g3a_S21 := Fr_ga hF36 3 (by decide)
              have g4_S21 := hF36.2.2 4 (by decide)
              have g4a_S21 := Fr_ga hF36 4 (by decide)
              clear hF36
              unfold wp_waitTree_256
              intro z28 ez28
              intro S29 eS29
              have nS29 : NC S21 S29 := NC_z eS29 (by decide)
              have mS29 : NA S21 S29 := NA_z eS29 (by decide)
              have oS29 : NO nx S21 S29 := NO_z eS29
              exact ⟨by (try clear hC hA hO hh nS1 mS1 oS1 nS2 mS2 oS2 qS4 mS4 nS5 mS5 oS5 nS7 mS7 oS7 nS9 mS9 oS9 nS11 mS11 oS11 nS13 mS13 oS13 qS18 qS19 mS19 qS20 qS21 mS21 nS29 mS29 oS29); (try clear j168); (try clear j180); (try clear j223); (try clear hk197); (try clear hr_waitTree); (try clear hf_waitTree); grind [XI, PI, PJ, BU, LV, LA_i, q_zz, q_za, q_zga, q_fza, q_fx, q_fga, q_gza, q_gfa, q_gx, q_zf1, q_zg1, q_ff, q_fg1, q_gf1, q_gg, ti_link], by refine ⟨?_, ?_, ?_⟩ <;> ((try clear j168); (try clear j180); (try clear j223); (try clear hk197); (try clear hr_waitTree); (try clear hf_waitTree); clear pS1 z3_S1 z4_S1 z6_S1 z7_S1 z8_S1 z11_S1 z12_S1 z18_S1 z19_S1 f1_S1 f1a_S1 f2_S1 f2a_S1 f8_S1 f8a_S1 f46_S1 f46a_S1 f48_S1 f48a_S1 g3_S1 g3a_S1 g4_S1 g4a_S1 pS2 z3_S2 z6_S2 z7_S2 z8_S2 z11_S2 z12_S2 z19_S2 f1_S2 f1a_S2 f2_S2 f2a_S2 f8_S2 f8a_S2 f46_S2 f46a_S2 f48_S2 f48a_S2 g3_S2 g3a_S2 g4_S2 g4a_S2 pS4 z3_S4 z4_S4 z6_S4 z8_S4 z11_S4 z12_S4 z18_S4 z19_S4 f1_S4 f1a_S4 f2_S4 f2a_S4 f8_S4 f8a_S4 f46_S4 f46a_S4 f48_S4 f48a_S4 g3_S4 g3a_S4 g4_S4 g4a_S4 pS5 z4_S5 z6_S5 z7_S5 z8_S5 z11_S5 z12_S5 z18_S5 z19_S5 f1_S5 f1a_S5 f2_S5 f2a_S5 f8_S5 f8a_S5 f46_S5 f46a_S5 f48_S5 f48a_S5 g3_S5 g3a_S5 g4_S5 g4a_S5 pS7 z4_S7 z6_S7 z7_S7 z8_S7 z11_S7 z12_S7 z18_S7 z19_S7 f1_S7 f1a_S7 f2_S7 f2a_S7 f8_S7 f8a_S7 f46_S7 f46a_S7 f48_S7 f48a_S7 g3_S7 g3a_S7 g4_S7 g4a_S7 pS9 z4_S9 z6_S9 z7_S9 z8_S9 z11_S9 z12_S9 z18_S9 z19_S9 f1_S9 f1a_S9 f2_S9 f2a_S9 f8_S9 f8a_S9 f46_S9 f46a_S9 f48_S9 f48a_S9 g3_S9 g3a_S9 g4_S9 g4a_S9 pS11 z4_S11 z6_S11 z7_S11 z8_S11 z11_S11 z12_S11 z18_S11 z19_S11 f1_S11 f1a_S11 f2_S11 f2a_S11 f8_S11 f8a_S11 f46_S11 f46a_S11 f48_S11 f48a_S11 g3_S11 g3a_S11 g4_S11 g4a_S11 pS13 z4_S13 z6_S13 z7_S13 z8_S13 z11_S13 z12_S13 z18_S13 z19_S13 f1_S13 f1a_S13 f2_S13 f2a_S13 f8_S13 f8a_S13 f46_S13 f46a_S13 f48_S13 f48a_S13 g3_S13 g3a_S13 g4_S13 g4a_S13 pS18 z6_S18 z11_S18 z12_S18 f1_S18 f1a_S18 f2_S18 f2a_S18 f46_S18 f46a_S18 f48_S18 f48a_S18 g3_S18 g3a_S18 g4_S18 g4a_S18 pS19 z3_S19 z4_S19 z6_S19 z8_S19 z11_S19 z12_S19 z18_S19 z19_S19 f1_S19 f1a_S19 f2_S19 f2a_S19 f8_S19 f8a_S19 f46_S19 f46a_S19 f48_S19 f48a_S19 g3_S19 g3a_S19 g4_S19 g4a_S19 pS20 z6_S20 z12_S20 f1_S20 f1a_S20 f2_S20 f2a_S20 g3_S20 g3a_S20 g4_S20 g4a_S20 pS21 z3_S21 z4_S21 z6_S21 z8_S21 z11_S21 z12_S21 z18_S21 z19_S21 f1_S21 f1a_S21 f2_S21 f2a_S21 f8_S21 f8a_S21 f46_S21 f46a_S21 f48_S21 f48a_S21 g3_S21 g3a_S21 g4_S21 g4a_S21; grind (ematch := 20) (gen := 20) [→ LV_d, → CF_tick0, → CF_open20, → CF_nc, → AF_na, → OH_no, → CF_step, → CF_e0, → CF_letter, → CF_tick, → CF_yield, → CF_open2, → CF_openv, → CF_shut, ti_link])⟩
          · refine fm_child _ _ _ (fun S22 hF37 pS22 => ?_) (sg_child (nx := nx) (n := n) (so := so) (pl := pl) (wo := wo) (ws := ws) (S0 := S0) (d := (d + 1)) (G := (G - 3)) (GA := GA) (X := (1000 - 40 * (d + 1))) (Y := (400 - 20 * (d + 1))) (kL := kL) (kn := kn) (kw := kw) (kh := 0) (ki := 0) (kc := kc) (ko := ko) (km := km) (kt := kt) (by (try clear hC hA hO hh nS1 mS1 oS1 nS2 mS2 oS2 qS4 mS4 nS5 mS5 oS5 nS7 mS7 oS7 nS9 mS9 oS9 nS11 mS11 oS11); (try clear j168); (try clear j180); (try clear j223); (try clear hk197); (try clear hr_waitTree); (try clear hf_waitTree); grind [XI, PI, PJ, BU, LV, LA_i, q_zz, q_za, q_zga, q_fza, q_fx, q_fga, q_gza, q_gfa, q_gx, q_zf1, q_zg1, q_ff, q_fg1, q_gf1, q_gg, ti_link]) (by (try clear hC hA hO hh nS1 mS1 oS1 nS2 mS2 oS2 qS4 mS4 nS5 mS5 oS5 nS7 mS7 oS7 nS9 mS9 oS9 nS11 mS11 oS11); (try clear j168); (try clear j180); (try clear j223); (try clear hk197); (try clear hr_waitTree); (try clear hf_waitTree); grind [XI, PI, PJ, BU, LV, LA_i, q_zz, q_za, q_zga, q_fza, q_fx, q_fga, q_gza, q_gfa, q_gx, q_zf1, q_zg1, q_ff, q_fg1, q_gf1, q_gg, ti_link]) (by (try clear hC hA hO hh nS1 mS1 oS1 nS2 mS2 oS2 qS4 mS4 nS5 mS5 oS5 nS7 mS7 oS7 nS9 mS9 oS9 nS11 mS11 oS11); (try clear j168); (try clear j180); (try clear j223); (try clear hk197); (try clear hr_waitTree); (try clear hf_waitTree); grind [XI, PI, PJ, BU, LV, LA_i, q_zz, q_za, q_zga, q_fza, q_fx, q_fga, q_gza, q_gfa, q_gx, q_zf1, q_zg1, q_ff, q_fg1, q_gf1, q_gg, ti_link]) (by (try clear j168); (try clear j180); (try clear j223); (try clear hk197); (try clear hr_waitTree); (try clear hf_waitTree); clear pS1 z3_S1 z4_S1 z6_S1 z7_S1 z8_S1 z11_S1 z12_S1 z18_S1 z19_S1 f1_S1 f1a_S1 f2_S1 f2a_S1 f8_S1 f8a_S1 f46_S1 f46a_S1 f48_S1 f48a_S1 g3_S1 g3a_S1 g4_S1 g4a_S1 pS2 z3_S2 z6_S2 z7_S2 z8_S2 z11_S2 z12_S2 z19_S2 f1_S2 f1a_S2 f2_S2 f2a_S2 f8_S2 f8a_S2 f46_S2 f46a_S2 f48_S2 f48a_S2 g3_S2 g3a_S2 g4_S2 g4a_S2 pS4 z3_S4 z4_S4 z6_S4 z8_S4 z11_S4 z12_S4 z18_S4 z19_S4 f1_S4 f1a_S4 f2_S4 f2a_S4 f8_S4 f8a_S4 f46_S4 f46a_S4 f48_S4 f48a_S4 g3_S4 g3a_S4 g4_S4 g4a_S4 pS5 z4_S5 z6_S5 z7_S5 z8_S5 z11_S5 z12_S5 z18_S5 z19_S5 f1_S5 f1a_S5 f2_S5 f2a_S5 f8_S5 f8a_S5 f46_S5 f46a_S5 f48_S5 f48a_S5 g3_S5 g3a_S5 g4_S5 g4a_S5 pS7 z4_S7 z6_S7 z7_S7 z8_S7 z11_S7 z12_S7 z18_S7 z19_S7 f1_S7 f1a_S7 f2_S7 f2a_S7 f8_S7 f8a_S7 f46_S7 f46a_S7 f48_S7 f48a_S7 g3_S7 g3a_S7 g4_S7 g4a_S7 pS9 z4_S9 z6_S9 z7_S9 z8_S9 z11_S9 z12_S9 z18_S9 z19_S9 f1_S9 f1a_S9 f2_S9 f2a_S9 f8_S9 f8a_S9 f46_S9 f46a_S9 f48_S9 f48a_S9 g3_S9 g3a_S9 g4_S9 g4a_S9 pS11 z4_S11 z6_S11 z7_S11 z8_S11 z11_S11 z12_S11 z18_S11 z19_S11 f1_S11 f1a_S11 f2_S11 f2a_S11 f8_S11 f8a_S11 f46_S11 f46a_S11 f48_S11 f48a_S11 g3_S11 g3a_S11 g4_S11 g4a_S11; grind (ematch := 20) (gen := 20) [→ LV_d, → CF_tick0, → CF_open20, → CF_nc, → AF_na, → OH_no, → CF_step, → CF_e0, → CF_letter, → CF_tick, → CF_yield, → CF_open2, → CF_openv, → CF_shut, ti_link]) (by (try clear j168); (try clear j180); (try clear j223); (try clear hk197); (try clear hr_waitTree); (try clear hf_waitTree); clear pS1 z3_S1 z4_S1 z6_S1 z7_S1 z8_S1 z11_S1 z12_S1 z18_S1 z19_S1 f1_S1 f1a_S1 f2_S1 f2a_S1 f8_S1 f8a_S1 f46_S1 f46a_S1 f48_S1 f48a_S1 g3_S1 g3a_S1 g4_S1 g4a_S1 pS2 z3_S2 z6_S2 z7_S2 z8_S2 z11_S2 z12_S2 z19_S2 f1_S2 f1a_S2 f2_S2 f2a_S2 f8_S2 f8a_S2 f46_S2 f46a_S2 f48_S2 f48a_S2 g3_S2 g3a_S2 g4_S2 g4a_S2 pS4 z3_S4 z4_S4 z6_S4 z8_S4 z11_S4 z12_S4 z18_S4 z19_S4 f1_S4 f1a_S4 f2_S4 f2a_S4 f8_S4 f8a_S4 f46_S4 f46a_S4 f48_S4 f48a_S4 g3_S4 g3a_S4 g4_S4 g4a_S4 pS5 z4_S5 z6_S5 z7_S5 z8_S5 z11_S5 z12_S5 z18_S5 z19_S5 f1_S5 f1a_S5 f2_S5 f2a_S5 f8_S5 f8a_S5 f46_S5 f46a_S5 f48_S5 f48a_S5 g3_S5 g3a_S5 g4_S5 g4a_S5 pS7 z4_S7 z6_S7 z7_S7 z8_S7 z11_S7 z12_S7 z18_S7 z19_S7 f1_S7 f1a_S7 f2_S7 f2a_S7 f8_S7 f8a_S7 f46_S7 f46a_S7 f48_S7 f48a_S7 g3_S7 g3a_S7 g4_S7 g4a_S7 pS9 z4_S9 z6_S9 z7_S9 z8_S9 z11_S9 z12_S9 z18_S9 z19_S9 f1_S9 f1a_S9 f2_S9 f2a_S9 f8_S9 f8a_S9 f46_S9 f46a_S9 f48_S9 f48a_S9 g3_S9 g3a_S9 g4_S9 g4a_S9 pS11 z4_S11 z6_S11 z7_S11 z8_S11 z11_S11 z12_S11 z18_S11 z19_S11 f1_S11 f1a_S11 f2_S11 f2a_S11 f8_S11 f8a_S11 f46_S11 f46a_S11 f48_S11 f48a_S11 g3_S11 g3a_S11 g4_S11 g4a_S11; grind (ematch := 20) (gen := 20) [→ LV_d, → CF_tick0, → CF_open20, → CF_nc, → AF_na, → OH_no, → CF_step, → CF_e0, → CF_letter, → CF_tick, → CF_yield, → CF_open2, → CF_openv, → CF_shut, ti_link]) (by (try clear j168); (try clear j180); (try clear j223); (try clear hk197); (try clear hr_waitTree); (try clear hf_waitTree); clear pS1 z3_S1 z4_S1 z6_S1 z7_S1 z8_S1 z11_S1 z12_S1 z18_S1 z19_S1 f1_S1 f1a_S1 f2_S1 f2a_S1 f8_S1 f8a_S1 f46_S1 f46a_S1 f48_S1 f48a_S1 g3_S1 g3a_S1 g4_S1 g4a_S1 pS2 z3_S2 z6_S2 z7_S2 z8_S2 z11_S2 z12_S2 z19_S2 f1_S2 f1a_S2 f2_S2 f2a_S2 f8_S2 f8a_S2 f46_S2 f46a_S2 f48_S2 f48a_S2 g3_S2 g3a_S2 g4_S2 g4a_S2 pS4 z3_S4 z4_S4 z6_S4 z8_S4 z11_S4 z12_S4 z18_S4 z19_S4 f1_S4 f1a_S4 f2_S4 f2a_S4 f8_S4 f8a_S4 f46_S4 f46a_S4 f48_S4 f48a_S4 g3_S4 g3a_S4 g4_S4 g4a_S4 pS5 z4_S5 z6_S5 z7_S5 z8_S5 z11_S5 z12_S5 z18_S5 z19_S5 f1_S5 f1a_S5 f2_S5 f2a_S5 f8_S5 f8a_S5 f46_S5 f46a_S5 f48_S5 f48a_S5 g3_S5 g3a_S5 g4_S5 g4a_S5 pS7 z4_S7 z6_S7 z7_S7 z8_S7 z11_S7 z12_S7 z18_S7 z19_S7 f1_S7 f1a_S7 f2_S7 f2a_S7 f8_S7 f8a_S7 f46_S7 f46a_S7 f48_S7 f48a_S7 g3_S7 g3a_S7 g4_S7 g4a_S7 pS9 z4_S9 z6_S9 z7_S9 z8_S9 z11_S9 z12_S9 z18_S9 z19_S9 f1_S9 f1a_S9 f2_S9 f2a_S9 f8_S9 f8a_S9 f46_S9 f46a_S9 f48_S9 f48a_S9 g3_S9 g3a_S9 g4_S9 g4a_S9 pS11 z4_S11 z6_S11 z7_S11 z8_S11 z11_S11 z12_S11 z18_S11 z19_S11 f1_S11 f1a_S11 f2_S11 f2a_S11 f8_S11 f8a_S11 f46_S11 f46a_S11 f48_S11 f48a_S11 g3_S11 g3a_S11 g4_S11 g4a_S11; grind (ematch := 20) (gen := 20) [→ LV_d, → CF_tick0, → CF_open20, → CF_nc, → AF_na, → OH_no, → CF_step, → CF_e0, → CF_letter, → CF_tick, → CF_yield, → CF_open2, → CF_openv, → CF_shut, ti_link]) (by (try clear j168); (try clear j180); (try clear j223); (try clear hk197); (try clear hr_waitTree); (try clear hf_waitTree); clear pS1 z3_S1 z4_S1 z6_S1 z7_S1 z8_S1 z11_S1 z12_S1 z18_S1 z19_S1 f1_S1 f1a_S1 f2_S1 f2a_S1 f8_S1 f8a_S1 f46_S1 f46a_S1 f48_S1 f48a_S1 g3_S1 g3a_S1 g4_S1 g4a_S1 pS2 z3_S2 z6_S2 z7_S2 z8_S2 z11_S2 z12_S2 z19_S2 f1_S2 f1a_S2 f2_S2 f2a_S2 f8_S2 f8a_S2 f46_S2 f46a_S2 f48_S2 f48a_S2 g3_S2 g3a_S2 g4_S2 g4a_S2 pS4 z3_S4 z4_S4 z6_S4 z8_S4 z11_S4 z12_S4 z18_S4 z19_S4 f1_S4 f1a_S4 f2_S4 f2a_S4 f8_S4 f8a_S4 f46_S4 f46a_S4 f48_S4 f48a_S4 g3_S4 g3a_S4 g4_S4 g4a_S4 pS5 z4_S5 z6_S5 z7_S5 z8_S5 z11_S5 z12_S5 z18_S5 z19_S5 f1_S5 f1a_S5 f2_S5 f2a_S5 f8_S5 f8a_S5 f46_S5 f46a_S5 f48_S5 f48a_S5 g3_S5 g3a_S5 g4_S5 g4a_S5 pS7 z4_S7 z6_S7 z7_S7 z8_S7 z11_S7 z12_S7 z18_S7 z19_S7 f1_S7 f1a_S7 f2_S7 f2a_S7 f8_S7 f8a_S7 f46_S7 f46a_S7 f48_S7 f48a_S7 g3_S7 g3a_S7 g4_S7 g4a_S7 pS9 z4_S9 z6_S9 z7_S9 z8_S9 z11_S9 z12_S9 z18_S9 z19_S9 f1_S9 f1a_S9 f2_S9 f2a_S9 f8_S9 f8a_S9 f46_S9 f46a_S9 f48_S9 f48a_S9 g3_S9 g3a_S9 g4_S9 g4a_S9 pS11 z4_S11 z6_S11 z7_S11 z8_S11 z11_S11 z12_S11 z18_S11 z19_S11 f1_S11 f1a_S11 f2_S11 f2a_S11 f8_S11 f8a_S11 f46_S11 f46a_S11 f48_S11 f48a_S11 g3_S11 g3a_S11 g4_S11 g4a_S11; grind (ematch := 20) (gen := 20) [→ LV_d, → CF_tick0, → CF_open20, → CF_nc, → AF_na, → OH_no, → CF_step, → CF_e0, → CF_letter, → CF_tick, → CF_yield, → CF_open2, → CF_openv, → CF_shut, ti_link]))
            obtain ⟨pS22, qS22⟩ := pS22
            have z6_S22 := hF37.1 6 (by decide)
            have z12_S22 := hF37.1 12 (by decide)
            have f1_S22 := hF37.2.1 1 (by decide)
            have f1a_S22 := Fr_fa hF37 1 (by decide)
            have f2_S22 := hF37.2.1 2 (by decide)
            have f2a_S22 := Fr_fa hF37 2 (by decide)
            have g3_S22 := hF37.2.2 3 (by decide)
            have g3a_S22 := Fr_ga hF37 3 (by decide)
            have g4_S22 := hF37.2.2 4 (by decide)
            have g4a_S22 := Fr_ga hF37 4 (by decide)
            clear hF37
            unfold wp_waitTree_256
            intro z28 ez28
            intro S29 eS29
            have nS29 : NC S22 S29 := NC_z eS29 (by decide)
            have mS29 : NA S22 S29 := NA_z eS29 (by decide)
            have oS29 : NO nx S22 S29 := NO_z eS29
            exact ⟨by (try clear hC hA hO hh nS1 mS1 oS1 nS2 mS2 oS2 qS4 mS4 nS5 mS5 oS5 nS7 mS7 oS7 nS9 mS9 oS9 nS11 mS11 oS11 qS22 nS29 mS29 oS29); (try clear j168); (try clear j180); (try clear j223); (try clear hk197); (try clear hr_waitTree); (try clear hf_waitTree); grind [XI, PI, PJ, BU, LV, LA_i, q_zz, q_za, q_zga, q_fza, q_fx, q_fga, q_gza, q_gfa, q_gx, q_zf1, q_zg1, q_ff, q_fg1, q_gf1, q_gg, ti_link], by refine ⟨?_, ?_, ?_⟩ <;> ((try clear j168); (try clear j180); (try clear j223); (try clear hk197); (try clear hr_waitTree); (try clear hf_waitTree); clear pS1 z3_S1 z4_S1 z6_S1 z7_S1 z8_S1 z11_S1 z12_S1 z18_S1 z19_S1 f1_S1 f1a_S1 f2_S1 f2a_S1 f8_S1 f8a_S1 f46_S1 f46a_S1 f48_S1 f48a_S1 g3_S1 g3a_S1 g4_S1 g4a_S1 pS2 z3_S2 z6_S2 z7_S2 z8_S2 z11_S2 z12_S2 z19_S2 f1_S2 f1a_S2 f2_S2 f2a_S2 f8_S2 f8a_S2 f46_S2 f46a_S2 f48_S2 f48a_S2 g3_S2 g3a_S2 g4_S2 g4a_S2 pS4 z3_S4 z4_S4 z6_S4 z8_S4 z11_S4 z12_S4 z18_S4 z19_S4 f1_S4 f1a_S4 f2_S4 f2a_S4 f8_S4 f8a_S4 f46_S4 f46a_S4 f48_S4 f48a_S4 g3_S4 g3a_S4 g4_S4 g4a_S4 pS5 z4_S5 z6_S5 z7_S5 z8_S5 z11_S5 z12_S5 z18_S5 z19_S5 f1_S5 f1a_S5 f2_S5 f2a_S5 f8_S5 f8a_S5 f46_S5 f46a_S5 f48_S5 f48a_S5 g3_S5 g3a_S5 g4_S5 g4a_S5 pS7 z4_S7 z6_S7 z7_S7 z8_S7 z11_S7 z12_S7 z18_S7 z19_S7 f1_S7 f1a_S7 f2_S7 f2a_S7 f8_S7 f8a_S7 f46_S7 f46a_S7 f48_S7 f48a_S7 g3_S7 g3a_S7 g4_S7 g4a_S7 pS9 z4_S9 z6_S9 z7_S9 z8_S9 z11_S9 z12_S9 z18_S9 z19_S9 f1_S9 f1a_S9 f2_S9 f2a_S9 f8_S9 f8a_S9 f46_S9 f46a_S9 f48_S9 f48a_S9 g3_S9 g3a_S9 g4_S9 g4a_S9 pS11 z4_S11 z6_S11 z7_S11 z8_S11 z11_S11 z12_S11 z18_S11 z19_S11 f1_S11 f1a_S11 f2_S11 f2a_S11 f8_S11 f8a_S11 f46_S11 f46a_S11 f48_S11 f48a_S11 g3_S11 g3a_S11 g4_S11 g4a_S11 pS22 z6_S22 z12_S22 f1_S22 f1a_S22 f2_S22 f2a_S22 g3_S22 g3a_S22 g4_S22 g4a_S22; grind (ematch := 20) (gen := 20) [→ LV_d, → CF_tick0, → CF_open20, → CF_nc, → AF_na, → OH_no, → CF_step, → CF_e0, → CF_letter, → CF_tick, → CF_yield, → CF_open2, → CF_openv, → CF_shut, ti_link])⟩
        · refine fm_emit _ _ _ _ _ _ (fun S23 r23 hF38 pS23 => ?_) (sg_emit (nx := nx) _ _ _ (by (try clear hC hA hO hh nS1 mS1 oS1 nS2 mS2 oS2 qS4 mS4 nS5 mS5 oS5 nS7 mS7 oS7 nS9 mS9 oS9); (try clear j168); (try clear j180); (try clear j223); (try clear hk197); (try clear hr_waitTree); (try clear hf_waitTree); grind [XI, PI, PJ, BU, LV, LA_i, q_zz, q_za, q_zga, q_fza, q_fx, q_fga, q_gza, q_gfa, q_gx, q_zf1, q_zg1, q_ff, q_fg1, q_gf1, q_gg, ti_link]))
          obtain ⟨pS23, qS23⟩ := pS23
          have fS23 : S23.1 4 = 0 → S9.1 4 = 0 := fun q => (hF38.1 4 (by decide)).symm.trans q
          have mS23 : NA S9 S23 := NA_fr hF38 (by decide) (by decide) fS23
          have z3_S23 := hF38.1 3 (by decide)
          have z4_S23 := hF38.1 4 (by decide)
          have z6_S23 := hF38.1 6 (by decide)
          have z8_S23 := hF38.1 8 (by decide)
          have z11_S23 := hF38.1 11 (by decide)
          have z12_S23 := hF38.1 12 (by decide)
          have z18_S23 := hF38.1 18 (by decide)
          have z19_S23 := hF38.1 19 (by decide)
          have f1_S23 := hF38.2.1 1 (by decide)
          have f1a_S23 := Fr_fa hF38 1 (by decide)
          have f2_S23 := hF38.2.1 2 (by decide)
          have f2a_S23 := Fr_fa hF38 2 (by decide)
          have f8_S23 := hF38.2.1 8 (by decide)
          have f8a_S23 := Fr_fa hF38 8 (by decide)
          have f46_S23 := hF38.2.1 46 (by decide)
          have f46a_S23 := Fr_fa hF38 46 (by decide)
          have f48_S23 := hF38.2.1 48 (by decide)
          have f48a_S23 := Fr_fa hF38 48 (by decide)
          have g3_S23 := hF38.2.2 3 (by decide)
          have g3a_S23 := Fr_ga hF38 3 (by decide)
          have g4_S23 := hF38.2.2 4 (by decide)
          have g4a_S23 := Fr_ga hF38 4 (by decide)
          clear hF38
          unfold wp_waitTree_256
          intro z28 ez28
          intro S29 eS29
          have nS29 : NC S23 S29 := NC_z eS29 (by decide)
          have mS29 : NA S23 S29 := NA_z eS29 (by decide)
          have oS29 : NO nx S23 S29 := NO_z eS29
          exact ⟨by (try clear hC hA hO hh nS1 mS1 oS1 nS2 mS2 oS2 qS4 mS4 nS5 mS5 oS5 nS7 mS7 oS7 nS9 mS9 oS9 qS23 mS23 nS29 mS29 oS29); (try clear j168); (try clear j180); (try clear j223); (try clear hk197); (try clear hr_waitTree); (try clear hf_waitTree); grind [XI, PI, PJ, BU, LV, LA_i, q_zz, q_za, q_zga, q_fza, q_fx, q_fga, q_gza, q_gfa, q_gx, q_zf1, q_zg1, q_ff, q_fg1, q_gf1, q_gg, ti_link], by refine ⟨?_, ?_, ?_⟩ <;> ((try clear j168); (try clear j180); (try clear j223); (try clear hk197); (try clear hr_waitTree); (try clear hf_waitTree); clear pS1 z3_S1 z4_S1 z6_S1 z7_S1 z8_S1 z11_S1 z12_S1 z18_S1 z19_S1 f1_S1 f1a_S1 f2_S1 f2a_S1 f8_S1 f8a_S1 f46_S1 f46a_S1 f48_S1 f48a_S1 g3_S1 g3a_S1 g4_S1 g4a_S1 pS2 z3_S2 z6_S2 z7_S2 z8_S2 z11_S2 z12_S2 z19_S2 f1_S2 f1a_S2 f2_S2 f2a_S2 f8_S2 f8a_S2 f46_S2 f46a_S2 f48_S2 f48a_S2 g3_S2 g3a_S2 g4_S2 g4a_S2 pS4 z3_S4 z4_S4 z6_S4 z8_S4 z11_S4 z12_S4 z18_S4 z19_S4 f1_S4 f1a_S4 f2_S4 f2a_S4 f8_S4 f8a_S4 f46_S4 f46a_S4 f48_S4 f48a_S4 g3_S4 g3a_S4 g4_S4 g4a_S4 pS5 z4_S5 z6_S5 z7_S5 z8_S5 z11_S5 z12_S5 z18_S5 z19_S5 f1_S5 f1a_S5 f2_S5 f2a_S5 f8_S5 f8a_S5 f46_S5 f46a_S5 f48_S5 f48a_S5 g3_S5 g3a_S5 g4_S5 g4a_S5 pS7 z4_S7 z6_S7 z7_S7 z8_S7 z11_S7 z12_S7 z18_S7 z19_S7 f1_S7 f1a_S7 f2_S7 f2a_S7 f8_S7 f8a_S7 f46_S7 f46a_S7 f48_S7 f48a_S7 g3_S7 g3a_S7 g4_S7 g4a_S7 pS9 z4_S9 z6_S9 z7_S9 z8_S9 z11_S9 z12_S9 z18_S9 z19_S9 f1_S9 f1a_S9 f2_S9 f2a_S9 f8_S9 f8a_S9 f46_S9 f46a_S9 f48_S9 f48a_S9 g3_S9 g3a_S9 g4_S9 g4a_S9 pS23 z3_S23 z4_S23 z6_S23 z8_S23 z11_S23 z12_S23 z18_S23 z19_S23 f1_S23 f1a_S23 f2_S23 f2a_S23 f8_S23 f8a_S23 f46_S23 f46a_S23 f48_S23 f48a_S23 g3_S23 g3a_S23 g4_S23 g4a_S23; grind (ematch := 20) (gen := 20) [→ LV_d, → CF_tick0, → CF_open20, → CF_nc, → AF_na, → OH_no, → CF_step, → CF_e0, → CF_letter, → CF_tick, → CF_yield, → CF_open2, → CF_openv, → CF_shut, ti_link])⟩
      · refine fq_expression _ _ _ (fun S24 hF39 pS24 => ?_) (sq_expression (nx := nx) (n := n) (so := so) (pl := pl) (wo := wo) (ws := ws) (S0 := S0) (d := (d + 1)) (G := (G - 3)) (GA := GA) (X := (1000 - 40 * (d + 1))) (Y := (400 - 20 * (d + 1))) (kL := kL) (kn := kn) (kw := kw) (kh := 0) (ki := 1) (kc := (kc + 1)) (ko := ko) (km := km) (kt := kt) (by (try clear hC hA hO hh nS1 mS1 oS1 nS2 mS2 oS2 qS4 mS4 nS5 mS5 oS5 nS7 mS7 oS7); (try clear j168); (try clear j180); (try clear j223); (try clear hk197); (try clear hr_waitTree); (try clear hf_waitTree); grind [XI, PI, PJ, BU, LV, LA_i, q_zz, q_za, q_zga, q_fza, q_fx, q_fga, q_gza, q_gfa, q_gx, q_zf1, q_zg1, q_ff, q_fg1, q_gf1, q_gg, ti_link]) (by (try clear hC hA hO hh nS1 mS1 oS1 nS2 mS2 oS2 qS4 mS4 nS5 mS5 oS5 nS7 mS7 oS7); (try clear j168); (try clear j180); (try clear j223); (try clear hk197); (try clear hr_waitTree); (try clear hf_waitTree); grind [XI, PI, PJ, BU, LV, LA_i, q_zz, q_za, q_zga, q_fza, q_fx, q_fga, q_gza, q_gfa, q_gx, q_zf1, q_zg1, q_ff, q_fg1, q_gf1, q_gg, ti_link]) (by (try clear j168); (try clear j180); (try clear j223); (try clear hk197); (try clear hr_waitTree); (try clear hf_waitTree); clear pS1 z3_S1 z4_S1 z6_S1 z7_S1 z8_S1 z11_S1 z12_S1 z18_S1 z19_S1 f1_S1 f1a_S1 f2_S1 f2a_S1 f8_S1 f8a_S1 f46_S1 f46a_S1 f48_S1 f48a_S1 g3_S1 g3a_S1 g4_S1 g4a_S1 pS2 z3_S2 z6_S2 z7_S2 z8_S2 z11_S2 z12_S2 z19_S2 f1_S2 f1a_S2 f2_S2 f2a_S2 f8_S2 f8a_S2 f46_S2 f46a_S2 f48_S2 f48a_S2 g3_S2 g3a_S2 g4_S2 g4a_S2 pS4 z3_S4 z4_S4 z6_S4 z8_S4 z11_S4 z12_S4 z18_S4 z19_S4 f1_S4 f1a_S4 f2_S4 f2a_S4 f8_S4 f8a_S4 f46_S4 f46a_S4 f48_S4 f48a_S4 g3_S4 g3a_S4 g4_S4 g4a_S4 pS5 z4_S5 z6_S5 z7_S5 z8_S5 z11_S5 z12_S5 z18_S5 z19_S5 f1_S5 f1a_S5 f2_S5 f2a_S5 f8_S5 f8a_S5 f46_S5 f46a_S5 f48_S5 f48a_S5 g3_S5 g3a_S5 g4_S5 g4a_S5 pS7 z4_S7 z6_S7 z7_S7 z8_S7 z11_S7 z12_S7 z18_S7 z19_S7 f1_S7 f1a_S7 f2_S7 f2a_S7 f8_S7 f8a_S7 f46_S7 f46a_S7 f48_S7 f48a_S7 g3_S7 g3a_S7 g4_S7 g4a_S7; grind (ematch := 20) (gen := 20) [→ LV_d, → CF_tick0, → CF_open20, → CF_nc, → AF_na, → OH_no, → CF_step, → CF_e0, → CF_letter, → CF_tick, → CF_yield, → CF_open2, → CF_openv, → CF_shut, ti_link]) (by (try clear j168); (try clear j180); (try clear j223); (try clear hk197); (try clear hr_waitTree); (try clear hf_waitTree); clear pS1 z3_S1 z4_S1 z6_S1 z7_S1 z8_S1 z11_S1 z12_S1 z18_S1 z19_S1 f1_S1 f1a_S1 f2_S1 f2a_S1 f8_S1 f8a_S1 f46_S1 f46a_S1 f48_S1 f48a_S1 g3_S1 g3a_S1 g4_S1 g4a_S1 pS2 z3_S2 z6_S2 z7_S2 z8_S2 z11_S2 z12_S2 z19_S2 f1_S2 f1a_S2 f2_S2 f2a_S2 f8_S2 f8a_S2 f46_S2 f46a_S2 f48_S2 f48a_S2 g3_S2 g3a_S2 g4_S2 g4a_S2 pS4 z3_S4 z4_S4 z6_S4 z8_S4 z11_S4 z12_S4 z18_S4 z19_S4 f1_S4 f1a_S4 f2_S4 f2a_S4 f8_S4 f8a_S4 f46_S4 f46a_S4 f48_S4 f48a_S4 g3_S4 g3a_S4 g4_S4 g4a_S4 pS5 z4_S5 z6_S5 z7_S5 z8_S5 z11_S5 z12_S5 z18_S5 z19_S5 f1_S5 f1a_S5 f2_S5 f2a_S5 f8_S5 f8a_S5 f46_S5 f46a_S5 f48_S5 f48a_S5 g3_S5 g3a_S5 g4_S5 g4a_S5 pS7 z4_S7 z6_S7 z7_S7 z8_S7 z11_S7 z12_S7 z18_S7 z19_S7 f1_S7 f1a_S7 f2_S7 f2a_S7 f8_S7 f8a_S7 f46_S7 f46a_S7 f48_S7 f48a_S7 g3_S7 g3a_S7 g4_S7 g4a_S7; grind (ematch := 20) (gen := 20) [→ LV_d, → CF_tick0, → CF_open20, → CF_nc, → AF_na, → OH_no, → CF_step, → CF_e0, → CF_letter, → CF_tick, → CF_yield, → CF_open2, → CF_openv, → CF_shut, ti_link]) (by (try clear j168); (try clear j180); (try clear j223); (try clear hk197); (try clear hr_waitTree); (try clear hf_waitTree); clear pS1 z3_S1 z4_S1 z6_S1 z7_S1 z8_S1 z11_S1 z12_S1 z18_S1 z19_S1 f1_S1 f1a_S1 f2_S1 f2a_S1 f8_S1 f8a_S1 f46_S1 f46a_S1 f48_S1 f48a_S1 g3_S1 g3a_S1 g4_S1 g4a_S1 pS2 z3_S2 z6_S2 z7_S2 z8_S2 z11_S2 z12_S2 z19_S2 f1_S2 f1a_S2 f2_S2 f2a_S2 f8_S2 f8a_S2 f46_S2 f46a_S2 f48_S2 f48a_S2 g3_S2 g3a_S2 g4_S2 g4a_S2 pS4 z3_S4 z4_S4 z6_S4 z8_S4 z11_S4 z12_S4 z18_S4 z19_S4 f1_S4 f1a_S4 f2_S4 f2a_S4 f8_S4 f8a_S4 f46_S4 f46a_S4 f48_S4 f48a_S4 g3_S4 g3a_S4 g4_S4 g4a_S4 pS5 z4_S5 z6_S5 z7_S5 z8_S5 z11_S5 z12_S5 z18_S5 z19_S5 f1_S5 f1a_S5 f2_S5 f2a_S5 f8_S5 f8a_S5 f46_S5 f46a_S5 f48_S5 f48a_S5 g3_S5 g3a_S5 g4_S5 g4a_S5 pS7 z4_S7 z6_S7 z7_S7 z8_S7 z11_S7 z12_S7 z18_S7 z19_S7 f1_S7 f1a_S7 f2_S7 f2a_S7 f8_S7 f8a_S7 f46_S7 f46a_S7 f48_S7 f48a_S7 g3_S7 g3a_S7 g4_S7 g4a_S7; grind (ematch := 20) (gen := 20) [→ LV_d, → CF_tick0, → CF_open20, → CF_nc, → AF_na, → OH_no, → CF_step, → CF_e0, → CF_letter, → CF_tick, → CF_yield, → CF_open2, → CF_openv, → CF_shut, ti_link]) (by (try clear j168); (try clear j180); (try clear j223); (try clear hk197); (try clear hr_waitTree); (try clear hf_waitTree); clear pS1 z3_S1 z4_S1 z6_S1 z7_S1 z8_S1 z11_S1 z12_S1 z18_S1 z19_S1 f1_S1 f1a_S1 f2_S1 f2a_S1 f8_S1 f8a_S1 f46_S1 f46a_S1 f48_S1 f48a_S1 g3_S1 g3a_S1 g4_S1 g4a_S1 pS2 z3_S2 z6_S2 z7_S2 z8_S2 z11_S2 z12_S2 z19_S2 f1_S2 f1a_S2 f2_S2 f2a_S2 f8_S2 f8a_S2 f46_S2 f46a_S2 f48_S2 f48a_S2 g3_S2 g3a_S2 g4_S2 g4a_S2 pS4 z3_S4 z4_S4 z6_S4 z8_S4 z11_S4 z12_S4 z18_S4 z19_S4 f1_S4 f1a_S4 f2_S4 f2a_S4 f8_S4 f8a_S4 f46_S4 f46a_S4 f48_S4 f48a_S4 g3_S4 g3a_S4 g4_S4 g4a_S4 pS5 z4_S5 z6_S5 z7_S5 z8_S5 z11_S5 z12_S5 z18_S5 z19_S5 f1_S5 f1a_S5 f2_S5 f2a_S5 f8_S5 f8a_S5 f46_S5 f46a_S5 f48_S5 f48a_S5 g3_S5 g3a_S5 g4_S5 g4a_S5 pS7 z4_S7 z6_S7 z7_S7 z8_S7 z11_S7 z12_S7 z18_S7 z19_S7 f1_S7 f1a_S7 f2_S7 f2a_S7 f8_S7 f8a_S7 f46_S7 f46a_S7 f48_S7 f48a_S7 g3_S7 g3a_S7 g4_S7 g4a_S7; grind (ematch := 20) (gen := 20) [→ LV_d, → CF_tick0, → CF_open20, → CF_nc, → AF_na, → OH_no, → CF_step, → CF_e0, → CF_letter, → CF_tick, → CF_yield, → CF_open2, → CF_openv, → CF_shut, ti_link]))
        obtain ⟨pS24, qS24⟩ := pS24
        have z6_S24 := hF39.1 6 (by decide)
        have z11_S24 := hF39.1 11 (by decide)
        have z12_S24 := hF39.1 12 (by decide)
        have f1_S24 := hF39.2.1 1 (by decide)
        have f1a_S24 := Fr_fa hF39 1 (by decide)
        have f2_S24 := hF39.2.1 2 (by decide)
        have f2a_S24 := Fr_fa hF39 2 (by decide)
        have f46_S24 := hF39.2.1 46 (by decide)
        have f46a_S24 := Fr_fa hF39 46 (by decide)
        have f48_S24 := hF39.2.1 48 (by decide)
        have f48a_S24 := Fr_fa hF39 48 (by decide)
        have g3_S24 := hF39.2.2 3 (by decide)
        have g3a_S24 := Fr_ga hF39 3 (by decide)
        have g4_S24 := hF39.2.2 4 (by decide)
        have g4a_S24 := Fr_ga hF39 4 (by decide)
        clear hF39
        refine fm_emit _ _ _ _ _ _ (fun S25 r25 hF40 pS25 => ?_) (sg_emit (nx := nx) _ _ _ (by (try clear hC hA hO hh nS1 mS1 oS1 nS2 mS2 oS2 qS4 mS4 nS5 mS5 oS5 nS7 mS7 oS7 qS24); (try clear j168); (try clear j180); (try clear j223); (try clear hk197); (try clear hr_waitTree); (try clear hf_waitTree); grind [XI, PI, PJ, BU, LV, LA_i, q_zz, q_za, q_zga, q_fza, q_fx, q_fga, q_gza, q_gfa, q_gx, q_zf1, q_zg1, q_ff, q_fg1, q_gf1, q_gg, ti_link]))
        obtain ⟨pS25, qS25⟩ := pS25
        have fS25 : S25.1 4 = 0 → S24.1 4 = 0 := fun q => (hF40.1 4 (by decide)).symm.trans q
        have mS25 : NA S24 S25 := NA_fr hF40 (by decide) (by decide) fS25
        have z3_S25 := hF40.1 3 (by decide)
        have z4_S25 := hF40.1 4 (by decide)
        have z6_S25 := hF40.1 6 (by decide)
        have z8_S25 := hF40.1 8 (by decide)
        have z11_S25 := hF40.1 11 (by decide)
        have z12_S25 := hF40.1 12 (by decide)
        have z18_S25 := hF40.1 18 (by decide)
        have z19_S25 := hF40.1 19 (by decide)
        have f1_S25 := hF40.2.1 1 (by decide)
        have f1a_S25 := Fr_fa hF40 1 (by decide)
        have f2_S25 := hF40.2.1 2 (by decide)
        have f2a_S25 := Fr_fa hF40 2 (by decide)
        have f8_S25 := hF40.2.1 8 (by decide)
        have f8a_S25 := Fr_fa hF40 8 (by decide)
        have f46_S25 := hF40.2.1 46 (by decide)
        have f46a_S25 := Fr_fa hF40 46 (by decide)
        have f48_S25 := hF40.2.1 48 (by decide)
        have f48a_S25 := Fr_fa hF40 48 (by decide)
        have g3_S25 := hF40.2.2 3 (by decide)
        have g3a_S25 := Fr_ga hF40 3 (by decide)
        have g4_S25 := hF40.2.2 4 (by decide)
        have g4a_S25 := Fr_ga hF40 4 (by decide)
        clear hF40
        unfold wp_waitTree_256
        intro z28 ez28
        intro S29 eS29
        have nS29 : NC S25 S29 := NC_z eS29 (by decide)
        have mS29 : NA S25 S29 := NA_z eS29 (by decide)
        have oS29 : NO nx S25 S29 := NO_z eS29
        exact ⟨by (try clear hC hA hO hh nS1 mS1 oS1 nS2 mS2 oS2 qS4 mS4 nS5 mS5 oS5 nS7 mS7 oS7 qS24 qS25 mS25 nS29 mS29 oS29); (try clear j168); (try clear j180); (try clear j223); (try clear hk197); (try clear hr_waitTree); (try clear hf_waitTree); grind [XI, PI, PJ, BU, LV, LA_i, q_zz, q_za, q_zga, q_fza, q_fx, q_fga, q_gza, q_gfa, q_gx, q_zf1, q_zg1, q_ff, q_fg1, q_gf1, q_gg, ti_link], by refine ⟨?_, ?_, ?_⟩ <;> ((try clear j168); (try clear j180); (try clear j223); (try clear hk197); (try clear hr_waitTree); (try clear hf_waitTree); clear pS1 z3_S1 z4_S1 z6_S1 z7_S1 z8_S1 z11_S1 z12_S1 z18_S1 z19_S1 f1_S1 f1a_S1 f2_S1 f2a_S1 f8_S1 f8a_S1 f46_S1 f46a_S1 f48_S1 f48a_S1 g3_S1 g3a_S1 g4_S1 g4a_S1 pS2 z3_S2 z6_S2 z7_S2 z8_S2 z11_S2 z12_S2 z19_S2 f1_S2 f1a_S2 f2_S2 f2a_S2 f8_S2 f8a_S2 f46_S2 f46a_S2 f48_S2 f48a_S2 g3_S2 g3a_S2 g4_S2 g4a_S2 pS4 z3_S4 z4_S4 z6_S4 z8_S4 z11_S4 z12_S4 z18_S4 z19_S4 f1_S4 f1a_S4 f2_S4 f2a_S4 f8_S4 f8a_S4 f46_S4 f46a_S4 f48_S4 f48a_S4 g3_S4 g3a_S4 g4_S4 g4a_S4 pS5 z4_S5 z6_S5 z7_S5 z8_S5 z11_S5 z12_S5 z18_S5 z19_S5 f1_S5 f1a_S5 f2_S5 f2a_S5 f8_S5 f8a_S5 f46_S5 f46a_S5 f48_S5 f48a_S5 g3_S5 g3a_S5 g4_S5 g4a_S5 pS7 z4_S7 z6_S7 z7_S7 z8_S7 z11_S7 z12_S7 z18_S7 z19_S7 f1_S7 f1a_S7 f2_S7 f2a_S7 f8_S7 f8a_S7 f46_S7 f46a_S7 f48_S7 f48a_S7 g3_S7 g3a_S7 g4_S7 g4a_S7 pS24 z6_S24 z11_S24 z12_S24 f1_S24 f1a_S24 f2_S24 f2a_S24 f46_S24 f46a_S24 f48_S24 f48a_S24 g3_S24 g3a_S24 g4_S24 g4a_S24 pS25 z3_S25 z4_S25 z6_S25 z8_S25 z11_S25 z12_S25 z18_S25 z19_S25 f1_S25 f1a_S25 f2_S25 f2a_S25 f8_S25 f8a_S25 f46_S25 f46a_S25 f48_S25 f48a_S25 g3_S25 g3a_S25 g4_S25 g4a_S25; grind (ematch := 20) (gen := 20) [→ LV_d, → CF_tick0, → CF_open20, → CF_nc, → AF_na, → OH_no, → CF_step, → CF_e0, → CF_letter, → CF_tick, → CF_yield, → CF_open2, → CF_openv, → CF_shut, ti_link])⟩
    · refine fm_takeNumber _ _ _ _ _ (fun S26 r26 hF41 pS26 => ?_) (sg_takeNumber (nx := nx) (n := n) (so := so) (pl := pl) (wo := wo) (ws := ws) _ _ (by (try clear hC hA hO hh nS1 mS1 oS1 nS2 mS2 oS2 qS4 mS4 nS5 mS5 oS5); (try clear j168); (try clear j180); (try clear j223); (try clear hk197); (try clear hr_waitTree); (try clear hf_waitTree); grind [XI, PI, PJ, BU, LV, LA_i, q_zz, q_za, q_zga, q_fza, q_fx, q_fga, q_gza, q_gfa, q_gx, q_zf1, q_zg1, q_ff, q_fg1, q_gf1, q_gg, ti_link]))
      have fS26 : S26.1 4 = 0 → S5.1 4 = 0 := by (try clear hC hA hO hh nS1 mS1 oS1 nS2 mS2 oS2 qS4 mS4 nS5 mS5 oS5); (try clear j168); (try clear j180); (try clear j223); (try clear hk197); (try clear hr_waitTree); (try clear hf_waitTree); grind [ti_link]
      have nS26 : NC S5 S26 := NC_fr hF41 (by decide) (by decide) fS26
      have mS26 : NA S5 S26 := NA_fr hF41 (by decide) (by decide) fS26
      have oS26 : NO nx S5 S26 := NO_fr hF41 (by decide) (by decide)
      have z6_S26 := hF41.1 6 (by decide)
      have z7_S26 := hF41.1 7 (by decide)
      have z8_S26 := hF41.1 8 (by decide)
      have z11_S26 := hF41.1 11 (by decide)
      have z12_S26 := hF41.1 12 (by decide)
      have z18_S26 := hF41.1 18 (by decide)
      have z19_S26 := hF41.1 19 (by decide)
      have f1_S26 := hF41.2.1 1 (by decide)
      have f1a_S26 := Fr_fa hF41 1 (by decide)
      have f2_S26 := hF41.2.1 2 (by decide)
      have f2a_S26 := Fr_fa hF41 2 (by decide)
      have f8_S26 := hF41.2.1 8 (by decide)
      have f8a_S26 := Fr_fa hF41 8 (by decide)
      have f46_S26 := hF41.2.1 46 (by decide)
      have f46a_S26 := Fr_fa hF41 46 (by decide)
      have f48_S26 := hF41.2.1 48 (by decide)
      have f48a_S26 := Fr_fa hF41 48 (by decide)
      have g3_S26 := hF41.2.2 3 (by decide)
      have g3a_S26 := Fr_ga hF41 3 (by decide)
      have g4_S26 := hF41.2.2 4 (by decide)
      have g4a_S26 := Fr_ga hF41 4 (by decide)
      clear hF41
      have lS26 : (S26.1 4) = 0 → 0 ≤ r26.toInt ∧ r26.toInt < 8 := by (try clear hC hA hO hh nS1 mS1 oS1 nS2 mS2 oS2 qS4 mS4 nS5 mS5 oS5 nS26 mS26 oS26); (try clear j168); (try clear j180); (try clear j223); (try clear hk197); (try clear hr_waitTree); (try clear hf_waitTree); grind [XI, PI, PJ, BU, LV, LA_i, q_zz, q_za, q_zga, q_fza, q_fx, q_fga, q_gza, q_gfa, q_gx, q_zf1, q_zg1, q_ff, q_fg1, q_gf1, q_gg, ti_link]
      refine fm_emit _ _ _ _ _ _ (fun S27 r27 hF42 pS27 => ?_) (sg_emit (nx := nx) _ _ _ (by (try clear hC hA hO hh nS1 mS1 oS1 nS2 mS2 oS2 qS4 mS4 nS5 mS5 oS5 nS26 mS26 oS26 lS26); (try clear j168); (try clear j180); (try clear j223); (try clear hk197); (try clear hr_waitTree); (try clear hf_waitTree); grind [XI, PI, PJ, BU, LV, LA_i, q_zz, q_za, q_zga, q_fza, q_fx, q_fga, q_gza, q_gfa, q_gx, q_zf1, q_zg1, q_ff, q_fg1, q_gf1, q_gg, ti_link]))
      obtain ⟨pS27, qS27⟩ := pS27
      have fS27 : S27.1 4 = 0 → S26.1 4 = 0 := fun q => (hF42.1 4 (by decide)).symm.trans q
      have mS27 : NA S26 S27 := NA_fr hF42 (by decide) (by decide) fS27
      have z3_S27 := hF42.1 3 (by decide)
      have z4_S27 := hF42.1 4 (by decide)
      have z6_S27 := hF42.1 6 (by decide)
      have z8_S27 := hF42.1 8 (by decide)
      have z11_S27 := hF42.1 11 (by decide)
      have z12_S27 := hF42.1 12 (by decide)
      have z18_S27 := hF42.1 18 (by decide)
      have z19_S27 := hF42.1 19 (by decide)
      have f1_S27 := hF42.2.1 1 (by decide)
      have f1a_S27 := Fr_fa hF42 1 (by decide)
      have f2_S27 := hF42.2.1 2 (by decide)
      have f2a_S27 := Fr_fa hF42 2 (by decide)
      have f8_S27 := hF42.2.1 8 (by decide)
      have f8a_S27 := Fr_fa hF42 8 (by decide)
      have f46_S27 := hF42.2.1 46 (by decide)
      have f46a_S27 := Fr_fa hF42 46 (by decide)
      have f48_S27 := hF42.2.1 48 (by decide)
      have f48a_S27 := Fr_fa hF42 48 (by decide)
      have g3_S27 := hF42.2.2 3 (by decide)
      have g3a_S27 := Fr_ga hF42 3 (by decide)
      have g4_S27 := hF42.2.2 4 (by decide)
      have g4a_S27 := Fr_ga hF42 4 (by decide)
      clear hF42
      unfold wp_waitTree_256
      intro z28 ez28
      intro S29 eS29
      have nS29 : NC S27 S29 := NC_z eS29 (by decide)
      have mS29 : NA S27 S29 := NA_z eS29 (by decide)
      have oS29 : NO nx S27 S29 := NO_z eS29
      exact ⟨by (try clear hC hA hO hh nS1 mS1 oS1 nS2 mS2 oS2 qS4 mS4 nS5 mS5 oS5 nS26 mS26 oS26 lS26 qS27 mS27 nS29 mS29 oS29); (try clear j168); (try clear j180); (try clear j223); (try clear hk197); (try clear hr_waitTree); (try clear hf_waitTree); grind [XI, PI, PJ, BU, LV, LA_i, q_zz, q_za, q_zga, q_fza, q_fx, q_fga, q_gza, q_gfa, q_gx, q_zf1, q_zg1, q_ff, q_fg1, q_gf1, q_gg, ti_link], by refine ⟨?_, ?_, ?_⟩ <;> ((try clear j168); (try clear j180); (try clear j223); (try clear hk197); (try clear hr_waitTree); (try clear hf_waitTree); clear pS1 z3_S1 z4_S1 z6_S1 z7_S1 z8_S1 z11_S1 z12_S1 z18_S1 z19_S1 f1_S1 f1a_S1 f2_S1 f2a_S1 f8_S1 f8a_S1 f46_S1 f46a_S1 f48_S1 f48a_S1 g3_S1 g3a_S1 g4_S1 g4a_S1 pS2 z3_S2 z6_S2 z7_S2 z8_S2 z11_S2 z12_S2 z19_S2 f1_S2 f1a_S2 f2_S2 f2a_S2 f8_S2 f8a_S2 f46_S2 f46a_S2 f48_S2 f48a_S2 g3_S2 g3a_S2 g4_S2 g4a_S2 pS4 z3_S4 z4_S4 z6_S4 z8_S4 z11_S4 z12_S4 z18_S4 z19_S4 f1_S4 f1a_S4 f2_S4 f2a_S4 f8_S4 f8a_S4 f46_S4 f46a_S4 f48_S4 f48a_S4 g3_S4 g3a_S4 g4_S4 g4a_S4 pS5 z4_S5 z6_S5 z7_S5 z8_S5 z11_S5 z12_S5 z18_S5 z19_S5 f1_S5 f1a_S5 f2_S5 f2a_S5 f8_S5 f8a_S5 f46_S5 f46a_S5 f48_S5 f48a_S5 g3_S5 g3a_S5 g4_S5 g4a_S5 pS26 z6_S26 z7_S26 z8_S26 z11_S26 z12_S26 z18_S26 z19_S26 f1_S26 f1a_S26 f2_S26 f2a_S26 f8_S26 f8a_S26 f46_S26 f46a_S26 f48_S26 f48a_S26 g3_S26 g3a_S26 g4_S26 g4a_S26 pS27 z3_S27 z4_S27 z6_S27 z8_S27 z11_S27 z12_S27 z18_S27 z19_S27 f1_S27 f1a_S27 f2_S27 f2a_S27 f8_S27 f8a_S27 f46_S27 f46a_S27 f48_S27 f48a_S27 g3_S27 g3a_S27 g4_S27 g4a_S27; grind (ematch := 20) (gen := 20) [→ LV_d, → CF_tick0, → CF_open20, → CF_nc, → AF_na, → OH_no, → CF_step, → CF_e0, → CF_letter, → CF_tick, → CF_yield, → CF_open2, → CF_openv, → CF_shut, ti_link])⟩
  · exact ⟨by (try clear hC hA hO hh nS1 mS1 oS1 nS2 mS2 oS2); (try clear j168); (try clear j180); (try clear j223); (try clear hk197); (try clear hr_waitTree); (try clear hf_waitTree); grind [XI, PI, PJ, BU, LV, LA_i, q_zz, q_za, q_zga, q_fza, q_fx, q_fga, q_gza, q_gfa, q_gx, q_zf1, q_zg1, q_ff, q_fg1, q_gf1, q_gg, ti_link], by refine ⟨?_, ?_, ?_⟩ <;> ((try clear j168); (try clear j180); (try clear j223); (try clear hk197); (try clear hr_waitTree); (try clear hf_waitTree); clear pS1 z3_S1 z4_S1 z6_S1 z7_S1 z8_S1 z11_S1 z12_S1 z18_S1 z19_S1 f1_S1 f1a_S1 f2_S1 f2a_S1 f8_S1 f8a_S1 f46_S1 f46a_S1 f48_S1 f48a_S1 g3_S1 g3a_S1 g4_S1 g4a_S1 pS2 z3_S2 z6_S2 z7_S2 z8_S2 z11_S2 z12_S2 z19_S2 f1_S2 f1a_S2 f2_S2 f2a_S2 f8_S2 f8a_S2 f46_S2 f46a_S2 f48_S2 f48a_S2 g3_S2 g3a_S2 g4_S2 g4a_S2; grind (ematch := 20) (gen := 20) [→ LV_d, → CF_tick0, → CF_open20, → CF_nc, → AF_na, → OH_no, → CF_step, → CF_e0, → CF_letter, → CF_tick, → CF_yield, → CF_open2, → CF_openv, → CF_shut, ti_link])⟩
