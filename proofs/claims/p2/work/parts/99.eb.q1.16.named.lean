
set_option maxHeartbeats 4000000 in
theorem sg_named {hx m : Nat} {T : mS} (a0 : Int32) {S : mS} (hE : EQ T S) (h0 : (S.1 1).toInt = m) (hm : m ≤ 4000) (hn : (T.1 5).toInt = hx ∧ hx ≤ 1 ∧ 0 ≤ ((T.2.1 5) hx).toInt ∧ ((T.2.1 5) hx).toInt ≤ 12) (hc : CE ((T.2.1 8))) : wp_named a0 S (fun S1 r => (S1.1 1) = 0 ∧ EQ T S1) := by
  unfold wp_named
  intro S1 eS1
  have  hE1 : EQ T S1 := by
        rw [eS1]
        exact EQ_z hE (by decide)
  refine fm_cutAll _ _ _ (fun S2 hF1 pS2 => ?_) (sg_cutAll (m := m) (by grind [CE_in, EQ_r, → EQ_5, EQ_f, EQ_z, q_zz, q_za, q_zga, q_fza, q_fx, q_fga, q_gza, q_gfa, q_gx, q_zf1, q_zg1, q_ff, q_fg1, q_gf1, q_gg, ti_link, in2, in24, in4002]) (by grind [CE_in, EQ_r, → EQ_5, EQ_f, EQ_z, q_zz, q_za, q_zga, q_fza, q_fx, q_fga, q_gza, q_gfa, q_gx, q_zf1, q_zg1, q_ff, q_fg1, q_gf1, q_gg, ti_link, in2, in24, in4002]))
  have z5_S2 := hF1.1 5 (by decide)
  have hEF : EQ T S1 → EQ T S2 := fun q => ⟨(hF1.1 5 (by decide)).trans q.1, fun k h5 hk => (hF1.2.1 k (fun q9 => by simp at q9; omega)).trans (q.2 k h5 hk)⟩
  clear hF1
  obtain ⟨n, hLX, hat, hfa, hta⟩ := pS2
  have hE2 : EQ T S2 := hEF hE1
  have i5 : ix (S2.1 5) = hx := by
    have q : (S2.1 5).toInt = hx := by (try clear hEF); grind [CE_in, EQ_r, → EQ_5, EQ_f, EQ_z, q_zz, q_za, q_zga, q_fza, q_fx, q_fga, q_gza, q_gfa, q_gx, q_zf1, q_zg1, q_ff, q_fg1, q_gf1, q_gg, ti_link, in2, in24, in4002]
    unfold ix
    omega
  refine ⟨by (try clear hEF); grind [CE_in, EQ_r, → EQ_5, EQ_f, EQ_z, q_zz, q_za, q_zga, q_fza, q_fx, q_fga, q_gza, q_gfa, q_gx, q_zf1, q_zg1, q_ff, q_fg1, q_gf1, q_gg, ti_link, in2, in24, in4002], ?_⟩
  intro z3 ez3
  refine ⟨fun c2 => ?_, fun c2 => ?_⟩
  · (try clear hEF); grind [CE_in, EQ_r, → EQ_5, EQ_f, EQ_z, q_zz, q_za, q_zga, q_fza, q_fx, q_fga, q_gza, q_gfa, q_gx, q_zf1, q_zg1, q_ff, q_fg1, q_gf1, q_gg, ti_link, in2, in24, in4002]
  · refine ⟨by (try clear hEF); grind [CE_in, EQ_r, → EQ_5, EQ_f, EQ_z, q_zz, q_za, q_zga, q_fza, q_fx, q_fga, q_gza, q_gfa, q_gx, q_zf1, q_zg1, q_ff, q_fg1, q_gf1, q_gg, ti_link, in2, in24, in4002], ?_⟩
    intro z5 ez5
    refine ⟨fun c3 => ?_, fun c3 => ?_⟩
    · (try clear hEF); grind [CE_in, EQ_r, → EQ_5, EQ_f, EQ_z, q_zz, q_za, q_zga, q_fza, q_fx, q_fga, q_gza, q_gfa, q_gx, q_zf1, q_zg1, q_ff, q_fg1, q_gf1, q_gg, ti_link, in2, in24, in4002]
    · refine ⟨fun c4 => ?_, fun c4 => ?_⟩
      · (try clear hEF); grind [CE_in, EQ_r, → EQ_5, EQ_f, EQ_z, q_zz, q_za, q_zga, q_fza, q_fx, q_fga, q_gza, q_gfa, q_gx, q_zf1, q_zg1, q_ff, q_fg1, q_gf1, q_gg, ti_link, in2, in24, in4002]
      · refine ⟨by (try clear hEF); grind [CE_in, EQ_r, → EQ_5, EQ_f, EQ_z, q_zz, q_za, q_zga, q_fza, q_fx, q_fga, q_gza, q_gfa, q_gx, q_zf1, q_zg1, q_ff, q_fg1, q_gf1, q_gg, ti_link, in2, in24, in4002], ?_⟩
        intro z8 ez8
        refine ⟨fun c5 => ?_, fun c5 => ?_⟩
        · intro z10 ez10
          intro z11 ez11
          refine ⟨fun c6 => ?_, fun c6 => ?_⟩
          · intro z13 ez13
            refine ⟨by (try clear hEF); grind [CE_in, EQ_r, → EQ_5, EQ_f, EQ_z, q_zz, q_za, q_zga, q_fza, q_fx, q_fga, q_gza, q_gfa, q_gx, q_zf1, q_zg1, q_ff, q_fg1, q_gf1, q_gg, ti_link, in2, in24, in4002], ?_⟩
            intro z14 ez14
            refine ⟨by (try clear hEF); grind [CE_in, EQ_r, → EQ_5, EQ_f, EQ_z, q_zz, q_za, q_zga, q_fza, q_fx, q_fga, q_gza, q_gfa, q_gx, q_zf1, q_zg1, q_ff, q_fg1, q_gf1, q_gg, ti_link, in2, in24, in4002], ?_⟩
            intro z15 ez15
            refine fm_find_c _ _ _ _ _ _ (fun S16 r16 hF7 pS16 => ?_) (sg_find_c _ _ _ (by (try clear hEF); grind [CE_in, EQ_r, → EQ_5, EQ_f, EQ_z, q_zz, q_za, q_zga, q_fza, q_fx, q_fga, q_gza, q_gfa, q_gx, q_zf1, q_zg1, q_ff, q_fg1, q_gf1, q_gg, ti_link, in2, in24, in4002]))
            have z1_S16 := hF7.1 1 (by decide)
            have z5_S16 := hF7.1 5 (by decide)
            clear hF7
            (try clear hEF); grind [CE_in, EQ_r, → EQ_5, EQ_f, EQ_z, q_zz, q_za, q_zga, q_fza, q_fx, q_fga, q_gza, q_gfa, q_gx, q_zf1, q_zg1, q_ff, q_fg1, q_gf1, q_gg, ti_link, in2, in24, in4002]
          · intro z17 ez17
            refine ⟨by (try clear hEF); grind [CE_in, EQ_r, → EQ_5, EQ_f, EQ_z, q_zz, q_za, q_zga, q_fza, q_fx, q_fga, q_gza, q_gfa, q_gx, q_zf1, q_zg1, q_ff, q_fg1, q_gf1, q_gg, ti_link, in2, in24, in4002], ?_⟩
            intro z18 ez18
            refine ⟨by (try clear hEF); grind [CE_in, EQ_r, → EQ_5, EQ_f, EQ_z, q_zz, q_za, q_zga, q_fza, q_fx, q_fga, q_gza, q_gfa, q_gx, q_zf1, q_zg1, q_ff, q_fg1, q_gf1, q_gg, ti_link, in2, in24, in4002], ?_⟩
            intro z19 ez19
            refine fm_find_r _ _ _ _ _ _ (fun S20 r20 hF8 pS20 => ?_) (sg_find_r _ _ _ (by (try clear hEF); grind [CE_in, EQ_r, → EQ_5, EQ_f, EQ_z, q_zz, q_za, q_zga, q_fza, q_fx, q_fga, q_gza, q_gfa, q_gx, q_zf1, q_zg1, q_ff, q_fg1, q_gf1, q_gg, ti_link, in2, in24, in4002]))
            have z1_S20 := hF8.1 1 (by decide)
            have z5_S20 := hF8.1 5 (by decide)
            clear hF8
            (try clear hEF); grind [CE_in, EQ_r, → EQ_5, EQ_f, EQ_z, q_zz, q_za, q_zga, q_fza, q_fx, q_fga, q_gza, q_gfa, q_gx, q_zf1, q_zg1, q_ff, q_fg1, q_gf1, q_gg, ti_link, in2, in24, in4002]
        · (try clear hEF); grind [CE_in, EQ_r, → EQ_5, EQ_f, EQ_z, q_zz, q_za, q_zga, q_fza, q_fx, q_fga, q_gza, q_gfa, q_gx, q_zf1, q_zg1, q_ff, q_fg1, q_gf1, q_gg, ti_link, in2, in24, in4002]
