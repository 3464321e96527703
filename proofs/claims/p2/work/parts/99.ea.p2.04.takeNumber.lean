
set_option maxHeartbeats 4000000 in
theorem sg_takeNumber {nx n : Nat} {so pl : Nat → Int32} {wo ws : Nat → Int64} (a0 : Int32) (a1 : Int32) {S : mS} (h : PI nx n so pl wo ws S) : wp_takeNumber a0 a1 S (fun S1 r => PI nx n so pl wo ws S1 ∧ (0 < (S1.1 4).toInt ∨ ((S1.1 4) = 0 ∧ (S.1 4) = 0 ∧ (S.1 3).toInt < n ∧ (S1.1 3).toInt = (S.1 3).toInt + 1 ∧ a0.toInt ≤ r.toInt ∧ r.toInt ≤ a1.toInt))) := by
  unfold wp_takeNumber
  refine ⟨fun c1 => ?_, fun c1 => ?_⟩
  · unfold wp_takeNumber_28
    refine ⟨fun c2 => ?_, fun c2 => ?_⟩
    · unfold wp_takeNumber_70
      intro z5 ez5
      intro S6 eS6
      refine ⟨fun c3 => ?_, fun c3 => ?_⟩
      · intro z8 ez8
        have e11 : ∀ y : Int32, z5 = y + 1 → z8 = y := fun y hy => by rw [ez8, show S6.1 3 = z5 by rw [eS6]; rfl, hy]; exact Int32.add_sub_cancel ..
        have e12 := e11 _ ez5
        clear e11
        refine ⟨by grind [PI, LG, TK, CE, ix_int, num_rng, q_zz, q_za, q_zga, q_fza, q_fx, q_fga, q_gza, q_gfa, q_gx, q_zf1, q_zg1, q_ff, q_fg1, q_gf1, q_gg, ti_link, in4002], ?_⟩
        intro z9 ez9
        intro z10 ez10
        try (have rr : a0.toInt ≤ z10.toInt ∧ z10.toInt ≤ a1.toInt := by (have k : z9 = z12 := by (rw [ez9, e12, eS6, ez12]; rfl)); (have k2 : z9 = z16 := by (rw [ez9, e12, eS6, ez16]; rfl)); rw [ez10]; exact num_rng (by (rw [k, ← ez13, ← ez14]; assumption)) (by (rw [k2, ← ez17, ← ez18]; assumption)))
        grind [PI, LG, TK, CE, ix_int, num_rng, q_zz, q_za, q_zga, q_fza, q_fx, q_fga, q_gza, q_gfa, q_gx, q_zf1, q_zg1, q_ff, q_fg1, q_gf1, q_gg, ti_link, in4002]
      · grind [PI, LG, TK, CE, ix_int, num_rng, q_zz, q_za, q_zga, q_fza, q_fx, q_fga, q_gza, q_gfa, q_gx, q_zf1, q_zg1, q_ff, q_fg1, q_gf1, q_gg, ti_link, in4002]
    · refine ⟨by grind [PI, LG, TK, CE, ix_int, num_rng, q_zz, q_za, q_zga, q_fza, q_fx, q_fga, q_gza, q_gfa, q_gx, q_zf1, q_zg1, q_ff, q_fg1, q_gf1, q_gg, ti_link, in4002], ?_⟩
      intro z12 ez12
      intro z13 ez13
      intro z14 ez14
      refine ⟨fun c4 => ?_, fun c4 => ?_⟩
      · unfold wp_takeNumber_65
        refine fm_wrong _ _ _ _ (fun S20 hF5 pS20 => ?_) (sg_wrong (nx := nx) (n := n) (so := so) (pl := pl) (wo := wo) (ws := ws) _ (by grind [PI, LG, TK, CE, ix_int, num_rng, q_zz, q_za, q_zga, q_fza, q_fx, q_fga, q_gza, q_gfa, q_gx, q_zf1, q_zg1, q_ff, q_fg1, q_gf1, q_gg, ti_link, in4002]) (by grind [PI, LG, TK, CE, ix_int, num_rng, q_zz, q_za, q_zga, q_fza, q_fx, q_fga, q_gza, q_gfa, q_gx, q_zf1, q_zg1, q_ff, q_fg1, q_gf1, q_gg, ti_link, in4002]))
        have z3_S20 := hF5.1 3 (by decide)
        have z6_S20 := hF5.1 6 (by decide)
        have f1_S20 := hF5.2.1 1 (by decide)
        have f1a_S20 := Fr_fa hF5 1 (by decide)
        have f2_S20 := hF5.2.1 2 (by decide)
        have f2a_S20 := Fr_fa hF5 2 (by decide)
        have g3_S20 := hF5.2.2 3 (by decide)
        have g3a_S20 := Fr_ga hF5 3 (by decide)
        have g4_S20 := hF5.2.2 4 (by decide)
        have g4a_S20 := Fr_ga hF5 4 (by decide)
        clear hF5
        unfold wp_takeNumber_70
        intro z5 ez5
        intro S6 eS6
        refine ⟨fun c6 => ?_, fun c6 => ?_⟩
        · intro z8 ez8
          have e11 : ∀ y : Int32, z5 = y + 1 → z8 = y := fun y hy => by rw [ez8, show S6.1 3 = z5 by rw [eS6]; rfl, hy]; exact Int32.add_sub_cancel ..
          have e12 := e11 _ ez5
          clear e11
          refine ⟨by grind [PI, LG, TK, CE, ix_int, num_rng, q_zz, q_za, q_zga, q_fza, q_fx, q_fga, q_gza, q_gfa, q_gx, q_zf1, q_zg1, q_ff, q_fg1, q_gf1, q_gg, ti_link, in4002], ?_⟩
          intro z9 ez9
          intro z10 ez10
          try (have rr : a0.toInt ≤ z10.toInt ∧ z10.toInt ≤ a1.toInt := by (have k : z9 = z12 := by (rw [ez9, e12, eS6, ez12]; rfl)); (have k2 : z9 = z16 := by (rw [ez9, e12, eS6, ez16]; rfl)); rw [ez10]; exact num_rng (by (rw [k, ← ez13, ← ez14]; assumption)) (by (rw [k2, ← ez17, ← ez18]; assumption)))
          grind [PI, LG, TK, CE, ix_int, num_rng, q_zz, q_za, q_zga, q_fza, q_fx, q_fga, q_gza, q_gfa, q_gx, q_zf1, q_zg1, q_ff, q_fg1, q_gf1, q_gg, ti_link, in4002]
        · grind [PI, LG, TK, CE, ix_int, num_rng, q_zz, q_za, q_zga, q_fza, q_fx, q_fga, q_gza, q_gfa, q_gx, q_zf1, q_zg1, q_ff, q_fg1, q_gf1, q_gg, ti_link, in4002]
      · refine ⟨by grind [PI, LG, TK, CE, ix_int, num_rng, q_zz, q_za, q_zga, q_fza, q_fx, q_fga, q_gza, q_gfa, q_gx, q_zf1, q_zg1, q_ff, q_fg1, q_gf1, q_gg, ti_link, in4002], ?_⟩
        intro z16 ez16
        intro z17 ez17
        intro z18 ez18
        refine ⟨fun c7 => ?_, fun c7 => ?_⟩
        · unfold wp_takeNumber_70
          intro z5 ez5
          intro S6 eS6
          refine ⟨fun c8 => ?_, fun c8 => ?_⟩
          · intro z8 ez8
            have e11 : ∀ y : Int32, z5 = y + 1 → z8 = y := fun y hy => by rw [ez8, show S6.1 3 = z5 by rw [eS6]; rfl, hy]; exact Int32.add_sub_cancel ..
            have e12 := e11 _ ez5
            clear e11
            refine ⟨by grind [PI, LG, TK, CE, ix_int, num_rng, q_zz, q_za, q_zga, q_fza, q_fx, q_fga, q_gza, q_gfa, q_gx, q_zf1, q_zg1, q_ff, q_fg1, q_gf1, q_gg, ti_link, in4002], ?_⟩
            intro z9 ez9
            intro z10 ez10
            try (have rr : a0.toInt ≤ z10.toInt ∧ z10.toInt ≤ a1.toInt := by (have k : z9 = z12 := by (rw [ez9, e12, eS6, ez12]; rfl)); (have k2 : z9 = z16 := by (rw [ez9, e12, eS6, ez16]; rfl)); rw [ez10]; exact num_rng (by (rw [k, ← ez13, ← ez14]; assumption)) (by (rw [k2, ← ez17, ← ez18]; assumption)))
            grind [PI, LG, TK, CE, ix_int, num_rng, q_zz, q_za, q_zga, q_fza, q_fx, q_fga, q_gza, q_gfa, q_gx, q_zf1, q_zg1, q_ff, q_fg1, q_gf1, q_gg, ti_link, in4002]
          · grind [PI, LG, TK, CE, ix_int, num_rng, q_zz, q_za, q_zga, q_fza, q_fx, q_fga, q_gza, q_gfa, q_gx, q_zf1, q_zg1, q_ff, q_fg1, q_gf1, q_gg, ti_link, in4002]
        · unfold wp_takeNumber_65
          refine fm_wrong _ _ _ _ (fun S20 hF9 pS20 => ?_) (sg_wrong (nx := nx) (n := n) (so := so) (pl := pl) (wo := wo) (ws := ws) _ (by grind [PI, LG, TK, CE, ix_int, num_rng, q_zz, q_za, q_zga, q_fza, q_fx, q_fga, q_gza, q_gfa, q_gx, q_zf1, q_zg1, q_ff, q_fg1, q_gf1, q_gg, ti_link, in4002]) (by grind [PI, LG, TK, CE, ix_int, num_rng, q_zz, q_za, q_zga, q_fza, q_fx, q_fga, q_gza, q_gfa, q_gx, q_zf1, q_zg1, q_ff, q_fg1, q_gf1, q_gg, ti_link, in4002]))
          have z3_S20 := hF9.1 3 (by decide)
          have z6_S20 := hF9.1 6 (by decide)
          have f1_S20 := hF9.2.1 1 (by decide)
          have f1a_S20 := Fr_fa hF9 1 (by decide)
          have f2_S20 := hF9.2.1 2 (by decide)
          have f2a_S20 := Fr_fa hF9 2 (by decide)
          have g3_S20 := hF9.2.2 3 (by decide)
          have g3a_S20 := Fr_ga hF9 3 (by decide)
          have g4_S20 := hF9.2.2 4 (by decide)
          have g4a_S20 := Fr_ga hF9 4 (by decide)
          clear hF9
          unfold wp_takeNumber_70
          intro z5 ez5
          intro S6 eS6
          refine ⟨fun c10 => ?_, fun c10 => ?_⟩
          · intro z8 ez8
            have e11 : ∀ y : Int32, z5 = y + 1 → z8 = y := fun y hy => by rw [ez8, show S6.1 3 = z5 by rw [eS6]; rfl, hy]; exact Int32.add_sub_cancel ..
            have e12 := e11 _ ez5
            clear e11
            refine ⟨by grind [PI, LG, TK, CE, ix_int, num_rng, q_zz, q_za, q_zga, q_fza, q_fx, q_fga, q_gza, q_gfa, q_gx, q_zf1, q_zg1, q_ff, q_fg1, q_gf1, q_gg, ti_link, in4002], ?_⟩
            intro z9 ez9
            intro z10 ez10
            try (have rr : a0.toInt ≤ z10.toInt ∧ z10.toInt ≤ a1.toInt := by (have k : z9 = z12 := by (rw [ez9, e12, eS6, ez12]; rfl)); (have k2 : z9 = z16 := by (rw [ez9, e12, eS6, ez16]; rfl)); rw [ez10]; exact num_rng (by (rw [k, ← ez13, ← ez14]; assumption)) (by (rw [k2, ← ez17, ← ez18]; assumption)))
            grind [PI, LG, TK, CE, ix_int, num_rng, q_zz, q_za, q_zga, q_fza, q_fx, q_fga, q_gza, q_gfa, q_gx, q_zf1, q_zg1, q_ff, q_fg1, q_gf1, q_gg, ti_link, in4002]
          · grind [PI, LG, TK, CE, ix_int, num_rng, q_zz, q_za, q_zga, q_fza, q_fx, q_fga, q_gza, q_gfa, q_gx, q_zf1, q_zg1, q_ff, q_fg1, q_gf1, q_gg, ti_link, in4002]
  · refine ⟨by grind [PI, LG, TK, CE, ix_int, num_rng, q_zz, q_za, q_zga, q_fza, q_fx, q_fga, q_gza, q_gfa, q_gx, q_zf1, q_zg1, q_ff, q_fg1, q_gf1, q_gg, ti_link, in4002], ?_⟩
    intro z2 ez2
    refine ⟨fun c11 => ?_, fun c11 => ?_⟩
    · unfold wp_takeNumber_28
      refine ⟨fun c12 => ?_, fun c12 => ?_⟩
      · unfold wp_takeNumber_70
        intro z5 ez5
        intro S6 eS6
        refine ⟨fun c13 => ?_, fun c13 => ?_⟩
        · intro z8 ez8
          have e11 : ∀ y : Int32, z5 = y + 1 → z8 = y := fun y hy => by rw [ez8, show S6.1 3 = z5 by rw [eS6]; rfl, hy]; exact Int32.add_sub_cancel ..
          have e12 := e11 _ ez5
          clear e11
          refine ⟨by grind [PI, LG, TK, CE, ix_int, num_rng, q_zz, q_za, q_zga, q_fza, q_fx, q_fga, q_gza, q_gfa, q_gx, q_zf1, q_zg1, q_ff, q_fg1, q_gf1, q_gg, ti_link, in4002], ?_⟩
          intro z9 ez9
          intro z10 ez10
          try (have rr : a0.toInt ≤ z10.toInt ∧ z10.toInt ≤ a1.toInt := by (have k : z9 = z12 := by (rw [ez9, e12, eS6, ez12]; rfl)); (have k2 : z9 = z16 := by (rw [ez9, e12, eS6, ez16]; rfl)); rw [ez10]; exact num_rng (by (rw [k, ← ez13, ← ez14]; assumption)) (by (rw [k2, ← ez17, ← ez18]; assumption)))
          grind [PI, LG, TK, CE, ix_int, num_rng, q_zz, q_za, q_zga, q_fza, q_fx, q_fga, q_gza, q_gfa, q_gx, q_zf1, q_zg1, q_ff, q_fg1, q_gf1, q_gg, ti_link, in4002]
        · grind [PI, LG, TK, CE, ix_int, num_rng, q_zz, q_za, q_zga, q_fza, q_fx, q_fga, q_gza, q_gfa, q_gx, q_zf1, q_zg1, q_ff, q_fg1, q_gf1, q_gg, ti_link, in4002]
      · refine ⟨by grind [PI, LG, TK, CE, ix_int, num_rng, q_zz, q_za, q_zga, q_fza, q_fx, q_fga, q_gza, q_gfa, q_gx, q_zf1, q_zg1, q_ff, q_fg1, q_gf1, q_gg, ti_link, in4002], ?_⟩
        intro z12 ez12
        intro z13 ez13
        intro z14 ez14
        refine ⟨fun c14 => ?_, fun c14 => ?_⟩
        · unfold wp_takeNumber_65
          refine fm_wrong _ _ _ _ (fun S20 hF15 pS20 => ?_) (sg_wrong (nx := nx) (n := n) (so := so) (pl := pl) (wo := wo) (ws := ws) _ (by grind [PI, LG, TK, CE, ix_int, num_rng, q_zz, q_za, q_zga, q_fza, q_fx, q_fga, q_gza, q_gfa, q_gx, q_zf1, q_zg1, q_ff, q_fg1, q_gf1, q_gg, ti_link, in4002]) (by grind [PI, LG, TK, CE, ix_int, num_rng, q_zz, q_za, q_zga, q_fza, q_fx, q_fga, q_gza, q_gfa, q_gx, q_zf1, q_zg1, q_ff, q_fg1, q_gf1, q_gg, ti_link, in4002]))
          have z3_S20 := hF15.1 3 (by decide)
          have z6_S20 := hF15.1 6 (by decide)
          have f1_S20 := hF15.2.1 1 (by decide)
          have f1a_S20 := Fr_fa hF15 1 (by decide)
          have f2_S20 := hF15.2.1 2 (by decide)
          have f2a_S20 := Fr_fa hF15 2 (by decide)
          have g3_S20 := hF15.2.2 3 (by decide)
          have g3a_S20 := Fr_ga hF15 3 (by decide)
          have g4_S20 := hF15.2.2 4 (by decide)
          have g4a_S20 := Fr_ga hF15 4 (by decide)
          clear hF15
          unfold wp_takeNumber_70
          intro z5 ez5
          intro S6 eS6
          refine ⟨fun c16 => ?_, fun c16 => ?_⟩
          · intro z8 ez8
            have e11 : ∀ y : Int32, z5 = y + 1 → z8 = y := fun y hy => by rw [ez8, show S6.1 3 = z5 by rw [eS6]; rfl, hy]; exact Int32.add_sub_cancel ..
            have e12 := e11 _ ez5
            clear e11
            refine ⟨by grind [PI, LG, TK, CE, ix_int, num_rng, q_zz, q_za, q_zga, q_fza, q_fx, q_fga, q_gza, q_gfa, q_gx, q_zf1, q_zg1, q_ff, q_fg1, q_gf1, q_gg, ti_link, in4002], ?_⟩
            intro z9 ez9
            intro z10 ez10
            try (have rr : a0.toInt ≤ z10.toInt ∧ z10.toInt ≤ a1.toInt := by (have k : z9 = z12 := by (rw [ez9, e12, eS6, ez12]; rfl)); (have k2 : z9 = z16 := by (rw [ez9, e12, eS6, ez16]; rfl)); rw [ez10]; exact num_rng (by (rw [k, ← ez13, ← ez14]; assumption)) (by (rw [k2, ← ez17, ← ez18]; assumption)))
            grind [PI, LG, TK, CE, ix_int, num_rng, q_zz, q_za, q_zga, q_fza, q_fx, q_fga, q_gza, q_gfa, q_gx, q_zf1, q_zg1, q_ff, q_fg1, q_gf1, q_gg, ti_link, in4002]
          · grind [PI, LG, TK, CE, ix_int, num_rng, q_zz, q_za, q_zga, q_fza, q_fx, q_fga, q_gza, q_gfa, q_gx, q_zf1, q_zg1, q_ff, q_fg1, q_gf1, q_gg, ti_link, in4002]
        · refine ⟨by grind [PI, LG, TK, CE, ix_int, num_rng, q_zz, q_za, q_zga, q_fza, q_fx, q_fga, q_gza, q_gfa, q_gx, q_zf1, q_zg1, q_ff, q_fg1, q_gf1, q_gg, ti_link, in4002], ?_⟩
          intro z16 ez16
          intro z17 ez17
          intro z18 ez18
          refine ⟨fun c17 => ?_, fun c17 => ?_⟩
          · unfold wp_takeNumber_70
            intro z5 ez5
            intro S6 eS6
            refine ⟨fun c18 => ?_, fun c18 => ?_⟩
            · intro z8 ez8
              have e11 : ∀ y : Int32, z5 = y + 1 → z8 = y := fun y hy => by rw [ez8, show S6.1 3 = z5 by rw [eS6]; rfl, hy]; exact Int32.add_sub_cancel ..
              have e12 := e11 _ ez5
              clear e11
              refine ⟨by grind [PI, LG, TK, CE, ix_int, num_rng, q_zz, q_za, q_zga, q_fza, q_fx, q_fga, q_gza, q_gfa, q_gx, q_zf1, q_zg1, q_ff, q_fg1, q_gf1, q_gg, ti_link, in4002], ?_⟩
              intro z9 ez9
              intro z10 ez10
              try (have rr : a0.toInt ≤ z10.toInt ∧ z10.toInt ≤ a1.toInt := by (have k : z9 = z12 := by (rw [ez9, e12, eS6, ez12]; rfl)); (have k2 : z9 = z16 := by (rw [ez9, e12, eS6, ez16]; rfl)); rw [ez10]; exact num_rng (by (rw [k, ← ez13, ← ez14]; assumption)) (by (rw [k2, ← ez17, ← ez18]; assumption)))
              grind [PI, LG, TK, CE, ix_int, num_rng, q_zz, q_za, q_zga, q_fza, q_fx, q_fga, q_gza, q_gfa, q_gx, q_zf1, q_zg1, q_ff, q_fg1, q_gf1, q_gg, ti_link, in4002]
            · grind [PI, LG, TK, CE, ix_int, num_rng, q_zz, q_za, q_zga, q_fza, q_fx, q_fga, q_gza, q_gfa, q_gx, q_zf1, q_zg1, q_ff, q_fg1, q_gf1, q_gg, ti_link, in4002]
          · unfold wp_takeNumber_65
            refine fm_wrong _ _ _ _ (fun S20 hF19 pS20 => ?_) (sg_wrong (nx := nx) (n := n) (so := so) (pl := pl) (wo := wo) (ws := ws) _ (by grind [PI, LG, TK, CE, ix_int, num_rng, q_zz, q_za, q_zga, q_fza, q_fx, q_fga, q_gza, q_gfa, q_gx, q_zf1, q_zg1, q_ff, q_fg1, q_gf1, q_gg, ti_link, in4002]) (by grind [PI, LG, TK, CE, ix_int, num_rng, q_zz, q_za, q_zga, q_fza, q_fx, q_fga, q_gza, q_gfa, q_gx, q_zf1, q_zg1, q_ff, q_fg1, q_gf1, q_gg, ti_link, in4002]))
            have z3_S20 := hF19.1 3 (by decide)
            have z6_S20 := hF19.1 6 (by decide)
            have f1_S20 := hF19.2.1 1 (by decide)
            have f1a_S20 := Fr_fa hF19 1 (by decide)
            have f2_S20 := hF19.2.1 2 (by decide)
            have f2a_S20 := Fr_fa hF19 2 (by decide)
            have g3_S20 := hF19.2.2 3 (by decide)
            have g3a_S20 := Fr_ga hF19 3 (by decide)
            have g4_S20 := hF19.2.2 4 (by decide)
            have g4a_S20 := Fr_ga hF19 4 (by decide)
            clear hF19
            unfold wp_takeNumber_70
            intro z5 ez5
            intro S6 eS6
            refine ⟨fun c20 => ?_, fun c20 => ?_⟩
            · intro z8 ez8
              have e11 : ∀ y : Int32, z5 = y + 1 → z8 = y := fun y hy => by rw [ez8, show S6.1 3 = z5 by rw [eS6]; rfl, hy]; exact Int32.add_sub_cancel ..
              have e12 := e11 _ ez5
              clear e11
              refine ⟨by grind [PI, LG, TK, CE, ix_int, num_rng, q_zz, q_za, q_zga, q_fza, q_fx, q_fga, q_gza, q_gfa, q_gx, q_zf1, q_zg1, q_ff, q_fg1, q_gf1, q_gg, ti_link, in4002], ?_⟩
              intro z9 ez9
              intro z10 ez10
              try (have rr : a0.toInt ≤ z10.toInt ∧ z10.toInt ≤ a1.toInt := by (have k : z9 = z12 := by (rw [ez9, e12, eS6, ez12]; rfl)); (have k2 : z9 = z16 := by (rw [ez9, e12, eS6, ez16]; rfl)); rw [ez10]; exact num_rng (by (rw [k, ← ez13, ← ez14]; assumption)) (by (rw [k2, ← ez17, ← ez18]; assumption)))
              grind [PI, LG, TK, CE, ix_int, num_rng, q_zz, q_za, q_zga, q_fza, q_fx, q_fga, q_gza, q_gfa, q_gx, q_zf1, q_zg1, q_ff, q_fg1, q_gf1, q_gg, ti_link, in4002]
            · grind [PI, LG, TK, CE, ix_int, num_rng, q_zz, q_za, q_zga, q_fza, q_fx, q_fga, q_gza, q_gfa, q_gx, q_zf1, q_zg1, q_ff, q_fg1, q_gf1, q_gg, ti_link, in4002]
    · refine fm_wrong _ _ _ _ (fun S4 hF21 pS4 => ?_) (sg_wrong (nx := nx) (n := n) (so := so) (pl := pl) (wo := wo) (ws := ws) _ (by grind [PI, LG, TK, CE, ix_int, num_rng, q_zz, q_za, q_zga, q_fza, q_fx, q_fga, q_gza, q_gfa, q_gx, q_zf1, q_zg1, q_ff, q_fg1, q_gf1, q_gg, ti_link, in4002]) (by grind [PI, LG, TK, CE, ix_int, num_rng, q_zz, q_za, q_zga, q_fza, q_fx, q_fga, q_gza, q_gfa, q_gx, q_zf1, q_zg1, q_ff, q_fg1, q_gf1, q_gg, ti_link, in4002]))
      have z3_S4 := hF21.1 3 (by decide)
      have z6_S4 := hF21.1 6 (by decide)
      have f1_S4 := hF21.2.1 1 (by decide)
      have f1a_S4 := Fr_fa hF21 1 (by decide)
      have f2_S4 := hF21.2.1 2 (by decide)
      have f2a_S4 := Fr_fa hF21 2 (by decide)
      have g3_S4 := hF21.2.2 3 (by decide)
      have g3a_S4 := Fr_ga hF21 3 (by decide)
      have g4_S4 := hF21.2.2 4 (by decide)
      have g4a_S4 := Fr_ga hF21 4 (by decide)
      clear hF21
      unfold wp_takeNumber_70
      intro z5 ez5
      intro S6 eS6
      refine ⟨fun c22 => ?_, fun c22 => ?_⟩
      · intro z8 ez8
        have e11 : ∀ y : Int32, z5 = y + 1 → z8 = y := fun y hy => by rw [ez8, show S6.1 3 = z5 by rw [eS6]; rfl, hy]; exact Int32.add_sub_cancel ..
        have e12 := e11 _ ez5
        clear e11
        refine ⟨by grind [PI, LG, TK, CE, ix_int, num_rng, q_zz, q_za, q_zga, q_fza, q_fx, q_fga, q_gza, q_gfa, q_gx, q_zf1, q_zg1, q_ff, q_fg1, q_gf1, q_gg, ti_link, in4002], ?_⟩
        intro z9 ez9
        intro z10 ez10
        try (have rr : a0.toInt ≤ z10.toInt ∧ z10.toInt ≤ a1.toInt := by (have k : z9 = z12 := by (rw [ez9, e12, eS6, ez12]; rfl)); (have k2 : z9 = z16 := by (rw [ez9, e12, eS6, ez16]; rfl)); rw [ez10]; exact num_rng (by (rw [k, ← ez13, ← ez14]; assumption)) (by (rw [k2, ← ez17, ← ez18]; assumption)))
        grind [PI, LG, TK, CE, ix_int, num_rng, q_zz, q_za, q_zga, q_fza, q_fx, q_fga, q_gza, q_gfa, q_gx, q_zf1, q_zg1, q_ff, q_fg1, q_gf1, q_gg, ti_link, in4002]
      · grind [PI, LG, TK, CE, ix_int, num_rng, q_zz, q_za, q_zga, q_fza, q_fx, q_fga, q_gza, q_gfa, q_gx, q_zf1, q_zg1, q_ff, q_fg1, q_gf1, q_gg, ti_link, in4002]
