
set_option maxHeartbeats 4000000 in
theorem sg_finishing {hx : Nat} {na nt nw : Int} {T : mS} (a0 : Int32) (a1 : Int32) (a2 : Int32) {S : mS} (hE : EQ T S) (hW : LW hx na nt nw T) (ha : OR1 (500 * hx) nt a0.toInt) (hb : a2.toInt < 0 ∨ (500 * hx ≤ a2.toInt ∧ a2.toInt < nw)) : wp_finishing a0 a1 a2 S (fun S1 r => S1 = S ∧ OR1 (12000 * hx) na r.toInt) := by
  unfold wp_finishing
  refine it_rule (fun u : Int32 × Int32 × Int32 × mS => u.2.2.2 = S ∧ u.1 = a2 ∧ OR1 (500 * hx) nt u.2.1.toInt) (fun u => (u.2.1.toInt + 1).toNat) ?_ (by (try clear j50); (try clear j26); (try clear hk6); grind [→ LW_b, → EQ_5, EQ_f, EQ_z, OR1, q_zz, q_za, q_zga, q_fza, q_fx, q_fga, q_gza, q_gfa, q_gx, q_zf1, q_zg1, q_ff, q_fg1, q_gf1, q_gg, ti_link, in1000])
  rintro ⟨x3, x4, x5, Sl6⟩ k6 hI6 hk6
  replace hI6 : Sl6 = S ∧ x3 = a2 ∧ OR1 (500 * hx) nt x4.toInt := hI6
  replace hk6 : ∀ v : Int32 × Int32 × Int32 × mS, v.2.2.2 = S ∧ v.1 = a2 ∧ OR1 (500 * hx) nt v.2.1.toInt → (v.2.1.toInt + 1).toNat < (x4.toInt + 1).toNat → k6 v := hk6
  show wp_finishing_6 _ k6 x3 x4 x5 Sl6
  unfold wp_finishing_6
  obtain ⟨g6x3, eg6x3⟩ : ∃ g9, g9 = x3 := ⟨_, rfl⟩
  obtain ⟨g6x4, eg6x4⟩ : ∃ g9, g9 = x4 := ⟨_, rfl⟩
  obtain ⟨g6x5, eg6x5⟩ : ∃ g9, g9 = x5 := ⟨_, rfl⟩
  have j50 : ∀ (x3 : Int32) (x4 : Int32) (Sx : mS), (Sx = S ∧ x3 = a2 ∧ 500 * hx ≤ x4.toInt ∧ x4.toInt < nt ∧ x4 = g6x4) → wp_finishing_50 (fun S1 r => S1 = S ∧ OR1 (12000 * hx) na r.toInt) k6 x3 x4 Sx := by
    intro x3 x4 Sx hJ50
    unfold wp_finishing_50
    refine ⟨by (try clear j50); (try clear j26); (try clear hk6); grind [→ LW_b, → EQ_5, EQ_f, EQ_z, OR1, q_zz, q_za, q_zga, q_fza, q_fx, q_fga, q_gza, q_gfa, q_gx, q_zf1, q_zg1, q_ff, q_fg1, q_gf1, q_gg, ti_link, in1000], ?_⟩
    intro z9 ez9
    refine ⟨by (try clear j50); (try clear j26); (try clear hk6); grind [→ LW_b, → EQ_5, EQ_f, EQ_z, OR1, q_zz, q_za, q_zga, q_fza, q_fx, q_fga, q_gza, q_gfa, q_gx, q_zf1, q_zg1, q_ff, q_fg1, q_gf1, q_gg, ti_link, in1000], ?_⟩
    intro z10 ez10
    have  qz10 : OR1 (500 * hx) x4.toInt z10.toInt := by
          rw [ez10, EQ_r (T := T) (k := 25) (by (try clear j50); (try clear j26); (try clear hk6); grind [→ LW_b, → EQ_5, EQ_f, EQ_z, OR1, q_zz, q_za, q_zga, q_fza, q_fx, q_fga, q_gza, q_gfa, q_gx, q_zf1, q_zg1, q_ff, q_fg1, q_gf1, q_gg, ti_link, in1000]) (by decide)]
          exact LW_25 hW (by (try clear j50); (try clear j26); (try clear hk6); grind [→ LW_b, → EQ_5, EQ_f, EQ_z, OR1, q_zz, q_za, q_zga, q_fza, q_fx, q_fga, q_gza, q_gfa, q_gx, q_zf1, q_zg1, q_ff, q_fg1, q_gf1, q_gg, ti_link, in1000]) (by (try clear j50); (try clear j26); (try clear hk6); grind [→ LW_b, → EQ_5, EQ_f, EQ_z, OR1, q_zz, q_za, q_zga, q_fza, q_fx, q_fga, q_gza, q_gfa, q_gx, q_zf1, q_zg1, q_ff, q_fg1, q_gf1, q_gg, ti_link, in1000])
    exact hk6 _ (by (try clear j50); (try clear j26); (try clear hk6); grind [→ LW_b, → EQ_5, EQ_f, EQ_z, OR1, q_zz, q_za, q_zga, q_fza, q_fx, q_fga, q_gza, q_gfa, q_gx, q_zf1, q_zg1, q_ff, q_fg1, q_gf1, q_gg, ti_link, in1000]) (by (try clear j50); (try clear j26); (try clear hk6); grind [→ LW_b, → EQ_5, EQ_f, EQ_z, OR1, q_zz, q_za, q_zga, q_fza, q_fx, q_fga, q_gza, q_gfa, q_gx, q_zf1, q_zg1, q_ff, q_fg1, q_gf1, q_gg, ti_link, in1000])
  have j26 : ∀ (x3 : Int32) (x4 : Int32) (x5 : Int32) (Sx : mS), (Sx = S ∧ x3 = a2 ∧ 500 * hx ≤ x4.toInt ∧ x4.toInt < nt ∧ x4 = g6x4) → wp_finishing_26 (fun S1 r => S1 = S ∧ OR1 (12000 * hx) na r.toInt) k6 x3 x4 x5 Sx := by
    intro x3 x4 x5 Sx hJ26
    unfold wp_finishing_26
    refine ⟨fun c1 => ?_, fun c1 => ?_⟩
    · exact j50 _ _ _ (by (try clear j50); (try clear j26); (try clear hk6); grind [→ LW_b, → EQ_5, EQ_f, EQ_z, OR1, q_zz, q_za, q_zga, q_fza, q_fx, q_fga, q_gza, q_gfa, q_gx, q_zf1, q_zg1, q_ff, q_fg1, q_gf1, q_gg, ti_link, in1000])
    · refine ⟨by (try clear j50); (try clear j26); (try clear hk6); grind [→ LW_b, → EQ_5, EQ_f, EQ_z, OR1, q_zz, q_za, q_zga, q_fza, q_fx, q_fga, q_gza, q_gfa, q_gx, q_zf1, q_zg1, q_ff, q_fg1, q_gf1, q_gg, ti_link, in1000], ?_⟩
      intro z6 ez6
      refine ⟨fun c2 => ?_, fun c2 => ?_⟩
      · exact j50 _ _ _ (by (try clear j50); (try clear j26); (try clear hk6); grind [→ LW_b, → EQ_5, EQ_f, EQ_z, OR1, q_zz, q_za, q_zga, q_fza, q_fx, q_fga, q_gza, q_gfa, q_gx, q_zf1, q_zg1, q_ff, q_fg1, q_gf1, q_gg, ti_link, in1000])
      · refine ⟨by (try clear j50); (try clear j26); (try clear hk6); grind [→ LW_b, → EQ_5, EQ_f, EQ_z, OR1, q_zz, q_za, q_zga, q_fza, q_fx, q_fga, q_gza, q_gfa, q_gx, q_zf1, q_zg1, q_ff, q_fg1, q_gf1, q_gg, ti_link, in1000], ?_⟩
        intro z8 ez8
        have  qz8 : 12000 * hx ≤ z8.toInt ∧ z8.toInt < na := by
              rw [ez8, EQ_r (T := T) (k := 35) (by (try clear j50); (try clear j26); (try clear hk6); grind [→ LW_b, → EQ_5, EQ_f, EQ_z, OR1, q_zz, q_za, q_zga, q_fza, q_fx, q_fga, q_gza, q_gfa, q_gx, q_zf1, q_zg1, q_ff, q_fg1, q_gf1, q_gg, ti_link, in1000]) (by decide)]
              exact LW_35 hW (by (try clear j50); (try clear j26); (try clear hk6); grind [→ LW_b, → EQ_5, EQ_f, EQ_z, OR1, q_zz, q_za, q_zga, q_fza, q_fx, q_fga, q_gza, q_gfa, q_gx, q_zf1, q_zg1, q_ff, q_fg1, q_gf1, q_gg, ti_link, in1000]) (by (try clear j50); (try clear j26); (try clear hk6); grind [→ LW_b, → EQ_5, EQ_f, EQ_z, OR1, q_zz, q_za, q_zga, q_fza, q_fx, q_fga, q_gza, q_gfa, q_gx, q_zf1, q_zg1, q_ff, q_fg1, q_gf1, q_gg, ti_link, in1000])
        (try clear j50); (try clear j26); (try clear hk6); grind [→ LW_b, → EQ_5, EQ_f, EQ_z, OR1, q_zz, q_za, q_zga, q_fza, q_fx, q_fga, q_gza, q_gfa, q_gx, q_zf1, q_zg1, q_ff, q_fg1, q_gf1, q_gg, ti_link, in1000]
  refine ⟨fun c3 => ?_, fun c3 => ?_⟩
  · (try clear j50); (try clear j26); (try clear hk6); grind [→ LW_b, → EQ_5, EQ_f, EQ_z, OR1, q_zz, q_za, q_zga, q_fza, q_fx, q_fga, q_gza, q_gfa, q_gx, q_zf1, q_zg1, q_ff, q_fg1, q_gf1, q_gg, ti_link, in1000]
  · refine ⟨fun c4 => ?_, fun c4 => ?_⟩
    · exact j26 _ _ _ _ (by (try clear j50); (try clear j26); (try clear hk6); grind [→ LW_b, → EQ_5, EQ_f, EQ_z, OR1, q_zz, q_za, q_zga, q_fza, q_fx, q_fga, q_gza, q_gfa, q_gx, q_zf1, q_zg1, q_ff, q_fg1, q_gf1, q_gg, ti_link, in1000])
    · refine ⟨by (try clear j50); (try clear j26); (try clear hk6); grind [→ LW_b, → EQ_5, EQ_f, EQ_z, OR1, q_zz, q_za, q_zga, q_fza, q_fx, q_fga, q_gza, q_gfa, q_gx, q_zf1, q_zg1, q_ff, q_fg1, q_gf1, q_gg, ti_link, in1000], ?_⟩
      intro z3 ez3
      refine ⟨fun c5 => ?_, fun c5 => ?_⟩
      · (try clear j50); (try clear j26); (try clear hk6); grind [→ LW_b, → EQ_5, EQ_f, EQ_z, OR1, q_zz, q_za, q_zga, q_fza, q_fx, q_fga, q_gza, q_gfa, q_gx, q_zf1, q_zg1, q_ff, q_fg1, q_gf1, q_gg, ti_link, in1000]
      · exact j26 _ _ _ _ (by (try clear j50); (try clear j26); (try clear hk6); grind [→ LW_b, → EQ_5, EQ_f, EQ_z, OR1, q_zz, q_za, q_zga, q_fza, q_fx, q_fga, q_gza, q_gfa, q_gx, q_zf1, q_zg1, q_ff, q_fg1, q_gf1, q_gg, ti_link, in1000])
