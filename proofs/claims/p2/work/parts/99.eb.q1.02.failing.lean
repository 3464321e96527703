
set_option maxHeartbeats 4000000 in
theorem sg_failing {hx : Nat} {na nt nw : Int} {T : mS} (a0 : Int32) (a1 : Int32) {S : mS} (hE : EQ T S) (hW : LW hx na nt nw T) (ha : OR1 (500 * hx) nt a0.toInt) : wp_failing a0 a1 S (fun S1 r => S1 = S ∧ OR1 (12000 * hx) na r.toInt) := by
  unfold wp_failing
  refine it_rule (fun u : Int32 × Int32 × mS => u.2.2 = S ∧ OR1 (500 * hx) nt u.1.toInt) (fun u => (u.1.toInt + 1).toNat) ?_ (by (try clear j52); (try clear j30); (try clear hk5); grind [→ LW_b, → LW_r, EQ_r, → EQ_5, EQ_f, EQ_z, OR1, q_zz, q_za, q_zga, q_fza, q_fx, q_fga, q_gza, q_gfa, q_gx, q_zf1, q_zg1, q_ff, q_fg1, q_gf1, q_gg, ti_link, in1000])
  rintro ⟨x3, x4, Sl5⟩ k5 hI5 hk5
  replace hI5 : Sl5 = S ∧ OR1 (500 * hx) nt x3.toInt := hI5
  replace hk5 : ∀ v : Int32 × Int32 × mS, v.2.2 = S ∧ OR1 (500 * hx) nt v.1.toInt → (v.1.toInt + 1).toNat < (x3.toInt + 1).toNat → k5 v := hk5
  show wp_failing_5 _ k5 x3 x4 Sl5
  unfold wp_failing_5
  obtain ⟨g5x3, eg5x3⟩ : ∃ g9, g9 = x3 := ⟨_, rfl⟩
  obtain ⟨g5x4, eg5x4⟩ : ∃ g9, g9 = x4 := ⟨_, rfl⟩
  have j52 : ∀ (x3 : Int32) (Sx : mS), (Sx = S ∧ 500 * hx ≤ x3.toInt ∧ x3.toInt < nt ∧ x3 = g5x3) → wp_failing_52 (fun S1 r => S1 = S ∧ OR1 (12000 * hx) na r.toInt) k5 x3 Sx := by
    intro x3 Sx hJ52
    unfold wp_failing_52
    refine ⟨by (try clear j52); (try clear j30); (try clear hk5); grind [→ LW_b, → LW_r, EQ_r, → EQ_5, EQ_f, EQ_z, OR1, q_zz, q_za, q_zga, q_fza, q_fx, q_fga, q_gza, q_gfa, q_gx, q_zf1, q_zg1, q_ff, q_fg1, q_gf1, q_gg, ti_link, in1000], ?_⟩
    intro z10 ez10
    refine ⟨by (try clear j52); (try clear j30); (try clear hk5); grind [→ LW_b, → LW_r, EQ_r, → EQ_5, EQ_f, EQ_z, OR1, q_zz, q_za, q_zga, q_fza, q_fx, q_fga, q_gza, q_gfa, q_gx, q_zf1, q_zg1, q_ff, q_fg1, q_gf1, q_gg, ti_link, in1000], ?_⟩
    intro z11 ez11
    have  qz11 : OR1 (500 * hx) x3.toInt z11.toInt := by
          rw [ez11, EQ_r (T := T) (k := 25) (by (try clear j52); (try clear j30); (try clear hk5); grind [→ LW_b, → LW_r, EQ_r, → EQ_5, EQ_f, EQ_z, OR1, q_zz, q_za, q_zga, q_fza, q_fx, q_fga, q_gza, q_gfa, q_gx, q_zf1, q_zg1, q_ff, q_fg1, q_gf1, q_gg, ti_link, in1000]) (by decide)]
          exact LW_25 hW (by (try clear j52); (try clear j30); (try clear hk5); grind [→ LW_b, → LW_r, EQ_r, → EQ_5, EQ_f, EQ_z, OR1, q_zz, q_za, q_zga, q_fza, q_fx, q_fga, q_gza, q_gfa, q_gx, q_zf1, q_zg1, q_ff, q_fg1, q_gf1, q_gg, ti_link, in1000]) (by (try clear j52); (try clear j30); (try clear hk5); grind [→ LW_b, → LW_r, EQ_r, → EQ_5, EQ_f, EQ_z, OR1, q_zz, q_za, q_zga, q_fza, q_fx, q_fga, q_gza, q_gfa, q_gx, q_zf1, q_zg1, q_ff, q_fg1, q_gf1, q_gg, ti_link, in1000])
    exact hk5 _ (by (try clear j52); (try clear j30); (try clear hk5); grind [→ LW_b, → LW_r, EQ_r, → EQ_5, EQ_f, EQ_z, OR1, q_zz, q_za, q_zga, q_fza, q_fx, q_fga, q_gza, q_gfa, q_gx, q_zf1, q_zg1, q_ff, q_fg1, q_gf1, q_gg, ti_link, in1000]) (by (try clear j52); (try clear j30); (try clear hk5); grind [→ LW_b, → LW_r, EQ_r, → EQ_5, EQ_f, EQ_z, OR1, q_zz, q_za, q_zga, q_fza, q_fx, q_fga, q_gza, q_gfa, q_gx, q_zf1, q_zg1, q_ff, q_fg1, q_gf1, q_gg, ti_link, in1000])
  have j30 : ∀ (x3 : Int32) (x4 : Int32) (Sx : mS), (Sx = S ∧ 500 * hx ≤ x3.toInt ∧ x3.toInt < nt ∧ x3 = g5x3) → wp_failing_30 (fun S1 r => S1 = S ∧ OR1 (12000 * hx) na r.toInt) k5 x3 x4 Sx := by
    intro x3 x4 Sx hJ30
    unfold wp_failing_30
    refine ⟨fun c1 => ?_, fun c1 => ?_⟩
    · exact j52 _ _ (by (try clear j52); (try clear j30); (try clear hk5); grind [→ LW_b, → LW_r, EQ_r, → EQ_5, EQ_f, EQ_z, OR1, q_zz, q_za, q_zga, q_fza, q_fx, q_fga, q_gza, q_gfa, q_gx, q_zf1, q_zg1, q_ff, q_fg1, q_gf1, q_gg, ti_link, in1000])
    · refine ⟨by (try clear j52); (try clear j30); (try clear hk5); grind [→ LW_b, → LW_r, EQ_r, → EQ_5, EQ_f, EQ_z, OR1, q_zz, q_za, q_zga, q_fza, q_fx, q_fga, q_gza, q_gfa, q_gx, q_zf1, q_zg1, q_ff, q_fg1, q_gf1, q_gg, ti_link, in1000], ?_⟩
      intro z7 ez7
      refine ⟨fun c2 => ?_, fun c2 => ?_⟩
      · exact j52 _ _ (by (try clear j52); (try clear j30); (try clear hk5); grind [→ LW_b, → LW_r, EQ_r, → EQ_5, EQ_f, EQ_z, OR1, q_zz, q_za, q_zga, q_fza, q_fx, q_fga, q_gza, q_gfa, q_gx, q_zf1, q_zg1, q_ff, q_fg1, q_gf1, q_gg, ti_link, in1000])
      · refine ⟨by (try clear j52); (try clear j30); (try clear hk5); grind [→ LW_b, → LW_r, EQ_r, → EQ_5, EQ_f, EQ_z, OR1, q_zz, q_za, q_zga, q_fza, q_fx, q_fga, q_gza, q_gfa, q_gx, q_zf1, q_zg1, q_ff, q_fg1, q_gf1, q_gg, ti_link, in1000], ?_⟩
        intro z9 ez9
        have  qz9 : 12000 * hx ≤ z9.toInt ∧ z9.toInt < na := by
              rw [ez9, EQ_r (T := T) (k := 35) (by (try clear j52); (try clear j30); (try clear hk5); grind [→ LW_b, → LW_r, EQ_r, → EQ_5, EQ_f, EQ_z, OR1, q_zz, q_za, q_zga, q_fza, q_fx, q_fga, q_gza, q_gfa, q_gx, q_zf1, q_zg1, q_ff, q_fg1, q_gf1, q_gg, ti_link, in1000]) (by decide)]
              exact LW_35 hW (by (try clear j52); (try clear j30); (try clear hk5); grind [→ LW_b, → LW_r, EQ_r, → EQ_5, EQ_f, EQ_z, OR1, q_zz, q_za, q_zga, q_fza, q_fx, q_fga, q_gza, q_gfa, q_gx, q_zf1, q_zg1, q_ff, q_fg1, q_gf1, q_gg, ti_link, in1000]) (by (try clear j52); (try clear j30); (try clear hk5); grind [→ LW_b, → LW_r, EQ_r, → EQ_5, EQ_f, EQ_z, OR1, q_zz, q_za, q_zga, q_fza, q_fx, q_fga, q_gza, q_gfa, q_gx, q_zf1, q_zg1, q_ff, q_fg1, q_gf1, q_gg, ti_link, in1000])
        (try clear j52); (try clear j30); (try clear hk5); grind [→ LW_b, → LW_r, EQ_r, → EQ_5, EQ_f, EQ_z, OR1, q_zz, q_za, q_zga, q_fza, q_fx, q_fga, q_gza, q_gfa, q_gx, q_zf1, q_zg1, q_ff, q_fg1, q_gf1, q_gg, ti_link, in1000]
  refine ⟨fun c3 => ?_, fun c3 => ?_⟩
  · (try clear j52); (try clear j30); (try clear hk5); grind [→ LW_b, → LW_r, EQ_r, → EQ_5, EQ_f, EQ_z, OR1, q_zz, q_za, q_zga, q_fza, q_fx, q_fga, q_gza, q_gfa, q_gx, q_zf1, q_zg1, q_ff, q_fg1, q_gf1, q_gg, ti_link, in1000]
  · refine ⟨fun c4 => ?_, fun c4 => ?_⟩
    · exact j30 _ _ _ (by (try clear j52); (try clear j30); (try clear hk5); grind [→ LW_b, → LW_r, EQ_r, → EQ_5, EQ_f, EQ_z, OR1, q_zz, q_za, q_zga, q_fza, q_fx, q_fga, q_gza, q_gfa, q_gx, q_zf1, q_zg1, q_ff, q_fg1, q_gf1, q_gg, ti_link, in1000])
    · refine ⟨by (try clear j52); (try clear j30); (try clear hk5); grind [→ LW_b, → LW_r, EQ_r, → EQ_5, EQ_f, EQ_z, OR1, q_zz, q_za, q_zga, q_fza, q_fx, q_fga, q_gza, q_gfa, q_gx, q_zf1, q_zg1, q_ff, q_fg1, q_gf1, q_gg, ti_link, in1000], ?_⟩
      intro z3 ez3
      refine ⟨fun c5 => ?_, fun c5 => ?_⟩
      · exact j30 _ _ _ (by (try clear j52); (try clear j30); (try clear hk5); grind [→ LW_b, → LW_r, EQ_r, → EQ_5, EQ_f, EQ_z, OR1, q_zz, q_za, q_zga, q_fza, q_fx, q_fga, q_gza, q_gfa, q_gx, q_zf1, q_zg1, q_ff, q_fg1, q_gf1, q_gg, ti_link, in1000])
      · refine ⟨by (try clear j52); (try clear j30); (try clear hk5); grind [→ LW_b, → LW_r, EQ_r, → EQ_5, EQ_f, EQ_z, OR1, q_zz, q_za, q_zga, q_fza, q_fx, q_fga, q_gza, q_gfa, q_gx, q_zf1, q_zg1, q_ff, q_fg1, q_gf1, q_gg, ti_link, in1000], ?_⟩
        intro z5 ez5
        have  qz5 : 12000 * hx ≤ z5.toInt ∧ z5.toInt < na := by
              rw [ez5, EQ_r (T := T) (k := 34) (by (try clear j52); (try clear j30); (try clear hk5); grind [→ LW_b, → LW_r, EQ_r, → EQ_5, EQ_f, EQ_z, OR1, q_zz, q_za, q_zga, q_fza, q_fx, q_fga, q_gza, q_gfa, q_gx, q_zf1, q_zg1, q_ff, q_fg1, q_gf1, q_gg, ti_link, in1000]) (by decide)]
              exact LW_34 hW (by (try clear j52); (try clear j30); (try clear hk5); grind [→ LW_b, → LW_r, EQ_r, → EQ_5, EQ_f, EQ_z, OR1, q_zz, q_za, q_zga, q_fza, q_fx, q_fga, q_gza, q_gfa, q_gx, q_zf1, q_zg1, q_ff, q_fg1, q_gf1, q_gg, ti_link, in1000]) (by (try clear j52); (try clear j30); (try clear hk5); grind [→ LW_b, → LW_r, EQ_r, → EQ_5, EQ_f, EQ_z, OR1, q_zz, q_za, q_zga, q_fza, q_fx, q_fga, q_gza, q_gfa, q_gx, q_zf1, q_zg1, q_ff, q_fg1, q_gf1, q_gg, ti_link, in1000]) (by (try clear j52); (try clear j30); (try clear hk5); grind [→ LW_b, → LW_r, EQ_r, → EQ_5, EQ_f, EQ_z, OR1, q_zz, q_za, q_zga, q_fza, q_fx, q_fga, q_gza, q_gfa, q_gx, q_zf1, q_zg1, q_ff, q_fg1, q_gf1, q_gg, ti_link, in1000])
        (try clear j52); (try clear j30); (try clear hk5); grind [→ LW_b, → LW_r, EQ_r, → EQ_5, EQ_f, EQ_z, OR1, q_zz, q_za, q_zga, q_fza, q_fx, q_fga, q_gza, q_gfa, q_gx, q_zf1, q_zg1, q_ff, q_fg1, q_gf1, q_gg, ti_link, in1000]
