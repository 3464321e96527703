
set_option maxHeartbeats 4000000 in
theorem sg_marks_r {nx : Nat} {S0 : mS} (a1 : Int32) {S : mS} (h1 : nx ≤ 1 ∧ (S.1 9).toInt ≤ 500 * nx + 500 ∧ OR1 (500 * nx) (S.1 9).toInt (S.1 13).toInt) (h2 : PTc nx (S.1 9) ((S.2.1 25)) ((S.2.1 36)) ((S.2.1 35))) (ha : a1.toInt = -1 ∨ (0 ≤ a1.toInt ∧ a1.toInt < 1000)) (hO : OH nx S0 S) : wp_marks_r a1 S (fun S1 => (True) ∧ (OH nx S0 S1)) := by
  unfold wp_marks_r
  refine it_rule (fun u : Int32 × Int32 × Int32 × mS => (u.1 = a1 ∧ (u.2.1.toInt = -1 ∨ (500 * nx ≤ u.2.1.toInt ∧ u.2.1.toInt < (S.1 9).toInt)) ∧ (∀ i, (u.2.2.2.2.1 25) i = (S.2.1 25) i)) ∧ (OH nx S0 u.2.2.2)) (fun u => (u.2.1.toInt + 1).toNat) ?_ (⟨by (try clear hO); (try clear hk11); grind [PTc, OR1, ix_int, q_zz, q_za, q_zga, q_fza, q_fx, q_fga, q_gza, q_gfa, q_gx, q_zf1, q_zg1, q_ff, q_fg1, q_gf1, q_gg, ti_link, in1000], by (try clear hk11); grind [OH_no, ti_link]⟩)
  rintro ⟨x2, x3, x4, Sl11⟩ k11 hI11 hk11
  replace hI11 : (x2 = a1 ∧ (x3.toInt = -1 ∨ (500 * nx ≤ x3.toInt ∧ x3.toInt < (S.1 9).toInt)) ∧ (∀ i, (Sl11.2.1 25) i = (S.2.1 25) i)) ∧ (OH nx S0 Sl11) := hI11
  replace hk11 : ∀ v : Int32 × Int32 × Int32 × mS, (v.1 = a1 ∧ (v.2.1.toInt = -1 ∨ (500 * nx ≤ v.2.1.toInt ∧ v.2.1.toInt < (S.1 9).toInt)) ∧ (∀ i, (v.2.2.2.2.1 25) i = (S.2.1 25) i)) ∧ (OH nx S0 v.2.2.2) → (v.2.1.toInt + 1).toNat < (x3.toInt + 1).toNat → k11 v := hk11
  show wp_marks_r_11 _ k11 x2 x3 x4 Sl11
  unfold wp_marks_r_11
  obtain ⟨hI11, iI11⟩ := hI11
  refine ⟨fun c1 => ?_, fun c1 => ?_⟩
  · exact ⟨by (try clear hO iI11); (try clear hk11); grind [PTc, OR1, ix_int, q_zz, q_za, q_zga, q_fza, q_fx, q_fga, q_gza, q_gfa, q_gx, q_zf1, q_zg1, q_ff, q_fg1, q_gf1, q_gg, ti_link, in1000], by (try clear hk11); grind [OH_no, ti_link]⟩
  · refine ⟨fun c2 => ?_, fun c2 => ?_⟩
    · unfold wp_marks_r_29
      refine ⟨by (try clear hO iI11); (try clear hk11); grind [PTc, OR1, ix_int, q_zz, q_za, q_zga, q_fza, q_fx, q_fga, q_gza, q_gfa, q_gx, q_zf1, q_zg1, q_ff, q_fg1, q_gf1, q_gg, ti_link, in1000], ?_⟩
      intro z5 ez5
      refine ⟨fun c3 => ?_, fun c3 => ?_⟩
      · unfold wp_marks_r_43
        unfold wp_marks_r_48
        refine ⟨by (try clear hO iI11); (try clear hk11); grind [PTc, OR1, ix_int, q_zz, q_za, q_zga, q_fza, q_fx, q_fga, q_gza, q_gfa, q_gx, q_zf1, q_zg1, q_ff, q_fg1, q_gf1, q_gg, ti_link, in1000], ?_⟩
        refine ⟨by (try clear hO iI11); (try clear hk11); grind [PTc, OR1, ix_int, q_zz, q_za, q_zga, q_fza, q_fx, q_fga, q_gza, q_gfa, q_gx, q_zf1, q_zg1, q_ff, q_fg1, q_gf1, q_gg, ti_link, in1000], ?_⟩
        intro S8 eS8
        have nS8 : NC Sl11 S8 := NC_f eS8 (by decide)
        have mS8 : NA Sl11 S8 := NA_f eS8 (by decide)
        have oS8 : NO nx Sl11 S8 := NO_f eS8 (nH_t (by decide) (by (try clear hO iI11 nS8 mS8); (try clear hk11); grind [PTc, OR1, ix_int, q_zz, q_za, q_zga, q_fza, q_fx, q_fga, q_gza, q_gfa, q_gx, q_zf1, q_zg1, q_ff, q_fg1, q_gf1, q_gg, ti_link, in1000]))
        refine ⟨by (try clear hO iI11 nS8 mS8 oS8); (try clear hk11); grind [PTc, OR1, ix_int, q_zz, q_za, q_zga, q_fza, q_fx, q_fga, q_gza, q_gfa, q_gx, q_zf1, q_zg1, q_ff, q_fg1, q_gf1, q_gg, ti_link, in1000], ?_⟩
        intro z9 ez9
        refine ⟨by (try clear hO iI11 nS8 mS8 oS8); (try clear hk11); grind [PTc, OR1, ix_int, q_zz, q_za, q_zga, q_fza, q_fx, q_fga, q_gza, q_gfa, q_gx, q_zf1, q_zg1, q_ff, q_fg1, q_gf1, q_gg, ti_link, in1000], ?_⟩
        intro z10 ez10
        exact hk11 _ (⟨by (try clear hO iI11 nS8 mS8 oS8); (try clear hk11); grind [PTc, OR1, ix_int, q_zz, q_za, q_zga, q_fza, q_fx, q_fga, q_gza, q_gfa, q_gx, q_zf1, q_zg1, q_ff, q_fg1, q_gf1, q_gg, ti_link, in1000], by (try clear hk11); grind [OH_no, ti_link]⟩) (by (try clear hO iI11 nS8 mS8 oS8); (try clear hk11); grind [PTc, OR1, ix_int, q_zz, q_za, q_zga, q_fza, q_fx, q_fga, q_gza, q_gfa, q_gx, q_zf1, q_zg1, q_ff, q_fg1, q_gf1, q_gg, ti_link, in1000])
      · refine ⟨fun c4 => ?_, fun c4 => ?_⟩
        · unfold wp_marks_r_48
          refine ⟨by (try clear hO iI11); (try clear hk11); grind [PTc, OR1, ix_int, q_zz, q_za, q_zga, q_fza, q_fx, q_fga, q_gza, q_gfa, q_gx, q_zf1, q_zg1, q_ff, q_fg1, q_gf1, q_gg, ti_link, in1000], ?_⟩
          refine ⟨by (try clear hO iI11); (try clear hk11); grind [PTc, OR1, ix_int, q_zz, q_za, q_zga, q_fza, q_fx, q_fga, q_gza, q_gfa, q_gx, q_zf1, q_zg1, q_ff, q_fg1, q_gf1, q_gg, ti_link, in1000], ?_⟩
          intro S8 eS8
          have nS8 : NC Sl11 S8 := NC_f eS8 (by decide)
          have mS8 : NA Sl11 S8 := NA_f eS8 (by decide)
          have oS8 : NO nx Sl11 S8 := NO_f eS8 (nH_t (by decide) (by (try clear hO iI11 nS8 mS8); (try clear hk11); grind [PTc, OR1, ix_int, q_zz, q_za, q_zga, q_fza, q_fx, q_fga, q_gza, q_gfa, q_gx, q_zf1, q_zg1, q_ff, q_fg1, q_gf1, q_gg, ti_link, in1000]))
          refine ⟨by (try clear hO iI11 nS8 mS8 oS8); (try clear hk11); grind [PTc, OR1, ix_int, q_zz, q_za, q_zga, q_fza, q_fx, q_fga, q_gza, q_gfa, q_gx, q_zf1, q_zg1, q_ff, q_fg1, q_gf1, q_gg, ti_link, in1000], ?_⟩
          intro z9 ez9
          refine ⟨by (try clear hO iI11 nS8 mS8 oS8); (try clear hk11); grind [PTc, OR1, ix_int, q_zz, q_za, q_zga, q_fza, q_fx, q_fga, q_gza, q_gfa, q_gx, q_zf1, q_zg1, q_ff, q_fg1, q_gf1, q_gg, ti_link, in1000], ?_⟩
          intro z10 ez10
          exact hk11 _ (⟨by (try clear hO iI11 nS8 mS8 oS8); (try clear hk11); grind [PTc, OR1, ix_int, q_zz, q_za, q_zga, q_fza, q_fx, q_fga, q_gza, q_gfa, q_gx, q_zf1, q_zg1, q_ff, q_fg1, q_gf1, q_gg, ti_link, in1000], by (try clear hk11); grind [OH_no, ti_link]⟩) (by (try clear hO iI11 nS8 mS8 oS8); (try clear hk11); grind [PTc, OR1, ix_int, q_zz, q_za, q_zga, q_fza, q_fx, q_fga, q_gza, q_gfa, q_gx, q_zf1, q_zg1, q_ff, q_fg1, q_gf1, q_gg, ti_link, in1000])
        · unfold wp_marks_r_43
          unfold wp_marks_r_48
          refine ⟨by (try clear hO iI11); (try clear hk11); grind [PTc, OR1, ix_int, q_zz, q_za, q_zga, q_fza, q_fx, q_fga, q_gza, q_gfa, q_gx, q_zf1, q_zg1, q_ff, q_fg1, q_gf1, q_gg, ti_link, in1000], ?_⟩
          refine ⟨by (try clear hO iI11); (try clear hk11); grind [PTc, OR1, ix_int, q_zz, q_za, q_zga, q_fza, q_fx, q_fga, q_gza, q_gfa, q_gx, q_zf1, q_zg1, q_ff, q_fg1, q_gf1, q_gg, ti_link, in1000], ?_⟩
          intro S8 eS8
          have nS8 : NC Sl11 S8 := NC_f eS8 (by decide)
          have mS8 : NA Sl11 S8 := NA_f eS8 (by decide)
          have oS8 : NO nx Sl11 S8 := NO_f eS8 (nH_t (by decide) (by (try clear hO iI11 nS8 mS8); (try clear hk11); grind [PTc, OR1, ix_int, q_zz, q_za, q_zga, q_fza, q_fx, q_fga, q_gza, q_gfa, q_gx, q_zf1, q_zg1, q_ff, q_fg1, q_gf1, q_gg, ti_link, in1000]))
          refine ⟨by (try clear hO iI11 nS8 mS8 oS8); (try clear hk11); grind [PTc, OR1, ix_int, q_zz, q_za, q_zga, q_fza, q_fx, q_fga, q_gza, q_gfa, q_gx, q_zf1, q_zg1, q_ff, q_fg1, q_gf1, q_gg, ti_link, in1000], ?_⟩
          intro z9 ez9
          refine ⟨by (try clear hO iI11 nS8 mS8 oS8); (try clear hk11); grind [PTc, OR1, ix_int, q_zz, q_za, q_zga, q_fza, q_fx, q_fga, q_gza, q_gfa, q_gx, q_zf1, q_zg1, q_ff, q_fg1, q_gf1, q_gg, ti_link, in1000], ?_⟩
          intro z10 ez10
          exact hk11 _ (⟨by (try clear hO iI11 nS8 mS8 oS8); (try clear hk11); grind [PTc, OR1, ix_int, q_zz, q_za, q_zga, q_fza, q_fx, q_fga, q_gza, q_gfa, q_gx, q_zf1, q_zg1, q_ff, q_fg1, q_gf1, q_gg, ti_link, in1000], by (try clear hk11); grind [OH_no, ti_link]⟩) (by (try clear hO iI11 nS8 mS8 oS8); (try clear hk11); grind [PTc, OR1, ix_int, q_zz, q_za, q_zga, q_fza, q_fx, q_fga, q_gza, q_gfa, q_gx, q_zf1, q_zg1, q_ff, q_fg1, q_gf1, q_gg, ti_link, in1000])
    · refine ⟨by (try clear hO iI11); (try clear hk11); grind [PTc, OR1, ix_int, q_zz, q_za, q_zga, q_fza, q_fx, q_fga, q_gza, q_gfa, q_gx, q_zf1, q_zg1, q_ff, q_fg1, q_gf1, q_gg, ti_link, in1000], ?_⟩
      intro z3 ez3
      refine ⟨fun c5 => ?_, fun c5 => ?_⟩
      · exact ⟨by (try clear hO iI11); (try clear hk11); grind [PTc, OR1, ix_int, q_zz, q_za, q_zga, q_fza, q_fx, q_fga, q_gza, q_gfa, q_gx, q_zf1, q_zg1, q_ff, q_fg1, q_gf1, q_gg, ti_link, in1000], by (try clear hk11); grind [OH_no, ti_link]⟩
      · unfold wp_marks_r_29
        refine ⟨by (try clear hO iI11); (try clear hk11); grind [PTc, OR1, ix_int, q_zz, q_za, q_zga, q_fza, q_fx, q_fga, q_gza, q_gfa, q_gx, q_zf1, q_zg1, q_ff, q_fg1, q_gf1, q_gg, ti_link, in1000], ?_⟩
        intro z5 ez5
        refine ⟨fun c6 => ?_, fun c6 => ?_⟩
        · unfold wp_marks_r_43
          unfold wp_marks_r_48
          refine ⟨by (try clear hO iI11); (try clear hk11); grind [PTc, OR1, ix_int, q_zz, q_za, q_zga, q_fza, q_fx, q_fga, q_gza, q_gfa, q_gx, q_zf1, q_zg1, q_ff, q_fg1, q_gf1, q_gg, ti_link, in1000], ?_⟩
          refine ⟨by (try clear hO iI11); (try clear hk11); grind [PTc, OR1, ix_int, q_zz, q_za, q_zga, q_fza, q_fx, q_fga, q_gza, q_gfa, q_gx, q_zf1, q_zg1, q_ff, q_fg1, q_gf1, q_gg, ti_link, in1000], ?_⟩
          intro S8 eS8
          have nS8 : NC Sl11 S8 := NC_f eS8 (by decide)
          have mS8 : NA Sl11 S8 := NA_f eS8 (by decide)
          have oS8 : NO nx Sl11 S8 := NO_f eS8 (nH_t (by decide) (by (try clear hO iI11 nS8 mS8); (try clear hk11); grind [PTc, OR1, ix_int, q_zz, q_za, q_zga, q_fza, q_fx, q_fga, q_gza, q_gfa, q_gx, q_zf1, q_zg1, q_ff, q_fg1, q_gf1, q_gg, ti_link, in1000]))
          refine ⟨by (try clear hO iI11 nS8 mS8 oS8); (try clear hk11); grind [PTc, OR1, ix_int, q_zz, q_za, q_zga, q_fza, q_fx, q_fga, q_gza, q_gfa, q_gx, q_zf1, q_zg1, q_ff, q_fg1, q_gf1, q_gg, ti_link, in1000], ?_⟩
          intro z9 ez9
          refine ⟨by (try clear hO iI11 nS8 mS8 oS8); (try clear hk11); grind [PTc, OR1, ix_int, q_zz, q_za, q_zga, q_fza, q_fx, q_fga, q_gza, q_gfa, q_gx, q_zf1, q_zg1, q_ff, q_fg1, q_gf1, q_gg, ti_link, in1000], ?_⟩
          intro z10 ez10
          exact hk11 _ (⟨by (try clear hO iI11 nS8 mS8 oS8); (try clear hk11); grind [PTc, OR1, ix_int, q_zz, q_za, q_zga, q_fza, q_fx, q_fga, q_gza, q_gfa, q_gx, q_zf1, q_zg1, q_ff, q_fg1, q_gf1, q_gg, ti_link, in1000], by (try clear hk11); grind [OH_no, ti_link]⟩) (by (try clear hO iI11 nS8 mS8 oS8); (try clear hk11); grind [PTc, OR1, ix_int, q_zz, q_za, q_zga, q_fza, q_fx, q_fga, q_gza, q_gfa, q_gx, q_zf1, q_zg1, q_ff, q_fg1, q_gf1, q_gg, ti_link, in1000])
        · refine ⟨fun c7 => ?_, fun c7 => ?_⟩
          · unfold wp_marks_r_48
            refine ⟨by (try clear hO iI11); (try clear hk11); grind [PTc, OR1, ix_int, q_zz, q_za, q_zga, q_fza, q_fx, q_fga, q_gza, q_gfa, q_gx, q_zf1, q_zg1, q_ff, q_fg1, q_gf1, q_gg, ti_link, in1000], ?_⟩
            refine ⟨by (try clear hO iI11); (try clear hk11); grind [PTc, OR1, ix_int, q_zz, q_za, q_zga, q_fza, q_fx, q_fga, q_gza, q_gfa, q_gx, q_zf1, q_zg1, q_ff, q_fg1, q_gf1, q_gg, ti_link, in1000], ?_⟩
            intro S8 eS8
            have nS8 : NC Sl11 S8 := NC_f eS8 (by decide)
            have mS8 : NA Sl11 S8 := NA_f eS8 (by decide)
            have oS8 : NO nx Sl11 S8 := NO_f eS8 (nH_t (by decide) (by (try clear hO iI11 nS8 mS8); (try clear hk11); grind [PTc, OR1, ix_int, q_zz, q_za, q_zga, q_fza, q_fx, q_fga, q_gza, q_gfa, q_gx, q_zf1, q_zg1, q_ff, q_fg1, q_gf1, q_gg, ti_link, in1000]))
            refine ⟨by (try clear hO iI11 nS8 mS8 oS8); (try clear hk11); grind [PTc, OR1, ix_int, q_zz, q_za, q_zga, q_fza, q_fx, q_fga, q_gza, q_gfa, q_gx, q_zf1, q_zg1, q_ff, q_fg1, q_gf1, q_gg, ti_link, in1000], ?_⟩
            intro z9 ez9
            refine ⟨by (try clear hO iI11 nS8 mS8 oS8); (try clear hk11); grind [PTc, OR1, ix_int, q_zz, q_za, q_zga, q_fza, q_fx, q_fga, q_gza, q_gfa, q_gx, q_zf1, q_zg1, q_ff, q_fg1, q_gf1, q_gg, ti_link, in1000], ?_⟩
            intro z10 ez10
            exact hk11 _ (⟨by (try clear hO iI11 nS8 mS8 oS8); (try clear hk11); grind [PTc, OR1, ix_int, q_zz, q_za, q_zga, q_fza, q_fx, q_fga, q_gza, q_gfa, q_gx, q_zf1, q_zg1, q_ff, q_fg1, q_gf1, q_gg, ti_link, in1000], by (try clear hk11); grind [OH_no, ti_link]⟩) (by (try clear hO iI11 nS8 mS8 oS8); (try clear hk11); grind [PTc, OR1, ix_int, q_zz, q_za, q_zga, q_fza, q_fx, q_fga, q_gza, q_gfa, q_gx, q_zf1, q_zg1, q_ff, q_fg1, q_gf1, q_gg, ti_link, in1000])
          · unfold wp_marks_r_43
            unfold wp_marks_r_48
            refine ⟨by (try clear hO iI11); (try clear hk11); grind [PTc, OR1, ix_int, q_zz, q_za, q_zga, q_fza, q_fx, q_fga, q_gza, q_gfa, q_gx, q_zf1, q_zg1, q_ff, q_fg1, q_gf1, q_gg, ti_link, in1000], ?_⟩
            refine ⟨by (try clear hO iI11); (try clear hk11); grind [PTc, OR1, ix_int, q_zz, q_za, q_zga, q_fza, q_fx, q_fga, q_gza, q_gfa, q_gx, q_zf1, q_zg1, q_ff, q_fg1, q_gf1, q_gg, ti_link, in1000], ?_⟩
            intro S8 eS8
            have nS8 : NC Sl11 S8 := NC_f eS8 (by decide)
            have mS8 : NA Sl11 S8 := NA_f eS8 (by decide)
            have oS8 : NO nx Sl11 S8 := NO_f eS8 (nH_t (by decide) (by (try clear hO iI11 nS8 mS8); (try clear hk11); grind [PTc, OR1, ix_int, q_zz, q_za, q_zga, q_fza, q_fx, q_fga, q_gza, q_gfa, q_gx, q_zf1, q_zg1, q_ff, q_fg1, q_gf1, q_gg, ti_link, in1000]))
            refine ⟨by (try clear hO iI11 nS8 mS8 oS8); (try clear hk11); grind [PTc, OR1, ix_int, q_zz, q_za, q_zga, q_fza, q_fx, q_fga, q_gza, q_gfa, q_gx, q_zf1, q_zg1, q_ff, q_fg1, q_gf1, q_gg, ti_link, in1000], ?_⟩
            intro z9 ez9
            refine ⟨by (try clear hO iI11 nS8 mS8 oS8); (try clear hk11); grind [PTc, OR1, ix_int, q_zz, q_za, q_zga, q_fza, q_fx, q_fga, q_gza, q_gfa, q_gx, q_zf1, q_zg1, q_ff, q_fg1, q_gf1, q_gg, ti_link, in1000], ?_⟩
            intro z10 ez10
            exact hk11 _ (⟨by (try clear hO iI11 nS8 mS8 oS8); (try clear hk11); grind [PTc, OR1, ix_int, q_zz, q_za, q_zga, q_fza, q_fx, q_fga, q_gza, q_gfa, q_gx, q_zf1, q_zg1, q_ff, q_fg1, q_gf1, q_gg, ti_link, in1000], by (try clear hk11); grind [OH_no, ti_link]⟩) (by (try clear hO iI11 nS8 mS8 oS8); (try clear hk11); grind [PTc, OR1, ix_int, q_zz, q_za, q_zga, q_fza, q_fx, q_fga, q_gza, q_gfa, q_gx, q_zf1, q_zg1, q_ff, q_fg1, q_gf1, q_gg, ti_link, in1000])
