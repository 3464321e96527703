
set_option maxHeartbeats 4000000 in
theorem sg_marks_b {nx : Nat} {S0 : mS} {km : Int} (a1 : Int32) {S : mS} (h1 : nx ≤ 1 ∧ (S.1 9).toInt ≤ 500 * nx + 500 ∧ OR1 (500 * nx) (S.1 9).toInt (S.1 13).toInt) (h2 : PTc nx (S.1 9) ((S.2.1 25)) ((S.2.1 36)) ((S.2.1 35))) (ha : a1.toInt = -1 ∨ (0 ≤ a1.toInt ∧ a1.toInt < 1000)) (hA : AF nx km S) (hO : OH nx S0 S) (hM : MKI S a1 (S.1 13)) (hw : 0 ≤ a1.toInt) : wp_marks_b a1 S (fun S1 => (True) ∧ (AF nx km S1 ∧ OH nx S0 S1)) := by
  unfold wp_marks_b
  refine it_rule (fun u : Int32 × Int32 × Int32 × mS => (u.1 = a1 ∧ (u.2.1.toInt = -1 ∨ (500 * nx ≤ u.2.1.toInt ∧ u.2.1.toInt < (S.1 9).toInt)) ∧ (∀ i, (u.2.2.2.2.1 25) i = (S.2.1 25) i) ∧ (u.2.2.2.1 9) = (S.1 9)) ∧ (AF nx km u.2.2.2 ∧ OH nx S0 u.2.2.2 ∧ MKI u.2.2.2 a1 u.2.1)) (fun u => (u.2.1.toInt + 1).toNat) ?_ (⟨by (try clear hA hO hM hw); (try clear hk11); grind [PTc, OR1, ix_int, q_zz, q_za, q_zga, q_fza, q_fx, q_fga, q_gza, q_gfa, q_gx, q_zf1, q_zg1, q_ff, q_fg1, q_gf1, q_gg, ti_link, in1000], by refine ⟨?_, ?_, ?_⟩ <;> ((try clear hk11); grind [OH_no, MKI, ti_link])⟩)
  rintro ⟨x2, x3, x4, Sl11⟩ k11 hI11 hk11
  replace hI11 : (x2 = a1 ∧ (x3.toInt = -1 ∨ (500 * nx ≤ x3.toInt ∧ x3.toInt < (S.1 9).toInt)) ∧ (∀ i, (Sl11.2.1 25) i = (S.2.1 25) i) ∧ (Sl11.1 9) = (S.1 9)) ∧ (AF nx km Sl11 ∧ OH nx S0 Sl11 ∧ MKI Sl11 a1 x3) := hI11
  replace hk11 : ∀ v : Int32 × Int32 × Int32 × mS, (v.1 = a1 ∧ (v.2.1.toInt = -1 ∨ (500 * nx ≤ v.2.1.toInt ∧ v.2.1.toInt < (S.1 9).toInt)) ∧ (∀ i, (v.2.2.2.2.1 25) i = (S.2.1 25) i) ∧ (v.2.2.2.1 9) = (S.1 9)) ∧ (AF nx km v.2.2.2 ∧ OH nx S0 v.2.2.2 ∧ MKI v.2.2.2 a1 v.2.1) → (v.2.1.toInt + 1).toNat < (x3.toInt + 1).toNat → k11 v := hk11
  show wp_marks_b_11 _ k11 x2 x3 x4 Sl11
  unfold wp_marks_b_11
  obtain ⟨hI11, iI11⟩ := hI11
  refine ⟨fun c1 => ?_, fun c1 => ?_⟩
  · exact ⟨by (try clear hA hO hM hw iI11); (try clear hk11); grind [PTc, OR1, ix_int, q_zz, q_za, q_zga, q_fza, q_fx, q_fga, q_gza, q_gfa, q_gx, q_zf1, q_zg1, q_ff, q_fg1, q_gf1, q_gg, ti_link, in1000], by refine ⟨?_, ?_⟩ <;> ((try clear hk11); grind [OH_no, MKI, ti_link])⟩
  · refine ⟨fun c2 => ?_, fun c2 => ?_⟩
    · unfold wp_marks_b_29
      refine ⟨by (try clear hA hO hM hw iI11); (try clear hk11); grind [PTc, OR1, ix_int, q_zz, q_za, q_zga, q_fza, q_fx, q_fga, q_gza, q_gfa, q_gx, q_zf1, q_zg1, q_ff, q_fg1, q_gf1, q_gg, ti_link, in1000], ?_⟩
      intro z5 ez5
      refine ⟨fun c3 => ?_, fun c3 => ?_⟩
      · unfold wp_marks_b_43
        unfold wp_marks_b_48
        refine ⟨by (try clear hA hO hM hw iI11); (try clear hk11); grind [PTc, OR1, ix_int, q_zz, q_za, q_zga, q_fza, q_fx, q_fga, q_gza, q_gfa, q_gx, q_zf1, q_zg1, q_ff, q_fg1, q_gf1, q_gg, ti_link, in1000], ?_⟩
        refine ⟨by (try clear hA hO hM hw iI11); (try clear hk11); grind [PTc, OR1, ix_int, q_zz, q_za, q_zga, q_fza, q_fx, q_fga, q_gza, q_gfa, q_gx, q_zf1, q_zg1, q_ff, q_fg1, q_gf1, q_gg, ti_link, in1000], ?_⟩
        intro S8 eS8
        have nS8 : NC Sl11 S8 := NC_f eS8 (by decide)
        have oS8 : NO nx Sl11 S8 := NO_f eS8 (nH_t (by decide) (by (try clear hA hO hM hw iI11 nS8); (try clear hk11); grind [PTc, OR1, ix_int, q_zz, q_za, q_zga, q_fza, q_fx, q_fga, q_gza, q_gfa, q_gx, q_zf1, q_zg1, q_ff, q_fg1, q_gf1, q_gg, ti_link, in1000]))
        have kS8 : AF nx km S8 := AF_mark (Or.inl rfl) eS8 (by (try clear hk11); grind [OH_no, MKI, ti_link]) iI11.1
        refine ⟨by (try clear hA hO hM hw iI11 nS8 oS8 kS8); (try clear hk11); grind [PTc, OR1, ix_int, q_zz, q_za, q_zga, q_fza, q_fx, q_fga, q_gza, q_gfa, q_gx, q_zf1, q_zg1, q_ff, q_fg1, q_gf1, q_gg, ti_link, in1000], ?_⟩
        intro z9 ez9
        refine ⟨by (try clear hA hO hM hw iI11 nS8 oS8 kS8); (try clear hk11); grind [PTc, OR1, ix_int, q_zz, q_za, q_zga, q_fza, q_fx, q_fga, q_gza, q_gfa, q_gx, q_zf1, q_zg1, q_ff, q_fg1, q_gf1, q_gg, ti_link, in1000], ?_⟩
        intro z10 ez10
        have jS8 : MKI S8 a1 z10 := MKI_next (Or.inl rfl) eS8 iI11.1 hw (by (try clear hA hO hM hw iI11 nS8 oS8 kS8); (try clear hk11); grind [PTc, OR1, ix_int, q_zz, q_za, q_zga, q_fza, q_fx, q_fga, q_gza, q_gfa, q_gx, q_zf1, q_zg1, q_ff, q_fg1, q_gf1, q_gg, ti_link, in1000]) iI11.2.2 (by (try clear hk11); grind [OH_no, MKI, ti_link]) ez10
        exact hk11 _ (⟨by (try clear hA hO hM hw iI11 nS8 oS8 kS8 jS8); (try clear hk11); grind [PTc, OR1, ix_int, q_zz, q_za, q_zga, q_fza, q_fx, q_fga, q_gza, q_gfa, q_gx, q_zf1, q_zg1, q_ff, q_fg1, q_gf1, q_gg, ti_link, in1000], by refine ⟨?_, ?_, ?_⟩ <;> ((try clear hk11); grind [OH_no, MKI, ti_link])⟩) (by (try clear hA hO hM hw iI11 nS8 oS8 kS8 jS8); (try clear hk11); grind [PTc, OR1, ix_int, q_zz, q_za, q_zga, q_fza, q_fx, q_fga, q_gza, q_gfa, q_gx, q_zf1, q_zg1, q_ff, q_fg1, q_gf1, q_gg, ti_link, in1000])
      · refine ⟨fun c4 => ?_, fun c4 => ?_⟩
        · unfold wp_marks_b_48
          refine ⟨by (try clear hA hO hM hw iI11); (try clear hk11); grind [PTc, OR1, ix_int, q_zz, q_za, q_zga, q_fza, q_fx, q_fga, q_gza, q_gfa, q_gx, q_zf1, q_zg1, q_ff, q_fg1, q_gf1, q_gg, ti_link, in1000], ?_⟩
          refine ⟨by (try clear hA hO hM hw iI11); (try clear hk11); grind [PTc, OR1, ix_int, q_zz, q_za, q_zga, q_fza, q_fx, q_fga, q_gza, q_gfa, q_gx, q_zf1, q_zg1, q_ff, q_fg1, q_gf1, q_gg, ti_link, in1000], ?_⟩
          intro S8 eS8
          have nS8 : NC Sl11 S8 := NC_f eS8 (by decide)
          have oS8 : NO nx Sl11 S8 := NO_f eS8 (nH_t (by decide) (by (try clear hA hO hM hw iI11 nS8); (try clear hk11); grind [PTc, OR1, ix_int, q_zz, q_za, q_zga, q_fza, q_fx, q_fga, q_gza, q_gfa, q_gx, q_zf1, q_zg1, q_ff, q_fg1, q_gf1, q_gg, ti_link, in1000]))
          have kS8 : AF nx km S8 := AF_mark (Or.inl rfl) eS8 (by (try clear hk11); grind [OH_no, MKI, ti_link]) iI11.1
          refine ⟨by (try clear hA hO hM hw iI11 nS8 oS8 kS8); (try clear hk11); grind [PTc, OR1, ix_int, q_zz, q_za, q_zga, q_fza, q_fx, q_fga, q_gza, q_gfa, q_gx, q_zf1, q_zg1, q_ff, q_fg1, q_gf1, q_gg, ti_link, in1000], ?_⟩
          intro z9 ez9
          refine ⟨by (try clear hA hO hM hw iI11 nS8 oS8 kS8); (try clear hk11); grind [PTc, OR1, ix_int, q_zz, q_za, q_zga, q_fza, q_fx, q_fga, q_gza, q_gfa, q_gx, q_zf1, q_zg1, q_ff, q_fg1, q_gf1, q_gg, ti_link, in1000], ?_⟩
          intro z10 ez10
          have jS8 : MKI S8 a1 z10 := MKI_next (Or.inl rfl) eS8 iI11.1 hw (by (try clear hA hO hM hw iI11 nS8 oS8 kS8); (try clear hk11); grind [PTc, OR1, ix_int, q_zz, q_za, q_zga, q_fza, q_fx, q_fga, q_gza, q_gfa, q_gx, q_zf1, q_zg1, q_ff, q_fg1, q_gf1, q_gg, ti_link, in1000]) iI11.2.2 (by (try clear hk11); grind [OH_no, MKI, ti_link]) ez10
          exact hk11 _ (⟨by (try clear hA hO hM hw iI11 nS8 oS8 kS8 jS8); (try clear hk11); grind [PTc, OR1, ix_int, q_zz, q_za, q_zga, q_fza, q_fx, q_fga, q_gza, q_gfa, q_gx, q_zf1, q_zg1, q_ff, q_fg1, q_gf1, q_gg, ti_link, in1000], by refine ⟨?_, ?_, ?_⟩ <;> ((try clear hk11); grind [OH_no, MKI, ti_link])⟩) (by (try clear hA hO hM hw iI11 nS8 oS8 kS8 jS8); (try clear hk11); grind [PTc, OR1, ix_int, q_zz, q_za, q_zga, q_fza, q_fx, q_fga, q_gza, q_gfa, q_gx, q_zf1, q_zg1, q_ff, q_fg1, q_gf1, q_gg, ti_link, in1000])
        · unfold wp_marks_b_43
          unfold wp_marks_b_48
          refine ⟨by (try clear hA hO hM hw iI11); (try clear hk11); grind [PTc, OR1, ix_int, q_zz, q_za, q_zga, q_fza, q_fx, q_fga, q_gza, q_gfa, q_gx, q_zf1, q_zg1, q_ff, q_fg1, q_gf1, q_gg, ti_link, in1000], ?_⟩
          refine ⟨by (try clear hA hO hM hw iI11); (try clear hk11); grind [PTc, OR1, ix_int, q_zz, q_za, q_zga, q_fza, q_fx, q_fga, q_gza, q_gfa, q_gx, q_zf1, q_zg1, q_ff, q_fg1, q_gf1, q_gg, ti_link, in1000], ?_⟩
          intro S8 eS8
          have nS8 : NC Sl11 S8 := NC_f eS8 (by decide)
          have oS8 : NO nx Sl11 S8 := NO_f eS8 (nH_t (by decide) (by (try clear hA hO hM hw iI11 nS8); (try clear hk11); grind [PTc, OR1, ix_int, q_zz, q_za, q_zga, q_fza, q_fx, q_fga, q_gza, q_gfa, q_gx, q_zf1, q_zg1, q_ff, q_fg1, q_gf1, q_gg, ti_link, in1000]))
          have kS8 : AF nx km S8 := AF_mark (Or.inl rfl) eS8 (by (try clear hk11); grind [OH_no, MKI, ti_link]) iI11.1
          refine ⟨by (try clear hA hO hM hw iI11 nS8 oS8 kS8); (try clear hk11); grind [PTc, OR1, ix_int, q_zz, q_za, q_zga, q_fza, q_fx, q_fga, q_gza, q_gfa, q_gx, q_zf1, q_zg1, q_ff, q_fg1, q_gf1, q_gg, ti_link, in1000], ?_⟩
          intro z9 ez9
          refine ⟨by (try clear hA hO hM hw iI11 nS8 oS8 kS8); (try clear hk11); grind [PTc, OR1, ix_int, q_zz, q_za, q_zga, q_fza, q_fx, q_fga, q_gza, q_gfa, q_gx, q_zf1, q_zg1, q_ff, q_fg1, q_gf1, q_gg, ti_link, in1000], ?_⟩
          intro z10 ez10
          have jS8 : MKI S8 a1 z10 := MKI_next (Or.inl rfl) eS8 iI11.1 hw (by (try clear hA hO hM hw iI11 nS8 oS8 kS8); (try clear hk11); grind [PTc, OR1, ix_int, q_zz, q_za, q_zga, q_fza, q_fx, q_fga, q_gza, q_gfa, q_gx, q_zf1, q_zg1, q_ff, q_fg1, q_gf1, q_gg, ti_link, in1000]) iI11.2.2 (by (try clear hk11); grind [OH_no, MKI, ti_link]) ez10
          exact hk11 _ (⟨by (try clear hA hO hM hw iI11 nS8 oS8 kS8 jS8); (try clear hk11); grind [PTc, OR1, ix_int, q_zz, q_za, q_zga, q_fza, q_fx, q_fga, q_gza, q_gfa, q_gx, q_zf1, q_zg1, q_ff, q_fg1, q_gf1, q_gg, ti_link, in1000], by refine ⟨?_, ?_, ?_⟩ <;> ((try clear hk11); grind [OH_no, MKI, ti_link])⟩) (by (try clear hA hO hM hw iI11 nS8 oS8 kS8 jS8); (try clear hk11); grind [PTc, OR1, ix_int, q_zz, q_za, q_zga, q_fza, q_fx, q_fga, q_gza, q_gfa, q_gx, q_zf1, q_zg1, q_ff, q_fg1, q_gf1, q_gg, ti_link, in1000])
    · refine ⟨by (try clear hA hO hM hw iI11); (try clear hk11); grind [PTc, OR1, ix_int, q_zz, q_za, q_zga, q_fza, q_fx, q_fga, q_gza, q_gfa, q_gx, q_zf1, q_zg1, q_ff, q_fg1, q_gf1, q_gg, ti_link, in1000], ?_⟩
      intro z3 ez3
      refine ⟨fun c5 => ?_, fun c5 => ?_⟩
      · exact ⟨by (try clear hA hO hM hw iI11); (try clear hk11); grind [PTc, OR1, ix_int, q_zz, q_za, q_zga, q_fza, q_fx, q_fga, q_gza, q_gfa, q_gx, q_zf1, q_zg1, q_ff, q_fg1, q_gf1, q_gg, ti_link, in1000], by refine ⟨?_, ?_⟩ <;> ((try clear hk11); grind [OH_no, MKI, ti_link])⟩
      · unfold wp_marks_b_29
        refine ⟨by (try clear hA hO hM hw iI11); (try clear hk11); grind [PTc, OR1, ix_int, q_zz, q_za, q_zga, q_fza, q_fx, q_fga, q_gza, q_gfa, q_gx, q_zf1, q_zg1, q_ff, q_fg1, q_gf1, q_gg, ti_link, in1000], ?_⟩
        intro z5 ez5
        refine ⟨fun c6 => ?_, fun c6 => ?_⟩
        · unfold wp_marks_b_43
          unfold wp_marks_b_48
          refine ⟨by (try clear hA hO hM hw iI11); (try clear hk11); grind [PTc, OR1, ix_int, q_zz, q_za, q_zga, q_fza, q_fx, q_fga, q_gza, q_gfa, q_gx, q_zf1, q_zg1, q_ff, q_fg1, q_gf1, q_gg, ti_link, in1000], ?_⟩
          refine ⟨by (try clear hA hO hM hw iI11); (try clear hk11); grind [PTc, OR1, ix_int, q_zz, q_za, q_zga, q_fza, q_fx, q_fga, q_gza, q_gfa, q_gx, q_zf1, q_zg1, q_ff, q_fg1, q_gf1, q_gg, ti_link, in1000], ?_⟩
          intro S8 eS8
          have nS8 : NC Sl11 S8 := NC_f eS8 (by decide)
          have oS8 : NO nx Sl11 S8 := NO_f eS8 (nH_t (by decide) (by (try clear hA hO hM hw iI11 nS8); (try clear hk11); grind [PTc, OR1, ix_int, q_zz, q_za, q_zga, q_fza, q_fx, q_fga, q_gza, q_gfa, q_gx, q_zf1, q_zg1, q_ff, q_fg1, q_gf1, q_gg, ti_link, in1000]))
          have kS8 : AF nx km S8 := AF_mark (Or.inl rfl) eS8 (by (try clear hk11); grind [OH_no, MKI, ti_link]) iI11.1
          refine ⟨by (try clear hA hO hM hw iI11 nS8 oS8 kS8); (try clear hk11); grind [PTc, OR1, ix_int, q_zz, q_za, q_zga, q_fza, q_fx, q_fga, q_gza, q_gfa, q_gx, q_zf1, q_zg1, q_ff, q_fg1, q_gf1, q_gg, ti_link, in1000], ?_⟩
          intro z9 ez9
          refine ⟨by (try clear hA hO hM hw iI11 nS8 oS8 kS8); (try clear hk11); grind [PTc, OR1, ix_int, q_zz, q_za, q_zga, q_fza, q_fx, q_fga, q_gza, q_gfa, q_gx, q_zf1, q_zg1, q_ff, q_fg1, q_gf1, q_gg, ti_link, in1000], ?_⟩
          intro z10 ez10
          have jS8 : MKI S8 a1 z10 := MKI_next (Or.inl rfl) eS8 iI11.1 hw (by (try clear hA hO hM hw iI11 nS8 oS8 kS8); (try clear hk11); grind [PTc, OR1, ix_int, q_zz, q_za, q_zga, q_fza, q_fx, q_fga, q_gza, q_gfa, q_gx, q_zf1, q_zg1, q_ff, q_fg1, q_gf1, q_gg, ti_link, in1000]) iI11.2.2 (by (try clear hk11); grind [OH_no, MKI, ti_link]) ez10
          exact hk11 _ (⟨by (try clear hA hO hM hw iI11 nS8 oS8 kS8 jS8); (try clear hk11); grind [PTc, OR1, ix_int, q_zz, q_za, q_zga, q_fza, q_fx, q_fga, q_gza, q_gfa, q_gx, q_zf1, q_zg1, q_ff, q_fg1, q_gf1, q_gg, ti_link, in1000], by refine ⟨?_, ?_, ?_⟩ <;> ((try clear hk11); grind [OH_no, MKI, ti_link])⟩) (by (try clear hA hO hM hw iI11 nS8 oS8 kS8 jS8); (try clear hk11); grind [PTc, OR1, ix_int, q_zz, q_za, q_zga, q_fza, q_fx, q_fga, q_gza, q_gfa, q_gx, q_zf1, q_zg1, q_ff, q_fg1, q_gf1, q_gg, ti_link, in1000])
        · refine ⟨fun c7 => ?_, fun c7 => ?_⟩
          · unfold wp_marks_b_48
            refine ⟨by (try clear hA hO hM hw iI11); (try clear hk11); grind [PTc, OR1, ix_int, q_zz, q_za, q_zga, q_fza, q_fx, q_fga, q_gza, q_gfa, q_gx, q_zf1, q_zg1, q_ff, q_fg1, q_gf1, q_gg, ti_link, in1000], ?_⟩
            refine ⟨by (try clear hA hO hM hw iI11); (try clear hk11); grind [PTc, OR1, ix_int, q_zz, q_za, q_zga, q_fza, q_fx, q_fga, q_gza, q_gfa, q_gx, q_zf1, q_zg1, q_ff, q_fg1, q_gf1, q_gg, ti_link, in1000], ?_⟩
            intro S8 eS8
            have nS8 : NC Sl11 S8 := NC_f eS8 (by decide)
            have oS8 : NO nx Sl11 S8 := NO_f eS8 (nH_t (by decide) (by (try clear hA hO hM hw iI11 nS8); (try clear hk11); grind [PTc, OR1, ix_int, q_zz, q_za, q_zga, q_fza, q_fx, q_fga, q_gza, q_gfa, q_gx, q_zf1, q_zg1, q_ff, q_fg1, q_gf1, q_gg, ti_link, in1000]))
            have kS8 : AF nx km S8 := AF_mark (Or.inl rfl) eS8 (by (try clear hk11); grind [OH_no, MKI, ti_link]) iI11.1
            refine ⟨by (try clear hA hO hM hw iI11 nS8 oS8 kS8); (try clear hk11); grind [PTc, OR1, ix_int, q_zz, q_za, q_zga, q_fza, q_fx, q_fga, q_gza, q_gfa, q_gx, q_zf1, q_zg1, q_ff, q_fg1, q_gf1, q_gg, ti_link, in1000], ?_⟩
            intro z9 ez9
            refine ⟨by (try clear hA hO hM hw iI11 nS8 oS8 kS8); (try clear hk11); grind [PTc, OR1, ix_int, q_zz, q_za, q_zga, q_fza, q_fx, q_fga, q_gza, q_gfa, q_gx, q_zf1, q_zg1, q_ff, q_fg1, q_gf1, q_gg, ti_link, in1000], ?_⟩
            intro z10 ez10
            have jS8 : MKI S8 a1 z10 := MKI_next (Or.inl rfl) eS8 iI11.1 hw (by (try clear hA hO hM hw iI11 nS8 oS8 kS8); (try clear hk11); grind [PTc, OR1, ix_int, q_zz, q_za, q_zga, q_fza, q_fx, q_fga, q_gza, q_gfa, q_gx, q_zf1, q_zg1, q_ff, q_fg1, q_gf1, q_gg, ti_link, in1000]) iI11.2.2 (by (try clear hk11); grind [OH_no, MKI, ti_link]) ez10
            exact hk11 _ (⟨by (try clear hA hO hM hw iI11 nS8 oS8 kS8 jS8); (try clear hk11); grind [PTc, OR1, ix_int, q_zz, q_za, q_zga, q_fza, q_fx, q_fga, q_gza, q_gfa, q_gx, q_zf1, q_zg1, q_ff, q_fg1, q_gf1, q_gg, ti_link, in1000], by refine ⟨?_, ?_, ?_⟩ <;> ((try clear hk11); grind [OH_no, MKI, ti_link])⟩) (by (try clear hA hO hM hw iI11 nS8 oS8 kS8 jS8); (try clear hk11); grind [PTc, OR1, ix_int, q_zz, q_za, q_zga, q_fza, q_fx, q_fga, q_gza, q_gfa, q_gx, q_zf1, q_zg1, q_ff, q_fg1, q_gf1, q_gg, ti_link, in1000])
          · unfold wp_marks_b_43
            unfold wp_marks_b_48
            refine ⟨by (try clear hA hO hM hw iI11); (try clear hk11); grind [PTc, OR1, ix_int, q_zz, q_za, q_zga, q_fza, q_fx, q_fga, q_gza, q_gfa, q_gx, q_zf1, q_zg1, q_ff, q_fg1, q_gf1, q_gg, ti_link, in1000], ?_⟩
            refine ⟨by (try clear hA hO hM hw iI11); (try clear hk11); grind [PTc, OR1, ix_int, q_zz, q_za, q_zga, q_fza, q_fx, q_fga, q_gza, q_gfa, q_gx, q_zf1, q_zg1, q_ff, q_fg1, q_gf1, q_gg, ti_link, in1000], ?_⟩
            intro S8 eS8
            have nS8 : NC Sl11 S8 := NC_f eS8 (by decide)
            have oS8 : NO nx Sl11 S8 := NO_f eS8 (nH_t (by decide) (by (try clear hA hO hM hw iI11 nS8); (try clear hk11); grind [PTc, OR1, ix_int, q_zz, q_za, q_zga, q_fza, q_fx, q_fga, q_gza, q_gfa, q_gx, q_zf1, q_zg1, q_ff, q_fg1, q_gf1, q_gg, ti_link, in1000]))
            have kS8 : AF nx km S8 := AF_mark (Or.inl rfl) eS8 (by (try clear hk11); grind [OH_no, MKI, ti_link]) iI11.1
            refine ⟨by (try clear hA hO hM hw iI11 nS8 oS8 kS8); (try clear hk11); grind [PTc, OR1, ix_int, q_zz, q_za, q_zga, q_fza, q_fx, q_fga, q_gza, q_gfa, q_gx, q_zf1, q_zg1, q_ff, q_fg1, q_gf1, q_gg, ti_link, in1000], ?_⟩
            intro z9 ez9
            refine ⟨by (try clear hA hO hM hw iI11 nS8 oS8 kS8); (try clear hk11); grind [PTc, OR1, ix_int, q_zz, q_za, q_zga, q_fza, q_fx, q_fga, q_gza, q_gfa, q_gx, q_zf1, q_zg1, q_ff, q_fg1, q_gf1, q_gg, ti_link, in1000], ?_⟩
            intro z10 ez10
            have jS8 : MKI S8 a1 z10 := MKI_next (Or.inl rfl) eS8 iI11.1 hw (by (try clear hA hO hM hw iI11 nS8 oS8 kS8); (try clear hk11); grind [PTc, OR1, ix_int, q_zz, q_za, q_zga, q_fza, q_fx, q_fga, q_gza, q_gfa, q_gx, q_zf1, q_zg1, q_ff, q_fg1, q_gf1, q_gg, ti_link, in1000]) iI11.2.2 (by (try clear hk11); grind [OH_no, MKI, ti_link]) ez10
            exact hk11 _ (⟨by (try clear hA hO hM hw iI11 nS8 oS8 kS8 jS8); (try clear hk11); grind [PTc, OR1, ix_int, q_zz, q_za, q_zga, q_fza, q_fx, q_fga, q_gza, q_gfa, q_gx, q_zf1, q_zg1, q_ff, q_fg1, q_gf1, q_gg, ti_link, in1000], by refine ⟨?_, ?_, ?_⟩ <;> ((try clear hk11); grind [OH_no, MKI, ti_link])⟩) (by (try clear hA hO hM hw iI11 nS8 oS8 kS8 jS8); (try clear hk11); grind [PTc, OR1, ix_int, q_zz, q_za, q_zga, q_fza, q_fx, q_fga, q_gza, q_gfa, q_gx, q_zf1, q_zg1, q_ff, q_fg1, q_gf1, q_gg, ti_link, in1000])
