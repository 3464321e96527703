
set_option maxHeartbeats 4000000 in
theorem sg_standsNoMore {nd : Int} {so : Nat → Int32} {da : Nat → Int64} {T : mS} (a0 : Int32) {S : mS} (hE : ET T S) (h : STG (S.1 30).toInt nd ((S.2.1 87)) so da) (hn : 0 ≤ nd ∧ nd ≤ 100000) : wp_standsNoMore a0 S (fun S1 => ET T S1 ∧ STG (S1.1 30).toInt nd ((S1.2.1 87)) so da ∧ (S1.1 30).toInt ≤ (S.1 30).toInt ∧ ((S1.1 30).toInt < (S.1 30).toInt ∨ NIN (S.1 30).toInt ((S.2.1 87)) a0)) := by
  have hle := STG_le h hn.1
  have h00 := h.1
  unfold wp_standsNoMore
  have j26 : ∀ (x2 : Int32) (Sx : mS), (Sx = S ∧ 0 ≤ x2.toInt ∧ x2.toInt ≤ (S.1 30).toInt ∧ (x2.toInt = (S.1 30).toInt → NIN (S.1 30).toInt ((S.2.1 87)) a0)) → wp_standsNoMore_26 (fun S1 => ET T S1 ∧ STG (S1.1 30).toInt nd ((S1.2.1 87)) so da ∧ (S1.1 30).toInt ≤ (S.1 30).toInt ∧ ((S1.1 30).toInt < (S.1 30).toInt ∨ NIN (S.1 30).toInt ((S.2.1 87)) a0)) x2 Sx := by
    intro x2 Sx hJ26
    unfold wp_standsNoMore_26
    refine ⟨fun c1 => ?_, fun c1 => ?_⟩
    · (try clear j26); (try clear hk2); (try clear hk46); grind [SH_0, SH_s, STG_sh, NIN_0, NIN_s, ET_f87, ET_z30, q_zz, q_za, q_zga, q_fza, q_fx, q_fga, q_gza, q_gfa, q_gx, q_zf1, q_zg1, q_ff, q_fg1, q_gf1, q_gg, ti_link, in100300]
    · intro z6 ez6
      intro S7 eS7
      refine it_rule (fun u : Int32 × mS => ET T u.2 ∧ (u.2.1 30).toInt = (S.1 30).toInt - 1 ∧ x2.toInt ≤ u.1.toInt ∧ u.1.toInt ≤ (S.1 30).toInt - 1 ∧ SH x2.toInt u.1.toInt ((S.2.1 87)) ((u.2.2.1 87))) (fun u => ((S.1 30).toInt - u.1.toInt).toNat) ?_ (by (try clear j26); (try clear hk2); (try clear hk46); grind [SH_0, SH_s, STG_sh, NIN_0, NIN_s, ET_f87, ET_z30, q_zz, q_za, q_zga, q_fza, q_fx, q_fga, q_gza, q_gfa, q_gx, q_zf1, q_zg1, q_ff, q_fg1, q_gf1, q_gg, ti_link, in100300])
      rintro ⟨x3, Sl46⟩ k46 hI46 hk46
      replace hI46 : ET T Sl46 ∧ (Sl46.1 30).toInt = (S.1 30).toInt - 1 ∧ x2.toInt ≤ x3.toInt ∧ x3.toInt ≤ (S.1 30).toInt - 1 ∧ SH x2.toInt x3.toInt ((S.2.1 87)) ((Sl46.2.1 87)) := hI46
      replace hk46 : ∀ v : Int32 × mS, ET T v.2 ∧ (v.2.1 30).toInt = (S.1 30).toInt - 1 ∧ x2.toInt ≤ v.1.toInt ∧ v.1.toInt ≤ (S.1 30).toInt - 1 ∧ SH x2.toInt v.1.toInt ((S.2.1 87)) ((v.2.2.1 87)) → ((S.1 30).toInt - v.1.toInt).toNat < ((S.1 30).toInt - x3.toInt).toNat → k46 v := hk46
      show wp_standsNoMore_46 _ k46 x3 Sl46
      unfold wp_standsNoMore_46
      refine ⟨fun c2 => ?_, fun c2 => ?_⟩
      · (try clear j26); (try clear hk2); (try clear hk46); grind [SH_0, SH_s, STG_sh, NIN_0, NIN_s, ET_f87, ET_z30, q_zz, q_za, q_zga, q_fza, q_fx, q_fga, q_gza, q_gfa, q_gx, q_zf1, q_zg1, q_ff, q_fg1, q_gf1, q_gg, ti_link, in100300]
      · intro z9 ez9
        refine ⟨by (try clear j26); (try clear hk2); (try clear hk46); grind [SH_0, SH_s, STG_sh, NIN_0, NIN_s, ET_f87, ET_z30, q_zz, q_za, q_zga, q_fza, q_fx, q_fga, q_gza, q_gfa, q_gx, q_zf1, q_zg1, q_ff, q_fg1, q_gf1, q_gg, ti_link, in100300], ?_⟩
        intro z10 ez10
        refine ⟨by (try clear j26); (try clear hk2); (try clear hk46); grind [SH_0, SH_s, STG_sh, NIN_0, NIN_s, ET_f87, ET_z30, q_zz, q_za, q_zga, q_fza, q_fx, q_fga, q_gza, q_gfa, q_gx, q_zf1, q_zg1, q_ff, q_fg1, q_gf1, q_gg, ti_link, in100300], ?_⟩
        intro S11 eS11
        intro z12 ez12
        exact hk46 _ (by (try clear j26); (try clear hk2); (try clear hk46); grind [SH_0, SH_s, STG_sh, NIN_0, NIN_s, ET_f87, ET_z30, q_zz, q_za, q_zga, q_fza, q_fx, q_fga, q_gza, q_gfa, q_gx, q_zf1, q_zg1, q_ff, q_fg1, q_gf1, q_gg, ti_link, in100300]) (by (try clear j26); (try clear hk2); (try clear hk46); grind [SH_0, SH_s, STG_sh, NIN_0, NIN_s, ET_f87, ET_z30, q_zz, q_za, q_zga, q_fza, q_fx, q_fga, q_gza, q_gfa, q_gx, q_zf1, q_zg1, q_ff, q_fg1, q_gf1, q_gg, ti_link, in100300])
  refine it_rule (fun u : Int32 × Int32 × mS => u.2.2 = S ∧ u.1 = a0 ∧ 0 ≤ u.2.1.toInt ∧ u.2.1.toInt ≤ (S.1 30).toInt ∧ NIN u.2.1.toInt ((S.2.1 87)) a0) (fun u => ((S.1 30).toInt - u.2.1.toInt).toNat) ?_ (by (try clear j26); (try clear hk2); (try clear hk46); grind [SH_0, SH_s, STG_sh, NIN_0, NIN_s, ET_f87, ET_z30, q_zz, q_za, q_zga, q_fza, q_fx, q_fga, q_gza, q_gfa, q_gx, q_zf1, q_zg1, q_ff, q_fg1, q_gf1, q_gg, ti_link, in100300])
  rintro ⟨x1, x2, Sl2⟩ k2 hI2 hk2
  replace hI2 : Sl2 = S ∧ x1 = a0 ∧ 0 ≤ x2.toInt ∧ x2.toInt ≤ (S.1 30).toInt ∧ NIN x2.toInt ((S.2.1 87)) a0 := hI2
  replace hk2 : ∀ v : Int32 × Int32 × mS, v.2.2 = S ∧ v.1 = a0 ∧ 0 ≤ v.2.1.toInt ∧ v.2.1.toInt ≤ (S.1 30).toInt ∧ NIN v.2.1.toInt ((S.2.1 87)) a0 → ((S.1 30).toInt - v.2.1.toInt).toNat < ((S.1 30).toInt - x2.toInt).toNat → k2 v := hk2
  show wp_standsNoMore_2 _ k2 x1 x2 Sl2
  unfold wp_standsNoMore_2
  refine ⟨fun c3 => ?_, fun c3 => ?_⟩
  · exact j26 _ _ (by (try clear j26); (try clear hk2); (try clear hk46); grind [SH_0, SH_s, STG_sh, NIN_0, NIN_s, ET_f87, ET_z30, q_zz, q_za, q_zga, q_fza, q_fx, q_fga, q_gza, q_gfa, q_gx, q_zf1, q_zg1, q_ff, q_fg1, q_gf1, q_gg, ti_link, in100300])
  · refine ⟨by (try clear j26); (try clear hk2); (try clear hk46); grind [SH_0, SH_s, STG_sh, NIN_0, NIN_s, ET_f87, ET_z30, q_zz, q_za, q_zga, q_fza, q_fx, q_fga, q_gza, q_gfa, q_gx, q_zf1, q_zg1, q_ff, q_fg1, q_gf1, q_gg, ti_link, in100300], ?_⟩
    intro z2 ez2
    refine ⟨fun c4 => ?_, fun c4 => ?_⟩
    · exact j26 _ _ (by (try clear j26); (try clear hk2); (try clear hk46); grind [SH_0, SH_s, STG_sh, NIN_0, NIN_s, ET_f87, ET_z30, q_zz, q_za, q_zga, q_fza, q_fx, q_fga, q_gza, q_gfa, q_gx, q_zf1, q_zg1, q_ff, q_fg1, q_gf1, q_gg, ti_link, in100300])
    · intro z4 ez4
      exact hk2 _ (by (try clear j26); (try clear hk2); (try clear hk46); grind [SH_0, SH_s, STG_sh, NIN_0, NIN_s, ET_f87, ET_z30, q_zz, q_za, q_zga, q_fza, q_fx, q_fga, q_gza, q_gfa, q_gx, q_zf1, q_zg1, q_ff, q_fg1, q_gf1, q_gg, ti_link, in100300]) (by (try clear j26); (try clear hk2); (try clear hk46); grind [SH_0, SH_s, STG_sh, NIN_0, NIN_s, ET_f87, ET_z30, q_zz, q_za, q_zga, q_fza, q_fx, q_fga, q_gza, q_gfa, q_gx, q_zf1, q_zg1, q_ff, q_fg1, q_gf1, q_gg, ti_link, in100300])
