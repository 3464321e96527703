
set_option maxHeartbeats 4000000 in
theorem sg_stands {nd : Int} {so : Nat → Int32} {da : Nat → Int64} (a0 : Int32) (a1 : Int32) {S : mS} (h : STG (S.1 30).toInt nd ((S.2.1 87)) so da) (hn : 0 ≤ nd ∧ nd ≤ 100000) : wp_stands a0 a1 S (fun S1 r => True) := by
  have hle := STG_le h hn.1
  have h00 := h.1
  unfold wp_stands
  intro S1 eS1
  refine it_rule (fun u : Int32 × Int32 × Int32 × Int32 × mS => STG (u.2.2.2.2.1 30).toInt nd ((u.2.2.2.2.2.1 87)) so da ∧ 0 ≤ u.2.2.2.1.toInt ∧ u.2.2.2.1.toInt ≤ (S.1 30).toInt ∧ (u.2.2.2.2.1 30) = (S.1 30)) (fun u => ((S.1 30).toInt - u.2.2.2.1.toInt).toNat) ?_ (by (try clear j69); (try clear hk10); grind [q_zz, q_za, q_zga, q_fza, q_fx, q_fga, q_gza, q_gfa, q_gx, q_zf1, q_zg1, q_ff, q_fg1, q_gf1, q_gg, ti_link, in100300])
  rintro ⟨x1, x2, x3, x4, Sl10⟩ k10 hI10 hk10
  replace hI10 : STG (Sl10.1 30).toInt nd ((Sl10.2.1 87)) so da ∧ 0 ≤ x4.toInt ∧ x4.toInt ≤ (S.1 30).toInt ∧ (Sl10.1 30) = (S.1 30) := hI10
  replace hk10 : ∀ v : Int32 × Int32 × Int32 × Int32 × mS, STG (v.2.2.2.2.1 30).toInt nd ((v.2.2.2.2.2.1 87)) so da ∧ 0 ≤ v.2.2.2.1.toInt ∧ v.2.2.2.1.toInt ≤ (S.1 30).toInt ∧ (v.2.2.2.2.1 30) = (S.1 30) → ((S.1 30).toInt - v.2.2.2.1.toInt).toNat < ((S.1 30).toInt - x4.toInt).toNat → k10 v := hk10
  show wp_stands_10 _ k10 x1 x2 x3 x4 Sl10
  unfold wp_stands_10
  obtain ⟨g10x1, eg10x1⟩ : ∃ g9, g9 = x1 := ⟨_, rfl⟩
  obtain ⟨g10x2, eg10x2⟩ : ∃ g9, g9 = x2 := ⟨_, rfl⟩
  obtain ⟨g10x3, eg10x3⟩ : ∃ g9, g9 = x3 := ⟨_, rfl⟩
  obtain ⟨g10x4, eg10x4⟩ : ∃ g9, g9 = x4 := ⟨_, rfl⟩
  have j69 : ∀ (x1 : Int32) (x2 : Int32) (x3 : Int32) (x4 : Int32) (Sx : mS), (STG (Sx.1 30).toInt nd ((Sx.2.1 87)) so da ∧ 0 ≤ x4.toInt ∧ x4.toInt + 1 ≤ (S.1 30).toInt ∧ (Sx.1 30) = (S.1 30) ∧ x4 = g10x4) → wp_stands_69 (fun S1 r => True) k10 x1 x2 x3 x4 Sx := by
    intro x1 x2 x3 x4 Sx hJ69
    unfold wp_stands_69
    intro z12 ez12
    exact hk10 _ (by (try clear j69); (try clear hk10); grind [q_zz, q_za, q_zga, q_fza, q_fx, q_fga, q_gza, q_gfa, q_gx, q_zf1, q_zg1, q_ff, q_fg1, q_gf1, q_gg, ti_link, in100300]) (by (try clear j69); (try clear hk10); grind [q_zz, q_za, q_zga, q_fza, q_fx, q_fga, q_gza, q_gfa, q_gx, q_zf1, q_zg1, q_ff, q_fg1, q_gf1, q_gg, ti_link, in100300])
  refine ⟨fun c1 => ?_, fun c1 => ?_⟩
  · (try clear j69); (try clear hk10); grind [q_zz, q_za, q_zga, q_fza, q_fx, q_fga, q_gza, q_gfa, q_gx, q_zf1, q_zg1, q_ff, q_fg1, q_gf1, q_gg, ti_link, in100300]
  · refine ⟨fun c2 => ?_, fun c2 => ?_⟩
    · (try clear j69); (try clear hk10); grind [q_zz, q_za, q_zga, q_fza, q_fx, q_fga, q_gza, q_gfa, q_gx, q_zf1, q_zg1, q_ff, q_fg1, q_gf1, q_gg, ti_link, in100300]
    · refine ⟨by (try clear j69); (try clear hk10); grind [q_zz, q_za, q_zga, q_fza, q_fx, q_fga, q_gza, q_gfa, q_gx, q_zf1, q_zg1, q_ff, q_fg1, q_gf1, q_gg, ti_link, in100300], ?_⟩
      intro z4 ez4
      have  qz4 : 0 ≤ z4.toInt ∧ z4.toInt < nd := by
            rw [ez4]
            exact STG_in (so := so) (da := da) (m := (Sl10.1 30).toInt) (by (try clear j69); (try clear hk10); grind [q_zz, q_za, q_zga, q_fza, q_fx, q_fga, q_gza, q_gfa, q_gx, q_zf1, q_zg1, q_ff, q_fg1, q_gf1, q_gg, ti_link, in100300]) (by (try clear j69); (try clear hk10); grind [q_zz, q_za, q_zga, q_fza, q_fx, q_fga, q_gza, q_gfa, q_gx, q_zf1, q_zg1, q_ff, q_fg1, q_gf1, q_gg, ti_link, in100300]) (by (try clear j69); (try clear hk10); grind [q_zz, q_za, q_zga, q_fza, q_fx, q_fga, q_gza, q_gfa, q_gx, q_zf1, q_zg1, q_ff, q_fg1, q_gf1, q_gg, ti_link, in100300])
      refine ⟨by (try clear j69); (try clear hk10); grind [q_zz, q_za, q_zga, q_fza, q_fx, q_fga, q_gza, q_gfa, q_gx, q_zf1, q_zg1, q_ff, q_fg1, q_gf1, q_gg, ti_link, in100300], ?_⟩
      intro z5 ez5
      refine ⟨fun c3 => ?_, fun c3 => ?_⟩
      · exact j69 _ _ _ _ _ (by (try clear j69); (try clear hk10); grind [q_zz, q_za, q_zga, q_fza, q_fx, q_fga, q_gza, q_gfa, q_gx, q_zf1, q_zg1, q_ff, q_fg1, q_gf1, q_gg, ti_link, in100300])
      · refine ⟨by (try clear j69); (try clear hk10); grind [q_zz, q_za, q_zga, q_fza, q_fx, q_fga, q_gza, q_gfa, q_gx, q_zf1, q_zg1, q_ff, q_fg1, q_gf1, q_gg, ti_link, in100300], ?_⟩
        intro z7 ez7
        refine ⟨fun c4 => ?_, fun c4 => ?_⟩
        · exact j69 _ _ _ _ _ (by (try clear j69); (try clear hk10); grind [q_zz, q_za, q_zga, q_fza, q_fx, q_fga, q_gza, q_gfa, q_gx, q_zf1, q_zg1, q_ff, q_fg1, q_gf1, q_gg, ti_link, in100300])
        · refine ⟨fun c5 => ?_, fun c5 => ?_⟩
          · intro z10 ez10
            exact j69 _ _ _ _ _ (by (try clear j69); (try clear hk10); grind [q_zz, q_za, q_zga, q_fza, q_fx, q_fga, q_gza, q_gfa, q_gx, q_zf1, q_zg1, q_ff, q_fg1, q_gf1, q_gg, ti_link, in100300])
          · refine ⟨by (try clear j69); (try clear hk10); grind [q_zz, q_za, q_zga, q_fza, q_fx, q_fga, q_gza, q_gfa, q_gx, q_zf1, q_zg1, q_ff, q_fg1, q_gf1, q_gg, ti_link, in100300], ?_⟩
            intro z11 ez11
            (try clear j69); (try clear hk10); grind [q_zz, q_za, q_zga, q_fza, q_fx, q_fga, q_gza, q_gfa, q_gx, q_zf1, q_zg1, q_ff, q_fg1, q_gf1, q_gg, ti_link, in100300]
