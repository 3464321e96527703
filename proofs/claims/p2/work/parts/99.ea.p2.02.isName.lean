
set_option maxHeartbeats 4000000 in
theorem sg_isName {nx n : Nat} {so pl : Nat → Int32} {wo ws : Nat → Int64} {S : mS} (h : PI nx n so pl wo ws S) : wp_isName S (fun S1 r => S1 = S ∧ (r = 0 ∨ (r = 1 ∧ (S.1 4) = 0 ∧ (S.1 3).toInt < n ∧ so (ix (S.1 3)) = 1))) := by
  unfold wp_isName
  refine ⟨fun c1 => ?_, fun c1 => ?_⟩
  · unfold wp_isName_24
    unfold wp_isName_25
    refine it_rule (fun u : Int32 × Int32 × mS => u.2.2 = S ∧ (u.1 = 0 ∨ (u.1 = 1 ∧ (S.1 4) = 0 ∧ (S.1 3).toInt < n ∧ so (ix (S.1 3)) = 1)) ∧ 0 ≤ u.2.1.toInt ∧ u.2.1.toInt ≤ 21) (fun u => (21 - u.2.1.toInt).toNat) ?_ (by (try clear hk28); grind [PI, LG, TK, CE, ix_int, q_zz, q_za, q_zga, q_fza, q_fx, q_fga, q_gza, q_gfa, q_gx, q_zf1, q_zg1, q_ff, q_fg1, q_gf1, q_gg, ti_link, in22, in4002])
    rintro ⟨x1, x2, Sl28⟩ k28 hI28 hk28
    replace hI28 : Sl28 = S ∧ (x1 = 0 ∨ (x1 = 1 ∧ (S.1 4) = 0 ∧ (S.1 3).toInt < n ∧ so (ix (S.1 3)) = 1)) ∧ 0 ≤ x2.toInt ∧ x2.toInt ≤ 21 := hI28
    replace hk28 : ∀ v : Int32 × Int32 × mS, v.2.2 = S ∧ (v.1 = 0 ∨ (v.1 = 1 ∧ (S.1 4) = 0 ∧ (S.1 3).toInt < n ∧ so (ix (S.1 3)) = 1)) ∧ 0 ≤ v.2.1.toInt ∧ v.2.1.toInt ≤ 21 → (21 - v.2.1.toInt).toNat < (21 - x2.toInt).toNat → k28 v := hk28
    show wp_isName_28 _ k28 x1 x2 Sl28
    unfold wp_isName_28
    refine ⟨fun c2 => ?_, fun c2 => ?_⟩
    · refine ⟨by (try clear hk28); grind [PI, LG, TK, CE, ix_int, q_zz, q_za, q_zga, q_fza, q_fx, q_fga, q_gza, q_gfa, q_gx, q_zf1, q_zg1, q_ff, q_fg1, q_gf1, q_gg, ti_link, in22, in4002], ?_⟩
      (try clear hk28); grind [PI, LG, TK, CE, ix_int, q_zz, q_za, q_zga, q_fza, q_fx, q_fga, q_gza, q_gfa, q_gx, q_zf1, q_zg1, q_ff, q_fg1, q_gf1, q_gg, ti_link, in22, in4002]
    · refine ⟨fun c3 => ?_, fun c3 => ?_⟩
      · refine ⟨by (try clear hk28); grind [PI, LG, TK, CE, ix_int, q_zz, q_za, q_zga, q_fza, q_fx, q_fga, q_gza, q_gfa, q_gx, q_zf1, q_zg1, q_ff, q_fg1, q_gf1, q_gg, ti_link, in22, in4002], ?_⟩
        (try clear hk28); grind [PI, LG, TK, CE, ix_int, q_zz, q_za, q_zga, q_fza, q_fx, q_fga, q_gza, q_gfa, q_gx, q_zf1, q_zg1, q_ff, q_fg1, q_gf1, q_gg, ti_link, in22, in4002]
      · refine ⟨by (try clear hk28); grind [PI, LG, TK, CE, ix_int, q_zz, q_za, q_zga, q_fza, q_fx, q_fga, q_gza, q_gfa, q_gx, q_zf1, q_zg1, q_ff, q_fg1, q_gf1, q_gg, ti_link, in22, in4002], ?_⟩
        intro z6 ez6
        refine ⟨by (try clear hk28); grind [PI, LG, TK, CE, ix_int, q_zz, q_za, q_zga, q_fza, q_fx, q_fga, q_gza, q_gfa, q_gx, q_zf1, q_zg1, q_ff, q_fg1, q_gf1, q_gg, ti_link, in22, in4002], ?_⟩
        intro z7 ez7
        intro z8 ez8
        refine ⟨fun c4 => ?_, fun c4 => ?_⟩
        · unfold wp_isName_62
          intro z10 ez10
          exact hk28 _ (by (try clear hk28); grind [PI, LG, TK, CE, ix_int, q_zz, q_za, q_zga, q_fza, q_fx, q_fga, q_gza, q_gfa, q_gx, q_zf1, q_zg1, q_ff, q_fg1, q_gf1, q_gg, ti_link, in22, in4002]) (by (try clear hk28); grind [PI, LG, TK, CE, ix_int, q_zz, q_za, q_zga, q_fza, q_fx, q_fga, q_gza, q_gfa, q_gx, q_zf1, q_zg1, q_ff, q_fg1, q_gf1, q_gg, ti_link, in22, in4002])
        · unfold wp_isName_62
          intro z10 ez10
          exact hk28 _ (by (try clear hk28); grind [PI, LG, TK, CE, ix_int, q_zz, q_za, q_zga, q_fza, q_fx, q_fga, q_gza, q_gfa, q_gx, q_zf1, q_zg1, q_ff, q_fg1, q_gf1, q_gg, ti_link, in22, in4002]) (by (try clear hk28); grind [PI, LG, TK, CE, ix_int, q_zz, q_za, q_zga, q_fza, q_fx, q_fga, q_gza, q_gfa, q_gx, q_zf1, q_zg1, q_ff, q_fg1, q_gf1, q_gg, ti_link, in22, in4002])
  · refine ⟨by (try clear hk28); grind [PI, LG, TK, CE, ix_int, q_zz, q_za, q_zga, q_fza, q_fx, q_fga, q_gza, q_gfa, q_gx, q_zf1, q_zg1, q_ff, q_fg1, q_gf1, q_gg, ti_link, in22, in4002], ?_⟩
    intro z2 ez2
    refine ⟨fun c5 => ?_, fun c5 => ?_⟩
    · unfold wp_isName_24
      unfold wp_isName_25
      refine it_rule (fun u : Int32 × Int32 × mS => u.2.2 = S ∧ (u.1 = 0 ∨ (u.1 = 1 ∧ (S.1 4) = 0 ∧ (S.1 3).toInt < n ∧ so (ix (S.1 3)) = 1)) ∧ 0 ≤ u.2.1.toInt ∧ u.2.1.toInt ≤ 21) (fun u => (21 - u.2.1.toInt).toNat) ?_ (by (try clear hk28); grind [PI, LG, TK, CE, ix_int, q_zz, q_za, q_zga, q_fza, q_fx, q_fga, q_gza, q_gfa, q_gx, q_zf1, q_zg1, q_ff, q_fg1, q_gf1, q_gg, ti_link, in22, in4002])
      rintro ⟨x1, x2, Sl28⟩ k28 hI28 hk28
      replace hI28 : Sl28 = S ∧ (x1 = 0 ∨ (x1 = 1 ∧ (S.1 4) = 0 ∧ (S.1 3).toInt < n ∧ so (ix (S.1 3)) = 1)) ∧ 0 ≤ x2.toInt ∧ x2.toInt ≤ 21 := hI28
      replace hk28 : ∀ v : Int32 × Int32 × mS, v.2.2 = S ∧ (v.1 = 0 ∨ (v.1 = 1 ∧ (S.1 4) = 0 ∧ (S.1 3).toInt < n ∧ so (ix (S.1 3)) = 1)) ∧ 0 ≤ v.2.1.toInt ∧ v.2.1.toInt ≤ 21 → (21 - v.2.1.toInt).toNat < (21 - x2.toInt).toNat → k28 v := hk28
      show wp_isName_28 _ k28 x1 x2 Sl28
      unfold wp_isName_28
      refine ⟨fun c6 => ?_, fun c6 => ?_⟩
      · refine ⟨by (try clear hk28); grind [PI, LG, TK, CE, ix_int, q_zz, q_za, q_zga, q_fza, q_fx, q_fga, q_gza, q_gfa, q_gx, q_zf1, q_zg1, q_ff, q_fg1, q_gf1, q_gg, ti_link, in22, in4002], ?_⟩
        (try clear hk28); grind [PI, LG, TK, CE, ix_int, q_zz, q_za, q_zga, q_fza, q_fx, q_fga, q_gza, q_gfa, q_gx, q_zf1, q_zg1, q_ff, q_fg1, q_gf1, q_gg, ti_link, in22, in4002]
      · refine ⟨fun c7 => ?_, fun c7 => ?_⟩
        · refine ⟨by (try clear hk28); grind [PI, LG, TK, CE, ix_int, q_zz, q_za, q_zga, q_fza, q_fx, q_fga, q_gza, q_gfa, q_gx, q_zf1, q_zg1, q_ff, q_fg1, q_gf1, q_gg, ti_link, in22, in4002], ?_⟩
          (try clear hk28); grind [PI, LG, TK, CE, ix_int, q_zz, q_za, q_zga, q_fza, q_fx, q_fga, q_gza, q_gfa, q_gx, q_zf1, q_zg1, q_ff, q_fg1, q_gf1, q_gg, ti_link, in22, in4002]
        · refine ⟨by (try clear hk28); grind [PI, LG, TK, CE, ix_int, q_zz, q_za, q_zga, q_fza, q_fx, q_fga, q_gza, q_gfa, q_gx, q_zf1, q_zg1, q_ff, q_fg1, q_gf1, q_gg, ti_link, in22, in4002], ?_⟩
          intro z6 ez6
          refine ⟨by (try clear hk28); grind [PI, LG, TK, CE, ix_int, q_zz, q_za, q_zga, q_fza, q_fx, q_fga, q_gza, q_gfa, q_gx, q_zf1, q_zg1, q_ff, q_fg1, q_gf1, q_gg, ti_link, in22, in4002], ?_⟩
          intro z7 ez7
          intro z8 ez8
          refine ⟨fun c8 => ?_, fun c8 => ?_⟩
          · unfold wp_isName_62
            intro z10 ez10
            exact hk28 _ (by (try clear hk28); grind [PI, LG, TK, CE, ix_int, q_zz, q_za, q_zga, q_fza, q_fx, q_fga, q_gza, q_gfa, q_gx, q_zf1, q_zg1, q_ff, q_fg1, q_gf1, q_gg, ti_link, in22, in4002]) (by (try clear hk28); grind [PI, LG, TK, CE, ix_int, q_zz, q_za, q_zga, q_fza, q_fx, q_fga, q_gza, q_gfa, q_gx, q_zf1, q_zg1, q_ff, q_fg1, q_gf1, q_gg, ti_link, in22, in4002])
          · unfold wp_isName_62
            intro z10 ez10
            exact hk28 _ (by (try clear hk28); grind [PI, LG, TK, CE, ix_int, q_zz, q_za, q_zga, q_fza, q_fx, q_fga, q_gza, q_gfa, q_gx, q_zf1, q_zg1, q_ff, q_fg1, q_gf1, q_gg, ti_link, in22, in4002]) (by (try clear hk28); grind [PI, LG, TK, CE, ix_int, q_zz, q_za, q_zga, q_fza, q_fx, q_fga, q_gza, q_gfa, q_gx, q_zf1, q_zg1, q_ff, q_fg1, q_gf1, q_gg, ti_link, in22, in4002])
    · unfold wp_isName_25
      refine it_rule (fun u : Int32 × Int32 × mS => u.2.2 = S ∧ (u.1 = 0 ∨ (u.1 = 1 ∧ (S.1 4) = 0 ∧ (S.1 3).toInt < n ∧ so (ix (S.1 3)) = 1)) ∧ 0 ≤ u.2.1.toInt ∧ u.2.1.toInt ≤ 21) (fun u => (21 - u.2.1.toInt).toNat) ?_ (by (try clear hk28); grind [PI, LG, TK, CE, ix_int, q_zz, q_za, q_zga, q_fza, q_fx, q_fga, q_gza, q_gfa, q_gx, q_zf1, q_zg1, q_ff, q_fg1, q_gf1, q_gg, ti_link, in22, in4002])
      rintro ⟨x1, x2, Sl28⟩ k28 hI28 hk28
      replace hI28 : Sl28 = S ∧ (x1 = 0 ∨ (x1 = 1 ∧ (S.1 4) = 0 ∧ (S.1 3).toInt < n ∧ so (ix (S.1 3)) = 1)) ∧ 0 ≤ x2.toInt ∧ x2.toInt ≤ 21 := hI28
      replace hk28 : ∀ v : Int32 × Int32 × mS, v.2.2 = S ∧ (v.1 = 0 ∨ (v.1 = 1 ∧ (S.1 4) = 0 ∧ (S.1 3).toInt < n ∧ so (ix (S.1 3)) = 1)) ∧ 0 ≤ v.2.1.toInt ∧ v.2.1.toInt ≤ 21 → (21 - v.2.1.toInt).toNat < (21 - x2.toInt).toNat → k28 v := hk28
      show wp_isName_28 _ k28 x1 x2 Sl28
      unfold wp_isName_28
      refine ⟨fun c9 => ?_, fun c9 => ?_⟩
      · refine ⟨by (try clear hk28); grind [PI, LG, TK, CE, ix_int, q_zz, q_za, q_zga, q_fza, q_fx, q_fga, q_gza, q_gfa, q_gx, q_zf1, q_zg1, q_ff, q_fg1, q_gf1, q_gg, ti_link, in22, in4002], ?_⟩
        (try clear hk28); grind [PI, LG, TK, CE, ix_int, q_zz, q_za, q_zga, q_fza, q_fx, q_fga, q_gza, q_gfa, q_gx, q_zf1, q_zg1, q_ff, q_fg1, q_gf1, q_gg, ti_link, in22, in4002]
      · refine ⟨fun c10 => ?_, fun c10 => ?_⟩
        · refine ⟨by (try clear hk28); grind [PI, LG, TK, CE, ix_int, q_zz, q_za, q_zga, q_fza, q_fx, q_fga, q_gza, q_gfa, q_gx, q_zf1, q_zg1, q_ff, q_fg1, q_gf1, q_gg, ti_link, in22, in4002], ?_⟩
          (try clear hk28); grind [PI, LG, TK, CE, ix_int, q_zz, q_za, q_zga, q_fza, q_fx, q_fga, q_gza, q_gfa, q_gx, q_zf1, q_zg1, q_ff, q_fg1, q_gf1, q_gg, ti_link, in22, in4002]
        · refine ⟨by (try clear hk28); grind [PI, LG, TK, CE, ix_int, q_zz, q_za, q_zga, q_fza, q_fx, q_fga, q_gza, q_gfa, q_gx, q_zf1, q_zg1, q_ff, q_fg1, q_gf1, q_gg, ti_link, in22, in4002], ?_⟩
          intro z6 ez6
          refine ⟨by (try clear hk28); grind [PI, LG, TK, CE, ix_int, q_zz, q_za, q_zga, q_fza, q_fx, q_fga, q_gza, q_gfa, q_gx, q_zf1, q_zg1, q_ff, q_fg1, q_gf1, q_gg, ti_link, in22, in4002], ?_⟩
          intro z7 ez7
          intro z8 ez8
          refine ⟨fun c11 => ?_, fun c11 => ?_⟩
          · unfold wp_isName_62
            intro z10 ez10
            exact hk28 _ (by (try clear hk28); grind [PI, LG, TK, CE, ix_int, q_zz, q_za, q_zga, q_fza, q_fx, q_fga, q_gza, q_gfa, q_gx, q_zf1, q_zg1, q_ff, q_fg1, q_gf1, q_gg, ti_link, in22, in4002]) (by (try clear hk28); grind [PI, LG, TK, CE, ix_int, q_zz, q_za, q_zga, q_fza, q_fx, q_fga, q_gza, q_gfa, q_gx, q_zf1, q_zg1, q_ff, q_fg1, q_gf1, q_gg, ti_link, in22, in4002])
          · unfold wp_isName_62
            intro z10 ez10
            exact hk28 _ (by (try clear hk28); grind [PI, LG, TK, CE, ix_int, q_zz, q_za, q_zga, q_fza, q_fx, q_fga, q_gza, q_gfa, q_gx, q_zf1, q_zg1, q_ff, q_fg1, q_gf1, q_gg, ti_link, in22, in4002]) (by (try clear hk28); grind [PI, LG, TK, CE, ix_int, q_zz, q_za, q_zga, q_fza, q_fx, q_fga, q_gza, q_gfa, q_gx, q_zf1, q_zg1, q_ff, q_fg1, q_gf1, q_gg, ti_link, in22, in4002])
