
set_option maxHeartbeats 4000000 in
theorem sg_childNode {hx : Nat} {cd nt nw na : Int} {ty : Nat → T6} {P : mS} {tu tv : T6} {tr : Int32} (a0 : Int32) (a1 : Int32) {S : mS} (hx1 : hx ≤ 1) (hm : 0 ≤ a1.toInt ∧ a1.toInt ≤ 12 ∧ a1.toInt ≤ (S.1 31).toInt ∧ (S.1 31).toInt ≤ 3000) (hr : 0 ≤ a0.toInt ∧ a0.toInt < 12) (hb : 0 ≤ (S.1 29).toInt ∧ (S.1 29).toInt < 100000 ∧ 0 ≤ (S.1 30).toInt ∧ (S.1 30).toInt ≤ (S.1 29).toInt) (ht : 0 ≤ (S.1 22).toInt ∧ (S.1 22).toInt ≤ 200 ∧ 0 ≤ (S.1 23).toInt ∧ (S.1 23).toInt ≤ (S.1 22).toInt ∧ 0 ≤ (S.1 5).toInt ∧ (S.1 5).toInt ≤ 1 ∧ 0 ≤ (S.1 33).toInt ∧ (S.1 33).toInt < (S.1 22).toInt) (hF : FWt hx cd nt nw na ty P) (hW : W0 hx cd nt nw ty P S) (hR : RF hx nt nw P tr S) (hB : RB hx cd ty tu S) (h1 : tu.2.2.1 = 1) (hc : 1 ≤ tu.2.2.2.1) (hv : tv.2.2.1 = tu.2.2.1 ∧ tv.2.2.2.1 ≤ tu.2.2.2.1 - 1 ∧ tv.2.2.2.2.1 = tu.2.2.2.2.1 ∧ tv.2.2.2.2.2 = tu.2.2.2.2.2) (htr : tu.2.2.2.2.2 = tr) (hq : a0.toInt < ((P.2.1 5) hx).toInt) (hnow : (S.1 5).toInt = hx) : wp_childNode a0 a1 S (fun S1 => (True) ∧ (ENR hx cd nt nw ty P S1 ∨ ((W0 hx cd nt nw ty P S1 ∧ RF hx nt nw P tr S1 ∧ RB hx cd ty tv S1) ∧ (S1.1 32) = (S.1 32) ∧ (S1.1 31).toInt = (S.1 31).toInt - a1.toInt ∧ FS S1 = FS S))) := by
  unfold wp_childNode
  intro z1 ez1
  intro S2 eS2
  have wS2 : NW S S2 := NW_z eS2 (by decide)
  have bS2 : NB S S2 := NB_z eS2 (by decide)
  have vS2 : NF S S2 := NF_z eS2 (by decide)
  have w2 := W0_nw wS2 hW
  have r2 := RF_nf vS2 hR
  have b2 := RB_nb bS2 hB
  have n2 : (S2.1 5).toInt = hx := by
        rw [eS2]
        exact hnow
  have f2 := FS_nf vS2
  refine ⟨fun c1 => ?_, fun c1 => ?_⟩
  · refine fm_newNode _ _ _ _ _ _ (fun S4 r4 hF2 pS4 => ?_) (sg_newNode _ _ _ (by (try clear hF hW hR hB h1 hc hv htr hq hnow wS2 bS2 vS2 w2 r2 b2 n2 f2); (try clear hk54); grind [q_zz, q_za, q_zga, q_fza, q_fx, q_fga, q_gza, q_gfa, q_gx, q_zf1, q_zg1, q_ff, q_fg1, q_gf1, q_gg, ti_link, in200, in2400, in4000]) (by (try clear hF hW hR hB h1 hc hv htr hq hnow wS2 bS2 vS2 w2 r2 b2 n2 f2); (try clear hk54); grind [q_zz, q_za, q_zga, q_fza, q_fx, q_fga, q_gza, q_gfa, q_gx, q_zf1, q_zg1, q_ff, q_fg1, q_gf1, q_gg, ti_link, in200, in2400, in4000]))
    obtain ⟨pS4, qS4⟩ := pS4
    have vS4 : NF S2 S4 := NF_fr hF2 (by decide) (by decide)
    have z22_S4 := hF2.1 22 (by decide)
    have z23_S4 := hF2.1 23 (by decide)
    have z31_S4 := hF2.1 31 (by decide)
    have z33_S4 := hF2.1 33 (by decide)
    have z5_S4 := hF2.1 5 (by decide)
    have f4 : Fr NDz NDf [] S2 S4 := hF2
    have m4 : S4.1 32 = S.1 32 := by rw [hF2.1 32 (by decide), eS2]; rfl
    clear hF2
    have r4_ := RF_nf vS4 r2
    have g4 := FS_nf vS4
    refine fm_newTask _ _ _ _ _ _ (fun S5 r5 hF3 pS5 => ?_) (sg_newTask _ _ _ (by (try clear hF hW hR hB h1 hc hv htr hq hnow wS2 bS2 vS2 w2 r2 b2 n2 f2 qS4 vS4 f4 m4 r4_ g4); (try clear hk54); grind [q_zz, q_za, q_zga, q_fza, q_fx, q_fga, q_gza, q_gfa, q_gx, q_zf1, q_zg1, q_ff, q_fg1, q_gf1, q_gg, ti_link, in200, in2400, in4000]) (by (try clear hF hW hR hB h1 hc hv htr hq hnow wS2 bS2 vS2 w2 r2 b2 n2 f2 qS4 vS4 f4 m4 r4_ g4); (try clear hk54); grind [q_zz, q_za, q_zga, q_fza, q_fx, q_fga, q_gza, q_gfa, q_gx, q_zf1, q_zg1, q_ff, q_fg1, q_gf1, q_gg, ti_link, in200, in2400, in4000]) (by (try clear hF hW hR hB h1 hc hv htr hq hnow wS2 bS2 vS2 w2 r2 b2 n2 f2 qS4 vS4 f4 m4 r4_ g4); (try clear hk54); grind [q_zz, q_za, q_zga, q_fza, q_fx, q_fga, q_gza, q_gfa, q_gx, q_zf1, q_zg1, q_ff, q_fg1, q_gf1, q_gg, ti_link, in200, in2400, in4000]) (by (try clear hF hW hR hB h1 hc hv htr hq hnow wS2 bS2 vS2 w2 r2 b2 n2 f2 qS4 vS4 f4 m4 r4_ g4); (try clear hk54); grind [q_zz, q_za, q_zga, q_fza, q_fx, q_fga, q_gza, q_gfa, q_gx, q_zf1, q_zg1, q_ff, q_fg1, q_gf1, q_gg, ti_link, in200, in2400, in4000]))
    obtain ⟨pS5, qS5⟩ := pS5
    have z29_S5 := hF3.1 29 (by decide)
    have z30_S5 := hF3.1 30 (by decide)
    have z31_S5 := hF3.1 31 (by decide)
    have z33_S5 := hF3.1 33 (by decide)
    have z5_S5 := hF3.1 5 (by decide)
    have f5 : Fr NTz NTf [] S4 S5 := hF3
    have m5 : S5.1 32 = S4.1 32 := hF3.1 32 (by decide)
    clear hF3
    obtain ⟨c5, d5, k5⟩ := qS5
    have ch5 := W0_child (v := tv) (c := c5) hF n2 w2 b2 h1 hc hv qS4.1 qS4.2 f4 pS4.1 k5 f5 rfl d5 ⟨hr.1, hq⟩ (by (try clear hF hW hR hB h1 hc hv htr hq hnow wS2 bS2 vS2 w2 r2 b2 n2 f2 qS4 vS4 f4 m4 r4_ g4 qS5 f5 m5 c5 d5 k5); (try clear hk54); grind [q_zz, q_za, q_zga, q_fza, q_fx, q_fga, q_gza, q_gfa, q_gx, q_zf1, q_zg1, q_ff, q_fg1, q_gf1, q_gg, ti_link, in200, in2400, in4000])
    have t45 : ¬ ix (S4.1 33) = ix (S4.1 22) := by
          rw [f4.1 33 (by decide), f4.1 22 (by decide), eS2]
          show ¬ ix (S.1 33) = ix (S.1 22)
          unfold ix
          omega
    have r5_ := RF_68 r4_ (f5.1 33 (by decide)) (by rw [k5.2.2.2.2.2.2.2.2.2.1, upd_n t45]) (fun k hk => f5.2.1 k (by revert hk; revert k; decide))
    have y5 : (W0 hx cd nt nw ty P S5 ∧ RF hx nt nw P tr S5 ∧ RB hx cd ty tv S5) ∧ (S5.1 32) = (S.1 32) ∧ FS S5 = FS S := ⟨⟨ch5.1, r5_.1, ch5.2⟩, m5.trans m4, r5_.2.trans (g4.trans f2)⟩
    refine it_rule (fun u : Int32 × Int32 × Int32 × mS => (u.1 = a1 ∧ 0 ≤ u.2.2.1.toInt ∧ u.2.2.1.toInt ≤ a1.toInt ∧ u.2.1 = (S.1 22) ∧ (u.2.2.2.1 31).toInt = (S.1 31).toInt - a1.toInt ∧ 0 ≤ (u.2.2.2.1 33).toInt ∧ (u.2.2.2.1 33).toInt < 200 ∧ (S.1 22).toInt < 200) ∧ ((W0 hx cd nt nw ty P u.2.2.2 ∧ RF hx nt nw P tr u.2.2.2 ∧ RB hx cd ty tv u.2.2.2) ∧ (u.2.2.2.1 32) = (S.1 32) ∧ FS u.2.2.2 = FS S)) (fun u => (a1.toInt - u.2.2.1.toInt).toNat) ?_ (⟨by (try clear hF hW hR hB h1 hc hv htr hq hnow wS2 bS2 vS2 w2 r2 b2 n2 f2 qS4 vS4 f4 m4 r4_ g4 qS5 f5 m5 c5 d5 k5 ch5 t45 r5_ y5); (try clear hk54); grind [q_zz, q_za, q_zga, q_fza, q_fx, q_fga, q_gza, q_gfa, q_gx, q_zf1, q_zg1, q_ff, q_fg1, q_gf1, q_gg, ti_link, in200, in2400, in4000], by refine ⟨?_, ?_, ?_⟩ <;> ((try clear hk54); grind [ti_link])⟩)
    rintro ⟨x2, x4, x5, Sl54⟩ k54 hI54 hk54
    replace hI54 : (x2 = a1 ∧ 0 ≤ x5.toInt ∧ x5.toInt ≤ a1.toInt ∧ x4 = (S.1 22) ∧ (Sl54.1 31).toInt = (S.1 31).toInt - a1.toInt ∧ 0 ≤ (Sl54.1 33).toInt ∧ (Sl54.1 33).toInt < 200 ∧ (S.1 22).toInt < 200) ∧ ((W0 hx cd nt nw ty P Sl54 ∧ RF hx nt nw P tr Sl54 ∧ RB hx cd ty tv Sl54) ∧ (Sl54.1 32) = (S.1 32) ∧ FS Sl54 = FS S) := hI54
    replace hk54 : ∀ v : Int32 × Int32 × Int32 × mS, (v.1 = a1 ∧ 0 ≤ v.2.2.1.toInt ∧ v.2.2.1.toInt ≤ a1.toInt ∧ v.2.1 = (S.1 22) ∧ (v.2.2.2.1 31).toInt = (S.1 31).toInt - a1.toInt ∧ 0 ≤ (v.2.2.2.1 33).toInt ∧ (v.2.2.2.1 33).toInt < 200 ∧ (S.1 22).toInt < 200) ∧ ((W0 hx cd nt nw ty P v.2.2.2 ∧ RF hx nt nw P tr v.2.2.2 ∧ RB hx cd ty tv v.2.2.2) ∧ (v.2.2.2.1 32) = (S.1 32) ∧ FS v.2.2.2 = FS S) → (a1.toInt - v.2.2.1.toInt).toNat < (a1.toInt - x5.toInt).toNat → k54 v := hk54
    show wp_childNode_54 _ k54 x2 x4 x5 Sl54
    unfold wp_childNode_54
    obtain ⟨hI54, iI54⟩ := hI54
    obtain ⟨⟨w54, r54, b54⟩, p54, f54⟩ := iI54
    refine ⟨fun c4 => ?_, fun c4 => ?_⟩
    · refine ⟨by (try clear hF hW hR hB h1 hc hv htr hq hnow wS2 bS2 vS2 w2 r2 b2 n2 f2 qS4 vS4 f4 m4 r4_ g4 qS5 f5 m5 c5 d5 k5 ch5 t45 r5_ y5 iI54 w54 r54 b54); (try clear hk54); grind [q_zz, q_za, q_zga, q_fza, q_fx, q_fga, q_gza, q_gfa, q_gx, q_zf1, q_zg1, q_ff, q_fg1, q_gf1, q_gg, ti_link, in200, in2400, in4000], ?_⟩
      intro z8 ez8
      intro z9 ez9
      refine ⟨by (try clear hF hW hR hB h1 hc hv htr hq hnow wS2 bS2 vS2 w2 r2 b2 n2 f2 qS4 vS4 f4 m4 r4_ g4 qS5 f5 m5 c5 d5 k5 ch5 t45 r5_ y5 iI54 w54 r54 b54); (try clear hk54); grind [q_zz, q_za, q_zga, q_fza, q_fx, q_fga, q_gza, q_gfa, q_gx, q_zf1, q_zg1, q_ff, q_fg1, q_gf1, q_gg, ti_link, in200, in2400, in4000], ?_⟩
      intro S10 eS10
      have wS10 : NW Sl54 S10 := NW_f eS10 (by decide)
      have bS10 : NB Sl54 S10 := NB_f eS10 (by decide)
      have vS10 : NF Sl54 S10 := NF_f eS10 (by decide)
      have y10 : (W0 hx cd nt nw ty P S10 ∧ RF hx nt nw P tr S10 ∧ RB hx cd ty tv S10) ∧ (S10.1 32) = (S.1 32) ∧ FS S10 = FS S := ⟨⟨W0_nw wS10 w54, RF_nf vS10 r54, RB_nb bS10 b54⟩, by
            rw [eS10]
            exact p54, (FS_nf vS10).trans f54⟩
      have  t10 : (S10.1 31) = (Sl54.1 31) := by rw [eS10]; rfl
      exact ⟨by (try clear hF hW hR hB h1 hc hv htr hq hnow wS2 bS2 vS2 w2 r2 b2 n2 f2 qS4 vS4 f4 m4 r4_ g4 qS5 f5 m5 c5 d5 k5 ch5 t45 r5_ y5 iI54 w54 r54 b54 wS10 bS10 vS10 y10); (try clear hk54); grind [q_zz, q_za, q_zga, q_fza, q_fx, q_fga, q_gza, q_gfa, q_gx, q_zf1, q_zg1, q_ff, q_fg1, q_gf1, q_gg, ti_link, in200, in2400, in4000], by (try clear hk54); grind [ti_link]⟩
    · intro z11 ez11
      intro z12 ez12
      intro z13 ez13
      refine ⟨by (try clear hF hW hR hB h1 hc hv htr hq hnow wS2 bS2 vS2 w2 r2 b2 n2 f2 qS4 vS4 f4 m4 r4_ g4 qS5 f5 m5 c5 d5 k5 ch5 t45 r5_ y5 iI54 w54 r54 b54); (try clear hk54); grind [q_zz, q_za, q_zga, q_fza, q_fx, q_fga, q_gza, q_gfa, q_gx, q_zf1, q_zg1, q_ff, q_fg1, q_gf1, q_gg, ti_link, in200, in2400, in4000], ?_⟩
      intro z14 ez14
      refine ⟨by (try clear hF hW hR hB h1 hc hv htr hq hnow wS2 bS2 vS2 w2 r2 b2 n2 f2 qS4 vS4 f4 m4 r4_ g4 qS5 f5 m5 c5 d5 k5 ch5 t45 r5_ y5 iI54 w54 r54 b54); (try clear hk54); grind [q_zz, q_za, q_zga, q_fza, q_fx, q_fga, q_gza, q_gfa, q_gx, q_zf1, q_zg1, q_ff, q_fg1, q_gf1, q_gg, ti_link, in200, in2400, in4000], ?_⟩
      intro S15 eS15
      have wS15 : NW Sl54 S15 := NW_f eS15 (by decide)
      have bS15 : NB Sl54 S15 := NB_f eS15 (by decide)
      have vS15 : NF Sl54 S15 := NF_f eS15 (by decide)
      have y15 : (W0 hx cd nt nw ty P S15 ∧ RF hx nt nw P tr S15 ∧ RB hx cd ty tv S15) ∧ (S15.1 32) = (S.1 32) ∧ FS S15 = FS S := ⟨⟨W0_nw wS15 w54, RF_nf vS15 r54, RB_nb bS15 b54⟩, by
            rw [eS15]
            exact p54, (FS_nf vS15).trans f54⟩
      intro z16 ez16
      exact hk54 _ (⟨by (try clear hF hW hR hB h1 hc hv htr hq hnow wS2 bS2 vS2 w2 r2 b2 n2 f2 qS4 vS4 f4 m4 r4_ g4 qS5 f5 m5 c5 d5 k5 ch5 t45 r5_ y5 iI54 w54 r54 b54 wS15 bS15 vS15 y15); (try clear hk54); grind [q_zz, q_za, q_zga, q_fza, q_fx, q_fga, q_gza, q_gfa, q_gx, q_zf1, q_zg1, q_ff, q_fg1, q_gf1, q_gg, ti_link, in200, in2400, in4000], by refine ⟨?_, ?_, ?_⟩ <;> ((try clear hk54); grind [ti_link])⟩) (by (try clear hF hW hR hB h1 hc hv htr hq hnow wS2 bS2 vS2 w2 r2 b2 n2 f2 qS4 vS4 f4 m4 r4_ g4 qS5 f5 m5 c5 d5 k5 ch5 t45 r5_ y5 iI54 w54 r54 b54 wS15 bS15 vS15 y15); (try clear hk54); grind [q_zz, q_za, q_zga, q_fza, q_fx, q_fga, q_gza, q_gfa, q_gx, q_zf1, q_zg1, q_ff, q_fg1, q_gf1, q_gg, ti_link, in200, in2400, in4000])
  · refine fm_failure _ _ _ _ (fun S6 hF5 pS6 => ?_) (sg_failure (hx := hx) (cd := cd) (nt := nt) (nw := nw) (na := na) (ty := ty) (P := P) (tu := tu) (tr := tr) _ (by (try clear hF hW hR hB h1 hc hv htr hq hnow wS2 bS2 vS2 w2 r2 b2 n2 f2); (try clear hk54); grind [q_zz, q_za, q_zga, q_fza, q_fx, q_fga, q_gza, q_gfa, q_gx, q_zf1, q_zg1, q_ff, q_fg1, q_gf1, q_gg, ti_link, in200, in2400, in4000]) (by (try clear hF hW hR hB h1 hc hv htr hq hnow wS2 bS2 vS2 w2 r2 b2 n2 f2); (try clear hk54); grind [q_zz, q_za, q_zga, q_fza, q_fx, q_fga, q_gza, q_gfa, q_gx, q_zf1, q_zg1, q_ff, q_fg1, q_gf1, q_gg, ti_link, in200, in2400, in4000]) (by (try clear hk54); grind [ti_link]) (by (try clear hk54); grind [ti_link]) (by (try clear hk54); grind [ti_link]) (by (try clear hk54); grind [ti_link]) (by (try clear hk54); grind [ti_link]))
    obtain ⟨pS6, qS6⟩ := pS6
    have z22_S6 := hF5.1 22 (by decide)
    have z29_S6 := hF5.1 29 (by decide)
    have z31_S6 := hF5.1 31 (by decide)
    have z33_S6 := hF5.1 33 (by decide)
    have z5_S6 := hF5.1 5 (by decide)
    clear hF5
    have o6 : ENR hx cd nt nw ty P S6 := qS6.1 h1
    exact ⟨by (try clear hF hW hR hB h1 hc hv htr hq hnow wS2 bS2 vS2 w2 r2 b2 n2 f2 qS6 o6); (try clear hk54); grind [q_zz, q_za, q_zga, q_fza, q_fx, q_fga, q_gza, q_gfa, q_gx, q_zf1, q_zg1, q_ff, q_fg1, q_gf1, q_gg, ti_link, in200, in2400, in4000], by (try clear hk54); grind [ti_link]⟩
