
set_option maxHeartbeats 4000000 in
theorem sg_letterNode {hx : Nat} {cd nt nw : Int} {ty : Nat → T6} {P : mS} {tu tv : T6} {tr : Int32} (a0 : Int32) {S : mS} (ha : 0 ≤ a0.toInt ∧ a0.toInt < 8) (hb : 0 ≤ (S.1 29).toInt ∧ (S.1 29).toInt < 100000 ∧ 0 ≤ (S.1 30).toInt ∧ (S.1 30).toInt ≤ (S.1 29).toInt) (hW : W0 hx cd nt nw ty P S) (hR : RF hx nt nw P tr S) (hB : RB hx cd ty tu S) (h1 : tu.2.2.1 = 1) (hc : 1 ≤ tu.2.2.2.1) (hv : tv.2.2.1 = tu.2.2.1 ∧ tv.2.2.2.1 ≤ tu.2.2.2.1 - 1 ∧ tv.2.2.2.2.1 = tu.2.2.2.2.1 ∧ tv.2.2.2.2.2 = tu.2.2.2.2.2) : wp_letterNode a0 S (fun S1 => (True) ∧ (W0 hx cd nt nw ty P S1 ∧ RF hx nt nw P tr S1 ∧ RB hx cd ty tv S1)) := by
  unfold wp_letterNode
  refine ⟨by (try clear hW hR hB h1 hc hv); (try clear hk40); grind [q_zz, q_za, q_zga, q_fza, q_fx, q_fga, q_gza, q_gfa, q_gx, q_zf1, q_zg1, q_ff, q_fg1, q_gf1, q_gg, ti_link, in400, in8], ?_⟩
  intro z1 ez1
  have  l1 : 0 ≤ z1.toInt ∧ z1.toInt ≤ 50 := by
        rw [ez1]
        exact hW.2.2.2.2.2.1 (ix a0) (by unfold ix; omega)
  refine ⟨fun c1 => ?_, fun c1 => ?_⟩
  · intro z3 ez3
    refine ⟨by (try clear hW hR hB h1 hc hv); (try clear hk40); grind [q_zz, q_za, q_zga, q_fza, q_fx, q_fga, q_gza, q_gfa, q_gx, q_zf1, q_zg1, q_ff, q_fg1, q_gf1, q_gg, ti_link, in400, in8], ?_⟩
    intro z4 ez4
    refine ⟨by (try clear hW hR hB h1 hc hv); (try clear hk40); grind [q_zz, q_za, q_zga, q_fza, q_fx, q_fga, q_gza, q_gfa, q_gx, q_zf1, q_zg1, q_ff, q_fg1, q_gf1, q_gg, ti_link, in400, in8], ?_⟩
    intro z5 ez5
    have  l5 : z5 = z1 := ez5.trans ez1.symm
    intro z6 ez6
    refine ⟨by (try clear hW hR hB h1 hc hv); (try clear hk40); grind [q_zz, q_za, q_zga, q_fza, q_fx, q_fga, q_gza, q_gfa, q_gx, q_zf1, q_zg1, q_ff, q_fg1, q_gf1, q_gg, ti_link, in400, in8], ?_⟩
    intro S7 eS7
    have bS7 : NB S S7 := NB_f eS7 (by decide)
    have vS7 : NF S S7 := NF_f eS7 (by decide)
    have w7 := W0_78 eS7 (by (try clear hW hR hB h1 hc hv bS7 vS7); (try clear hk40); grind [q_zz, q_za, q_zga, q_fza, q_fx, q_fga, q_gza, q_gfa, q_gx, q_zf1, q_zg1, q_ff, q_fg1, q_gf1, q_gg, ti_link, in400, in8]) hW
    have r7 := RF_nf vS7 hR
    have b7 := RB_nb bS7 hB
    have  i7 : (S7.2.1 78) (ix a0) = z6 := by
          rw [eS7]
          exact upd_s
    refine it_rule (fun u : Int32 × Int32 × Int32 × mS => (u.1 = a0 ∧ 0 ≤ u.2.2.1.toInt ∧ 0 ≤ ((u.2.2.2.2.1 78) (ix a0)).toInt ∧ ((u.2.2.2.2.1 78) (ix a0)).toInt ≤ 49 ∧ u.2.2.1.toInt ≤ ((u.2.2.2.2.1 78) (ix a0)).toInt ∧ 0 ≤ (u.2.2.2.1 29).toInt ∧ (u.2.2.2.1 29).toInt < 100000 ∧ 0 ≤ (u.2.2.2.1 30).toInt ∧ (u.2.2.2.1 30).toInt ≤ (u.2.2.2.1 29).toInt) ∧ (W0 hx cd nt nw ty P u.2.2.2 ∧ RF hx nt nw P tr u.2.2.2 ∧ RB hx cd ty tu u.2.2.2)) (fun u => (50 - u.2.2.1.toInt).toNat) ?_ (⟨by (try clear hW hR hB h1 hc hv bS7 vS7 w7 r7 b7); (try clear hk40); grind [q_zz, q_za, q_zga, q_fza, q_fx, q_fga, q_gza, q_gfa, q_gx, q_zf1, q_zg1, q_ff, q_fg1, q_gf1, q_gg, ti_link, in400, in8], by refine ⟨?_, ?_, ?_⟩ <;> ((try clear hk40); grind [→ W0_nw, → RF_nf, → RB_nb, ti_link])⟩)
    rintro ⟨x1, x2, x3, Sl40⟩ k40 hI40 hk40
    replace hI40 : (x1 = a0 ∧ 0 ≤ x3.toInt ∧ 0 ≤ ((Sl40.2.1 78) (ix a0)).toInt ∧ ((Sl40.2.1 78) (ix a0)).toInt ≤ 49 ∧ x3.toInt ≤ ((Sl40.2.1 78) (ix a0)).toInt ∧ 0 ≤ (Sl40.1 29).toInt ∧ (Sl40.1 29).toInt < 100000 ∧ 0 ≤ (Sl40.1 30).toInt ∧ (Sl40.1 30).toInt ≤ (Sl40.1 29).toInt) ∧ (W0 hx cd nt nw ty P Sl40 ∧ RF hx nt nw P tr Sl40 ∧ RB hx cd ty tu Sl40) := hI40
    replace hk40 : ∀ v : Int32 × Int32 × Int32 × mS, (v.1 = a0 ∧ 0 ≤ v.2.2.1.toInt ∧ 0 ≤ ((v.2.2.2.2.1 78) (ix a0)).toInt ∧ ((v.2.2.2.2.1 78) (ix a0)).toInt ≤ 49 ∧ v.2.2.1.toInt ≤ ((v.2.2.2.2.1 78) (ix a0)).toInt ∧ 0 ≤ (v.2.2.2.1 29).toInt ∧ (v.2.2.2.1 29).toInt < 100000 ∧ 0 ≤ (v.2.2.2.1 30).toInt ∧ (v.2.2.2.1 30).toInt ≤ (v.2.2.2.1 29).toInt) ∧ (W0 hx cd nt nw ty P v.2.2.2 ∧ RF hx nt nw P tr v.2.2.2 ∧ RB hx cd ty tu v.2.2.2) → (50 - v.2.2.1.toInt).toNat < (50 - x3.toInt).toNat → k40 v := hk40
    show wp_letterNode_40 _ k40 x1 x2 x3 Sl40
    unfold wp_letterNode_40
    obtain ⟨hI40, iI40⟩ := hI40
    obtain ⟨w40, r40, b40⟩ := iI40
    refine ⟨by (try clear hW hR hB h1 hc hv bS7 vS7 w7 r7 b7 iI40 w40 r40 b40); (try clear hk40); grind [q_zz, q_za, q_zga, q_fza, q_fx, q_fga, q_gza, q_gfa, q_gx, q_zf1, q_zg1, q_ff, q_fg1, q_gf1, q_gg, ti_link, in400, in8], ?_⟩
    intro z9 ez9
    refine ⟨fun c2 => ?_, fun c2 => ?_⟩
    · refine fm_newNode _ _ _ _ _ _ (fun S11 r11 hF3 pS11 => ?_) (sg_newNode _ _ _ (by (try clear hW hR hB h1 hc hv bS7 vS7 w7 r7 b7 iI40 w40 r40 b40); (try clear hk40); grind [q_zz, q_za, q_zga, q_fza, q_fx, q_fga, q_gza, q_gfa, q_gx, q_zf1, q_zg1, q_ff, q_fg1, q_gf1, q_gg, ti_link, in400, in8]) (by (try clear hW hR hB h1 hc hv bS7 vS7 w7 r7 b7 iI40 w40 r40 b40); (try clear hk40); grind [q_zz, q_za, q_zga, q_fza, q_fx, q_fga, q_gza, q_gfa, q_gx, q_zf1, q_zg1, q_ff, q_fg1, q_gf1, q_gg, ti_link, in400, in8]))
      obtain ⟨pS11, qS11⟩ := pS11
      have vS11 : NF Sl40 S11 := NF_fr hF3 (by decide) (by decide)
      have f78_S11 := hF3.2.1 78 (by decide)
      have f78a_S11 := Fr_fa hF3 78 (by decide)
      have lfS11 := LEAF (v := tv) w40 b40 h1 hc hv qS11.1 qS11.2 hF3 (by decide) (by decide) (by decide)
      have xS11 : W0 hx cd nt nw ty P S11 ∧ RF hx nt nw P tr S11 ∧ RB hx cd ty tv S11 := ⟨lfS11.1, RF_nf vS11 r40, lfS11.2⟩
      clear hF3
      exact ⟨by (try clear hW hR hB h1 hc hv bS7 vS7 w7 r7 b7 iI40 w40 r40 b40 qS11 vS11 lfS11 xS11); (try clear hk40); grind [q_zz, q_za, q_zga, q_fza, q_fx, q_fga, q_gza, q_gfa, q_gx, q_zf1, q_zg1, q_ff, q_fg1, q_gf1, q_gg, ti_link, in400, in8], by refine ⟨?_, ?_, ?_⟩ <;> ((try clear hk40); grind [→ W0_nw, → RF_nf, → RB_nb, ti_link])⟩
    · intro z12 ez12
      intro z13 ez13
      intro z14 ez14
      intro z15 ez15
      intro z16 ez16
      refine ⟨by (try clear hW hR hB h1 hc hv bS7 vS7 w7 r7 b7 iI40 w40 r40 b40); (try clear hk40); grind [q_zz, q_za, q_zga, q_fza, q_fx, q_fga, q_gza, q_gfa, q_gx, q_zf1, q_zg1, q_ff, q_fg1, q_gf1, q_gg, ti_link, in400, in8], ?_⟩
      intro z17 ez17
      refine ⟨by (try clear hW hR hB h1 hc hv bS7 vS7 w7 r7 b7 iI40 w40 r40 b40); (try clear hk40); grind [q_zz, q_za, q_zga, q_fza, q_fx, q_fga, q_gza, q_gfa, q_gx, q_zf1, q_zg1, q_ff, q_fg1, q_gf1, q_gg, ti_link, in400, in8], ?_⟩
      intro S18 eS18
      have wS18 : NW Sl40 S18 := NW_f eS18 (by decide)
      have bS18 : NB Sl40 S18 := NB_f eS18 (by decide)
      have vS18 : NF Sl40 S18 := NF_f eS18 (by decide)
      have y18 : W0 hx cd nt nw ty P S18 ∧ RF hx nt nw P tr S18 ∧ RB hx cd ty tu S18 := ⟨W0_nw wS18 w40, RF_nf vS18 r40, RB_nb bS18 b40⟩
      intro z19 ez19
      exact hk40 _ (⟨by (try clear hW hR hB h1 hc hv bS7 vS7 w7 r7 b7 iI40 w40 r40 b40 wS18 bS18 vS18 y18); (try clear hk40); grind [q_zz, q_za, q_zga, q_fza, q_fx, q_fga, q_gza, q_gfa, q_gx, q_zf1, q_zg1, q_ff, q_fg1, q_gf1, q_gg, ti_link, in400, in8], by refine ⟨?_, ?_, ?_⟩ <;> ((try clear hk40); grind [→ W0_nw, → RF_nf, → RB_nb, ti_link])⟩) (by (try clear hW hR hB h1 hc hv bS7 vS7 w7 r7 b7 iI40 w40 r40 b40 wS18 bS18 vS18 y18); (try clear hk40); grind [q_zz, q_za, q_zga, q_fza, q_fx, q_fga, q_gza, q_gfa, q_gx, q_zf1, q_zg1, q_ff, q_fg1, q_gf1, q_gg, ti_link, in400, in8])
  · refine fm_newNode _ _ _ _ _ _ (fun S8 r8 hF4 pS8 => ?_) (sg_newNode _ _ _ (by (try clear hW hR hB h1 hc hv); (try clear hk40); grind [q_zz, q_za, q_zga, q_fza, q_fx, q_fga, q_gza, q_gfa, q_gx, q_zf1, q_zg1, q_ff, q_fg1, q_gf1, q_gg, ti_link, in400, in8]) (by (try clear hW hR hB h1 hc hv); (try clear hk40); grind [q_zz, q_za, q_zga, q_fza, q_fx, q_fga, q_gza, q_gfa, q_gx, q_zf1, q_zg1, q_ff, q_fg1, q_gf1, q_gg, ti_link, in400, in8]))
    obtain ⟨pS8, qS8⟩ := pS8
    have vS8 : NF S S8 := NF_fr hF4 (by decide) (by decide)
    have f78_S8 := hF4.2.1 78 (by decide)
    have f78a_S8 := Fr_fa hF4 78 (by decide)
    have lfS8 := LEAF (v := tv) hW hB h1 hc hv qS8.1 qS8.2 hF4 (by decide) (by decide) (by decide)
    have xS8 : W0 hx cd nt nw ty P S8 ∧ RF hx nt nw P tr S8 ∧ RB hx cd ty tv S8 := ⟨lfS8.1, RF_nf vS8 hR, lfS8.2⟩
    clear hF4
    exact ⟨by (try clear hW hR hB h1 hc hv qS8 vS8 lfS8 xS8); (try clear hk40); grind [q_zz, q_za, q_zga, q_fza, q_fx, q_fga, q_gza, q_gfa, q_gx, q_zf1, q_zg1, q_ff, q_fg1, q_gf1, q_gg, ti_link, in400, in8], by refine ⟨?_, ?_, ?_⟩ <;> ((try clear hk40); grind [→ W0_nw, → RF_nf, → RB_nb, ti_link])⟩
