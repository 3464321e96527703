
set_option maxHeartbeats 4000000 in
theorem sg_leavePart {hx : Nat} {cd nt nw na : Int} {ty : Nat → T6} {P : mS} {u : T6} (a0 : Int32) {S : mS} (hx1 : hx ≤ 1) (hr : 500 * hx ≤ a0.toInt ∧ a0.toInt < nt) (hF : FWt hx cd nt nw na ty P) (hW : W0 hx cd nt nw ty P S) (hR : RF hx nt nw P a0 S) (hB : RB hx cd ty u S) (h0 : u.2.2.1 = 0) : wp_leavePart a0 S (fun S1 => (True) ∧ (RJ hx cd nt nw ty P (FS S - 1) S1 ∨ (RJ hx cd nt nw ty P (FS S) S1 ∧ (S1.1 32) = (S.2.1 32) (ix a0) ∧ ¬ (S.2.1 29) (ix a0) = 0))) := by
  have ht9 := RB_t hW hB
  have fp9 := RF_pos hR (by omega)
  have fr9 := RF_b hR
  have fb9 := FW_b hF
  have rb := RB_st a0 hB h0
  unfold wp_leavePart
  intro z1 ez1
  refine ⟨by (try clear hF hW hR hB h0); grind [q_zz, q_za, q_zga, q_fza, q_fx, q_fga, q_gza, q_gfa, q_gx, q_zf1, q_zg1, q_ff, q_fg1, q_gf1, q_gg, ti_link, in1000, in200], ?_⟩
  intro z2 ez2
  intro z3 ez3
  intro z4 ez4
  refine ⟨by (try clear hF hW hR hB h0); grind [q_zz, q_za, q_zga, q_fza, q_fx, q_fga, q_gza, q_gfa, q_gx, q_zf1, q_zg1, q_ff, q_fg1, q_gf1, q_gg, ti_link, in1000, in200], ?_⟩
  intro z5 ez5
  have hh9 : z5 = (S.2.1 29) (ix a0) := ez5
  have hl9 : FRL hx nw ((P.2.1 25)) ((P.2.1 40)) 2 0 0 ((P.2.1 25) (ix a0)) := ⟨Or.inr (Or.inr rfl), Or.inl rfl⟩
  refine ⟨fun c1 => ?_, fun c1 => ?_⟩
  · refine ⟨by (try clear hF hW hR hB h0 hh9 hl9); grind [q_zz, q_za, q_zga, q_fza, q_fx, q_fga, q_gza, q_gfa, q_gx, q_zf1, q_zg1, q_ff, q_fg1, q_gf1, q_gg, ti_link, in1000, in200], ?_⟩
    intro z7 ez7
    intro z8 ez8
    refine ⟨by (try clear hF hW hR hB h0 hh9 hl9); grind [q_zz, q_za, q_zga, q_fza, q_fx, q_fga, q_gza, q_gfa, q_gx, q_zf1, q_zg1, q_ff, q_fg1, q_gf1, q_gg, ti_link, in1000, in200], ?_⟩
    intro S9 eS9
    have bS9 : NB S S9 := NB_f eS9 (by decide)
    have pp9 := RF_pop eS9 hR (by (try clear hF hW hR hB h0 hh9 hl9 bS9); grind [q_zz, q_za, q_zga, q_fza, q_fx, q_fga, q_gza, q_gfa, q_gx, q_zf1, q_zg1, q_ff, q_fg1, q_gf1, q_gg, ti_link, in1000, in200]) (by (try clear hF hW hR hB h0 hh9 hl9 bS9); grind [q_zz, q_za, q_zga, q_fza, q_fx, q_fga, q_gza, q_gfa, q_gx, q_zf1, q_zg1, q_ff, q_fg1, q_gf1, q_gg, ti_link, in1000, in200]) (by (try clear hF hW hR hB h0 hh9 hl9 bS9); grind [q_zz, q_za, q_zga, q_fza, q_fx, q_fga, q_gza, q_gfa, q_gx, q_zf1, q_zg1, q_ff, q_fg1, q_gf1, q_gg, ti_link, in1000, in200]) (FW_tt hF)
    have w9 := W0_68 (t := S.1 33) eS9 (by (try clear hF hW hR hB h0 hh9 hl9 bS9 pp9); grind [q_zz, q_za, q_zga, q_fza, q_fx, q_fga, q_gza, q_gfa, q_gx, q_zf1, q_zg1, q_ff, q_fg1, q_gf1, q_gg, ti_link, in1000, in200]) hB.1.2.2.1 hW
    have b9 := RB_fw eS9 (by decide) rb
    refine ⟨by (try clear hF hW hR hB h0 hh9 hl9 bS9 pp9 w9 b9); grind [q_zz, q_za, q_zga, q_fza, q_fx, q_fga, q_gza, q_gfa, q_gx, q_zf1, q_zg1, q_ff, q_fg1, q_gf1, q_gg, ti_link, in1000, in200], ?_⟩
    intro z10 ez10
    intro S11 eS11
    have wS11 : NW S9 S11 := NW_z eS11 (by decide)
    have bS11 : NB S9 S11 := NB_z eS11 (by decide)
    have vS11 : NF S9 S11 := NF_z eS11 (by decide)
    have p11 : S11.1 32 = (S.2.1 33) (ix a0) := by
          rw [eS11]
          show z10 = _
          rw [ez10, eS9]
          rfl
    have j11 : RJ hx cd nt nw ty P (FS S - 1) S11 := ⟨_, W0_nw wS11 w9, RF_nf vS11 pp9.1, RB_st _ (RB_nb bS11 b9) rfl, by rw [p11]; exact FW_be hF hW hr.1 hr.2, by
          rw [FS_nf vS11]
          have q9 := pp9.2
          omega⟩
    exact ⟨by (try clear hF hW hR hB h0 hh9 hl9 bS9 pp9 w9 b9 wS11 bS11 vS11 p11 j11); grind [q_zz, q_za, q_zga, q_fza, q_fx, q_fga, q_gza, q_gfa, q_gx, q_zf1, q_zg1, q_ff, q_fg1, q_gf1, q_gg, ti_link, in1000, in200], by grind [→ W0_nw, → RF_nf, → RB_nb, ti_link]⟩
  · refine fm_toFinish _ _ _ _ _ _ (fun S12 hF2 pS12 => ?_) (sg_toFinish (hx := hx) (cd := cd) (nt := nt) (nw := nw) (na := na) (ty := ty) (P := P) (tr := a0) _ _ _ (by (try clear hF hW hR hB h0 hh9 hl9); grind [q_zz, q_za, q_zga, q_fza, q_fx, q_fga, q_gza, q_gfa, q_gx, q_zf1, q_zg1, q_ff, q_fg1, q_gf1, q_gg, ti_link, in1000, in200]) (by (try clear hF hW hR hB h0 hh9 hl9); grind [q_zz, q_za, q_zga, q_fza, q_fx, q_fga, q_gza, q_gfa, q_gx, q_zf1, q_zg1, q_ff, q_fg1, q_gf1, q_gg, ti_link, in1000, in200]) (by (try clear hF hW hR hB h0 hh9 hl9); grind [q_zz, q_za, q_zga, q_fza, q_fx, q_fga, q_gza, q_gfa, q_gx, q_zf1, q_zg1, q_ff, q_fg1, q_gf1, q_gg, ti_link, in1000, in200]) (by grind [→ W0_nw, → RF_nf, → RB_nb, ti_link]) (by grind [→ W0_nw, → RF_nf, → RB_nb, ti_link]) (by grind [→ W0_nw, → RF_nf, → RB_nb, ti_link]) (by grind [→ W0_nw, → RF_nf, → RB_nb, ti_link]) (by grind [→ W0_nw, → RF_nf, → RB_nb, ti_link]) (by grind [→ W0_nw, → RF_nf, → RB_nb, ti_link]))
    obtain ⟨pS12, qS12⟩ := pS12
    have bS12 : NB S S12 := NB_fr hF2 (by decide) (by decide)
    have z33_S12 := hF2.1 33 (by decide)
    have f12 : S12.1 32 = S12.1 32 := rfl
    clear hF2
    have k12 := RF_top (z := z4) hR (by (try clear hF hW hR hB h0 hh9 hl9 qS12 bS12 f12); grind [q_zz, q_za, q_zga, q_fza, q_fx, q_fga, q_gza, q_gfa, q_gx, q_zf1, q_zg1, q_ff, q_fg1, q_gf1, q_gg, ti_link, in1000, in200]) (by (try clear hF hW hR hB h0 hh9 hl9 qS12 bS12 f12); grind [q_zz, q_za, q_zga, q_fza, q_fx, q_fga, q_gza, q_gfa, q_gx, q_zf1, q_zg1, q_ff, q_fg1, q_gf1, q_gg, ti_link, in1000, in200]) (by (try clear hF hW hR hB h0 hh9 hl9 qS12 bS12 f12); grind [q_zz, q_za, q_zga, q_fza, q_fx, q_fga, q_gza, q_gfa, q_gx, q_zf1, q_zg1, q_ff, q_fg1, q_gf1, q_gg, ti_link, in1000, in200])
    have f12_ := FRL_p k12.2.2.2
    have j12 : RJ hx cd nt nw ty P (FS S) S12 := ⟨_, qS12.1, qS12.2.1, qS12.2.2.1, qS12.2.2.2.1, by
          have q9 := qS12.2.2.2.2.1
          omega⟩
    exact ⟨by (try clear hF hW hR hB h0 hh9 hl9 qS12 bS12 f12 k12 f12_ j12); grind [q_zz, q_za, q_zga, q_fza, q_fx, q_fga, q_gza, q_gfa, q_gx, q_zf1, q_zg1, q_ff, q_fg1, q_gf1, q_gg, ti_link, in1000, in200], by grind [→ W0_nw, → RF_nf, → RB_nb, ti_link]⟩
