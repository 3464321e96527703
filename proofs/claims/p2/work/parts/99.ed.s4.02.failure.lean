
set_option maxHeartbeats 4000000 in
theorem sg_failure {hx : Nat} {cd nt nw na : Int} {ty : Nat → T6} {P : mS} {tu : T6} {tr : Int32} (a0 : Int32) {S : mS} (hx1 : hx ≤ 1) (hb : 0 ≤ (S.1 33).toInt ∧ (S.1 33).toInt < 200) (hF : FWt hx cd nt nw na ty P) (hW : W0 hx cd nt nw ty P S) (hR : RF hx nt nw P tr S) (hB : RB hx cd ty tu S) (htr : tu.2.2.2.2.2 = tr) : wp_failure a0 S (fun S1 => (True) ∧ ((tu.2.2.1 = 1 → ENR hx cd nt nw ty P S1) ∧ (tu.2.2.1 = 0 → OUT hx cd nt nw ty P (FS S - 1) S1))) := by
  have hw1 : ¬ (S.1 34) = 0 → tu.2.2.1 = 1 := fun h => hB.2.2.2.2.1.resolve_left (fun g => h (hB.2.2.1 g))
  have hw0 : (S.1 34) = 0 → tu.2.2.1 = 0 := fun h => hB.2.2.2.2.1.resolve_right (fun g => absurd ((hB.2.2.2.1 g).1.symm.trans h) (by decide))
  unfold wp_failure
  refine ⟨fun c1 => ?_, fun c1 => ?_⟩
  · refine fq_letGo _ _ _ _ _ (fun S2 hF2 pS2 => ?_) (sr_letGo (hx := hx) (cd := cd) (nt := nt) (nw := nw) (ty := ty) (P := P) (u := tu) _ _ (by (try clear hF hW hR hB htr); grind [q_zz, q_za, q_zga, q_fza, q_fx, q_fga, q_gza, q_gfa, q_gx, q_zf1, q_zg1, q_ff, q_fg1, q_gf1, q_gg, ti_link, in200]) (by grind [RI_i, ti_link]) (by grind [RI_i, ti_link]) (by grind [RI_i, ti_link]))
    obtain ⟨pS2, qS2⟩ := pS2
    have vS2 : NF S S2 := NF_fr hF2 (by decide) (by decide)
    have z33_S2 := hF2.1 33 (by decide)
    have z35_S2 := hF2.1 35 (by decide)
    have z29_S2 := hF2.1 29 (by decide)
    clear hF2
    have i1 := hw1 (by assumption)
    have r2 := RF_nf vS2 hR
    refine ⟨by (try clear hF hW hR hB htr qS2 vS2 i1 r2); grind [q_zz, q_za, q_zga, q_fza, q_fx, q_fga, q_gza, q_gfa, q_gx, q_zf1, q_zg1, q_ff, q_fg1, q_gf1, q_gg, ti_link, in200], ?_⟩
    intro S3 eS3
    have wS3 : NW S2 S3 := NW_f eS3 (by decide)
    have bS3 : NB S2 S3 := NB_f eS3 (by decide)
    have vS3 : NF S2 S3 := NF_f eS3 (by decide)
    refine ⟨by (try clear hF hW hR hB htr qS2 vS2 i1 r2 wS3 bS3 vS3); grind [q_zz, q_za, q_zga, q_fza, q_fx, q_fga, q_gza, q_gfa, q_gx, q_zf1, q_zg1, q_ff, q_fg1, q_gf1, q_gg, ti_link, in200], ?_⟩
    intro S4 eS4
    have wS4 : NW S3 S4 := NW_f eS4 (by decide)
    have bS4 : NB S3 S4 := NB_f eS4 (by decide)
    have vS4 : NF S3 S4 := NF_f eS4 (by decide)
    intro S5 eS5
    have wS5 : NW S4 S5 := NW_z eS5 (by decide)
    have bS5 : NB S4 S5 := NB_z eS5 (by decide)
    have vS5 : NF S4 S5 := NF_z eS5 (by decide)
    have w5 := W0_nw wS5 (W0_nw wS4 (W0_nw wS3 qS2.1))
    have r5 := RF_nf vS5 (RF_nf vS4 (RF_nf vS3 r2))
    have b5 := RB_nb bS5 (RB_nb bS4 (RB_nb bS3 qS2.2))
    have e5_ : S5.1 32 = S2.1 37 := by
          rw [eS5]
          show S4.1 37 = _
          rw [eS4, eS3]
          rfl
    have p5 : TG hx cd ty (S5.1 32) tr := by
          have g := qS2.2.2.2.2.1 i1
          rw [e5_, ← htr]
          exact g.2.2.2.2.1
    refine fm_stops _ _ _ _ (fun S6 hF3 pS6 => ?_) (sg_stops (hx := hx) (cd := cd) (nt := nt) (nw := nw) (ty := ty) (P := P) (u := tu) (tr := tr) _ (by (try clear hF hW hR hB htr qS2 vS2 i1 r2 wS3 bS3 vS3 wS4 bS4 vS4 wS5 bS5 vS5 w5 r5 b5 e5_ p5); grind [q_zz, q_za, q_zga, q_fza, q_fx, q_fga, q_gza, q_gfa, q_gx, q_zf1, q_zg1, q_ff, q_fg1, q_gf1, q_gg, ti_link, in200]) (by grind [RI_i, ti_link]) (by grind [RI_i, ti_link]) (by grind [RI_i, ti_link]) (by grind [RI_i, ti_link]) (by grind [RI_i, ti_link]))
    obtain ⟨pS6, qS6⟩ := pS6
    have vS6 : NF S5 S6 := NF_fr hF3 (by decide) (by decide)
    have z33_S6 := hF3.1 33 (by decide)
    have z35_S6 := hF3.1 35 (by decide)
    have z29_S6 := hF3.1 29 (by decide)
    clear hF3
    have z6 : tu.2.2.1 = 0 → OUT hx cd nt nw ty P (FS S - 1) S6 := fun h => absurd (i1.symm.trans h) (by decide)
    exact ⟨by (try clear hF hW hR hB htr qS2 vS2 i1 r2 wS3 bS3 vS3 wS4 bS4 vS4 wS5 bS5 vS5 w5 r5 b5 e5_ p5 qS6 vS6 z6); grind [q_zz, q_za, q_zga, q_fza, q_fx, q_fga, q_gza, q_gfa, q_gx, q_zf1, q_zg1, q_ff, q_fg1, q_gf1, q_gg, ti_link, in200], by refine ⟨?_, ?_⟩ <;> (grind [RI_i, ti_link])⟩
  · refine fm_raise _ _ _ _ (fun S7 hF4 pS7 => ?_) (sg_raise (hx := hx) (cd := cd) (nt := nt) (nw := nw) (na := na) (ty := ty) (P := P) (F := (FS S)) _ (by (try clear hF hW hR hB htr); grind [q_zz, q_za, q_zga, q_fza, q_fx, q_fga, q_gza, q_gfa, q_gx, q_zf1, q_zg1, q_ff, q_fg1, q_gf1, q_gg, ti_link, in200]) (by (try clear hF hW hR hB htr); grind [q_zz, q_za, q_zga, q_fza, q_fx, q_fga, q_gza, q_gfa, q_gx, q_zf1, q_zg1, q_ff, q_fg1, q_gf1, q_gg, ti_link, in200]) (by grind [RI_i, ti_link]) (by grind [RI_i, ti_link]))
    obtain ⟨pS7, qS7⟩ := pS7
    have z33_S7 := hF4.1 33 (by decide)
    have z35_S7 := hF4.1 35 (by decide)
    have z29_S7 := hF4.1 29 (by decide)
    clear hF4
    have i0 := hw0 (by assumption)
    have z7 : tu.2.2.1 = 1 → ENR hx cd nt nw ty P S7 := fun h => absurd (i0.symm.trans h) (by decide)
    exact ⟨by (try clear hF hW hR hB htr qS7 i0 z7); grind [q_zz, q_za, q_zga, q_fza, q_fx, q_fga, q_gza, q_gfa, q_gx, q_zf1, q_zg1, q_ff, q_fg1, q_gf1, q_gg, ti_link, in200], by refine ⟨?_, ?_⟩ <;> (grind [RI_i, ti_link])⟩
