
set_option maxHeartbeats 4000000 in
theorem sg_finished {hx : Nat} {cd nt nw na : Int} {ty : Nat → T6} {P : mS} {u : T6} (a0 : Int32) {S : mS} (hx1 : hx ≤ 1) (hr : 500 * hx ≤ a0.toInt ∧ a0.toInt < nt) (hF : FWt hx cd nt nw na ty P) (hW : W0 hx cd nt nw ty P S) (hR : RF hx nt nw P a0 S) (hB : RB hx cd ty u S) (h0 : u.2.2.1 = 0) : wp_finished a0 S (fun S1 => (True) ∧ (OUT hx cd nt nw ty P (FS S - 1) S1)) := by
  have ht9 := RB_t hW hB
  have fp9 := RF_pos hR (by omega)
  have fr9 := RF_b hR
  have fb9 := FW_b hF
  have rb := RB_st a0 hB h0
  unfold wp_finished
  refine ⟨by (try clear hF hW hR hB h0); grind [q_zz, q_za, q_zga, q_fza, q_fx, q_fga, q_gza, q_gfa, q_gx, q_zf1, q_zg1, q_ff, q_fg1, q_gf1, q_gg, ti_link, in1000, in200, in2200], ?_⟩
  intro z1 ez1
  intro z2 ez2
  refine ⟨by (try clear hF hW hR hB h0); grind [q_zz, q_za, q_zga, q_fza, q_fx, q_fga, q_gza, q_gfa, q_gx, q_zf1, q_zg1, q_ff, q_fg1, q_gf1, q_gg, ti_link, in1000, in200, in2200], ?_⟩
  intro S3 eS3
  have bS3 : NB S S3 := NB_f eS3 (by decide)
  have pp9 := RF_pop eS3 hR (by (try clear hF hW hR hB h0 bS3); grind [q_zz, q_za, q_zga, q_fza, q_fx, q_fga, q_gza, q_gfa, q_gx, q_zf1, q_zg1, q_ff, q_fg1, q_gf1, q_gg, ti_link, in1000, in200, in2200]) (by (try clear hF hW hR hB h0 bS3); grind [q_zz, q_za, q_zga, q_fza, q_fx, q_fga, q_gza, q_gfa, q_gx, q_zf1, q_zg1, q_ff, q_fg1, q_gf1, q_gg, ti_link, in1000, in200, in2200]) (by (try clear hF hW hR hB h0 bS3); grind [q_zz, q_za, q_zga, q_fza, q_fx, q_fga, q_gza, q_gfa, q_gx, q_zf1, q_zg1, q_ff, q_fg1, q_gf1, q_gg, ti_link, in1000, in200, in2200]) (FW_tt hF)
  have w3 := W0_68 (t := S.1 33) eS3 (by (try clear hF hW hR hB h0 bS3 pp9); grind [q_zz, q_za, q_zga, q_fza, q_fx, q_fga, q_gza, q_gfa, q_gx, q_zf1, q_zg1, q_ff, q_fg1, q_gf1, q_gg, ti_link, in1000, in200, in2200]) hB.1.2.2.1 hW
  have b3 := RB_st ((P.2.1 25) (ix a0)) (RB_fw eS3 (by decide) rb) rfl
  have ri3 : RI hx cd nt nw ty P (FS S - 1) S3 := ⟨_, w3, pp9.1, b3, by
        have q9 := pp9.2
        omega⟩
  have  fr3 : (S3.2.1 68) (ix (S3.1 33)) = z2 := by
        rw [eS3]
        show upd _ _ _ _ = _
        exact upd_s
  intro z4 ez4
  refine ⟨by (try clear hF hW hR hB h0 bS3 pp9 w3 b3 ri3); grind [q_zz, q_za, q_zga, q_fza, q_fx, q_fga, q_gza, q_gfa, q_gx, q_zf1, q_zg1, q_ff, q_fg1, q_gf1, q_gg, ti_link, in1000, in200, in2200], ?_⟩
  intro z5 ez5
  intro z6 ez6
  refine ⟨by (try clear hF hW hR hB h0 bS3 pp9 w3 b3 ri3); grind [q_zz, q_za, q_zga, q_fza, q_fx, q_fga, q_gza, q_gfa, q_gx, q_zf1, q_zg1, q_ff, q_fg1, q_gf1, q_gg, ti_link, in1000, in200, in2200], ?_⟩
  intro z7 ez7
  refine ⟨by (try clear hF hW hR hB h0 bS3 pp9 w3 b3 ri3); grind [q_zz, q_za, q_zga, q_fza, q_fx, q_fga, q_gza, q_gfa, q_gx, q_zf1, q_zg1, q_ff, q_fg1, q_gf1, q_gg, ti_link, in1000, in200, in2200], ?_⟩
  intro z8 ez8
  have k8 := RF_top (z := z6) hR (by (try clear hF hW hR hB h0 bS3 pp9 w3 b3 ri3); grind [q_zz, q_za, q_zga, q_fza, q_fx, q_fga, q_gza, q_gfa, q_gx, q_zf1, q_zg1, q_ff, q_fg1, q_gf1, q_gg, ti_link, in1000, in200, in2200]) (by (try clear hF hW hR hB h0 bS3 pp9 w3 b3 ri3); grind [q_zz, q_za, q_zga, q_fza, q_fx, q_fga, q_gza, q_gfa, q_gx, q_zf1, q_zg1, q_ff, q_fg1, q_gf1, q_gg, ti_link, in1000, in200, in2200]) (by (try clear hF hW hR hB h0 bS3 pp9 w3 b3 ri3); grind [q_zz, q_za, q_zga, q_fza, q_fx, q_fga, q_gza, q_gfa, q_gx, q_zf1, q_zg1, q_ff, q_fg1, q_gf1, q_gg, ti_link, in1000, in200, in2200])
  have l8 : FRL hx nw ((P.2.1 25)) ((P.2.1 40)) ((S.2.1 70) (ix z6)) z7 z8 ((P.2.1 25) (ix a0)) := by
        rw [ez7, ez8, eS3]
        exact k8.2.2.2
  have  m8 : z7 = 0 ∨ z7 = 1 ∨ z7 = 2 ∨ z7 = 5 ∨ ((z7 = 3 ∨ z7 = 4) ∧ 500 * hx ≤ z8.toInt ∧ z8.toInt < nw) := l8.2.imp id (Or.imp id (Or.imp id (Or.imp id (fun q => ⟨q.1, q.2.1, q.2.2.1⟩))))
  have n8 : ¬ z7 = 0 → ¬ z7 = 1 → ¬ z7 = 2 → RL9 hx cd nt nw ty P (FS S - 1) z7 z8 S3 := fun h0 h1 h2 => RL_i w3 pp9.1 b3 (by
        have q9 := pp9.2
        omega) (by
        rcases l8.2 with q | q | q | q | q
        · exact absurd q h0
        · exact absurd q h1
        · exact absurd q h2
        · exact Or.inl q
        · exact Or.inr q.2.2.2)
  refine ⟨fun c1 => ?_, fun c1 => ?_⟩
  · refine ⟨fun c2 => ?_, fun c2 => ?_⟩
    · refine ⟨fun c3 => ?_, fun c3 => ?_⟩
      · refine fm_leave _ _ _ _ _ (fun S12 hF4 pS12 => ?_) (sg_leave (hx := hx) (cd := cd) (nt := nt) (nw := nw) (na := na) (ty := ty) (P := P) (F := (FS S - 1)) _ _ (by (try clear hF hW hR hB h0 bS3 pp9 w3 b3 ri3 k8 l8 n8); grind [q_zz, q_za, q_zga, q_fza, q_fx, q_fga, q_gza, q_gfa, q_gx, q_zf1, q_zg1, q_ff, q_fg1, q_gf1, q_gg, ti_link, in1000, in200, in2200]) (by (try clear hF hW hR hB h0 bS3 pp9 w3 b3 ri3 k8 l8 n8); grind [q_zz, q_za, q_zga, q_fza, q_fx, q_fga, q_gza, q_gfa, q_gx, q_zf1, q_zg1, q_ff, q_fg1, q_gf1, q_gg, ti_link, in1000, in200, in2200]) (by (try clear hF hW hR hB h0 bS3 pp9 w3 b3 ri3 k8 l8 n8); grind [q_zz, q_za, q_zga, q_fza, q_fx, q_fga, q_gza, q_gfa, q_gx, q_zf1, q_zg1, q_ff, q_fg1, q_gf1, q_gg, ti_link, in1000, in200, in2200]) (by grind [→ W0_nw, → RF_nf, → RB_nb, ti_link]) (by grind [→ W0_nw, → RF_nf, → RB_nb, ti_link]))
        obtain ⟨pS12, qS12⟩ := pS12
        have z33_S12 := hF4.1 33 (by decide)
        clear hF4
        have o12 := qS12.1
        exact ⟨by (try clear hF hW hR hB h0 bS3 pp9 w3 b3 ri3 k8 l8 n8 qS12 o12); grind [q_zz, q_za, q_zga, q_fza, q_fx, q_fga, q_gza, q_gfa, q_gx, q_zf1, q_zg1, q_ff, q_fg1, q_gf1, q_gg, ti_link, in1000, in200, in2200], by grind [→ W0_nw, → RF_nf, → RB_nb, ti_link]⟩
      · refine fm_raiseCancel _ _ _ (fun S13 hF5 pS13 => ?_) (sg_raiseCancel (hx := hx) (cd := cd) (nt := nt) (nw := nw) (na := na) (ty := ty) (P := P) (F := (FS S - 1)) (by (try clear hF hW hR hB h0 bS3 pp9 w3 b3 ri3 k8 l8 n8); grind [q_zz, q_za, q_zga, q_fza, q_fx, q_fga, q_gza, q_gfa, q_gx, q_zf1, q_zg1, q_ff, q_fg1, q_gf1, q_gg, ti_link, in1000, in200, in2200]) (by (try clear hF hW hR hB h0 bS3 pp9 w3 b3 ri3 k8 l8 n8); grind [q_zz, q_za, q_zga, q_fza, q_fx, q_fga, q_gza, q_gfa, q_gx, q_zf1, q_zg1, q_ff, q_fg1, q_gf1, q_gg, ti_link, in1000, in200, in2200]) (by grind [→ W0_nw, → RF_nf, → RB_nb, ti_link]) (by grind [→ W0_nw, → RF_nf, → RB_nb, ti_link]))
        obtain ⟨pS13, qS13⟩ := pS13
        have z33_S13 := hF5.1 33 (by decide)
        clear hF5
        have o13 : OUT hx cd nt nw ty P (FS S - 1) S13 := OUT_m (by omega) qS13
        exact ⟨by (try clear hF hW hR hB h0 bS3 pp9 w3 b3 ri3 k8 l8 n8 qS13 o13); grind [q_zz, q_za, q_zga, q_fza, q_fx, q_fga, q_gza, q_gfa, q_gx, q_zf1, q_zg1, q_ff, q_fg1, q_gf1, q_gg, ti_link, in1000, in200, in2200], by grind [→ W0_nw, → RF_nf, → RB_nb, ti_link]⟩
    · refine fm_raise _ _ _ _ (fun S14 hF6 pS14 => ?_) (sg_raise (hx := hx) (cd := cd) (nt := nt) (nw := nw) (na := na) (ty := ty) (P := P) (F := (FS S - 1)) _ (by (try clear hF hW hR hB h0 bS3 pp9 w3 b3 ri3 k8 l8 n8); grind [q_zz, q_za, q_zga, q_fza, q_fx, q_fga, q_gza, q_gfa, q_gx, q_zf1, q_zg1, q_ff, q_fg1, q_gf1, q_gg, ti_link, in1000, in200, in2200]) (by (try clear hF hW hR hB h0 bS3 pp9 w3 b3 ri3 k8 l8 n8); grind [q_zz, q_za, q_zga, q_fza, q_fx, q_fga, q_gza, q_gfa, q_gx, q_zf1, q_zg1, q_ff, q_fg1, q_gf1, q_gg, ti_link, in1000, in200, in2200]) (by grind [→ W0_nw, → RF_nf, → RB_nb, ti_link]) (by grind [→ W0_nw, → RF_nf, → RB_nb, ti_link]))
      obtain ⟨pS14, qS14⟩ := pS14
      have z33_S14 := hF6.1 33 (by decide)
      clear hF6
      have o14 : OUT hx cd nt nw ty P (FS S - 1) S14 := OUT_m (by omega) qS14
      exact ⟨by (try clear hF hW hR hB h0 bS3 pp9 w3 b3 ri3 k8 l8 n8 qS14 o14); grind [q_zz, q_za, q_zga, q_fza, q_fx, q_fga, q_gza, q_gfa, q_gx, q_zf1, q_zg1, q_ff, q_fg1, q_gf1, q_gg, ti_link, in1000, in200, in2200], by grind [→ W0_nw, → RF_nf, → RB_nb, ti_link]⟩
  · refine ⟨by (try clear hF hW hR hB h0 bS3 pp9 w3 b3 ri3 k8 l8 n8); grind [q_zz, q_za, q_zga, q_fza, q_fx, q_fga, q_gza, q_gfa, q_gx, q_zf1, q_zg1, q_ff, q_fg1, q_gf1, q_gg, ti_link, in1000, in200, in2200], ?_⟩
    intro z15 ez15
    intro S16 eS16
    have wS16 : NW S3 S16 := NW_z eS16 (by decide)
    have bS16 : NB S3 S16 := NB_z eS16 (by decide)
    have vS16 : NF S3 S16 := NF_z eS16 (by decide)
    have p16 : S16.1 32 = (S.2.1 33) (ix a0) := by
          rw [eS16]
          show z15 = _
          rw [ez15, eS3]
          rfl
    have o16 : OUT hx cd nt nw ty P (FS S - 1) S16 := Or.inr ⟨_, W0_nw wS16 w3, RF_nf vS16 pp9.1, RB_nb bS16 b3, by rw [p16]; exact FW_be hF hW hr.1 hr.2, by
          rw [FS_nf vS16]
          have q9 := pp9.2
          omega⟩
    exact ⟨by (try clear hF hW hR hB h0 bS3 pp9 w3 b3 ri3 k8 l8 n8 wS16 bS16 vS16 p16 o16); grind [q_zz, q_za, q_zga, q_fza, q_fx, q_fga, q_gza, q_gfa, q_gx, q_zf1, q_zg1, q_ff, q_fg1, q_gf1, q_gg, ti_link, in1000, in200, in2200], by grind [→ W0_nw, → RF_nf, → RB_nb, ti_link]⟩
