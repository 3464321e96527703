
set_option maxHeartbeats 4000000 in
theorem sg_raise {hx : Nat} {cd nt nw na : Int} {ty : Nat → T6} {P : mS} {F : Int} (a0 : Int32) {S : mS} (hx1 : hx ≤ 1) (hb : 0 ≤ (S.1 33).toInt ∧ (S.1 33).toInt < 200) (hF : FWt hx cd nt nw na ty P) (hJ : RI hx cd nt nw ty P F S) : wp_raise a0 S (fun S1 => (True) ∧ (OUT hx cd nt nw ty P (F - 1) S1)) := by
  unfold wp_raise
  refine it_rule (fun u : Int32 × mS => (0 ≤ (u.2.1 33).toInt ∧ (u.2.1 33).toInt < 200) ∧ (RI hx cd nt nw ty P F u.2)) (fun u => (((u.2.2.1 68) (ix (u.2.1 33))).toInt).toNat) ?_ (⟨by (try clear hF hJ); (try clear hk0); grind [q_zz, q_za, q_zga, q_fza, q_fx, q_fga, q_gza, q_gfa, q_gx, q_zf1, q_zg1, q_ff, q_fg1, q_gf1, q_gg, ti_link, in1000, in200, in2200, in2400], by (try clear hk0); grind [→ W0_nw, → RF_nf, → RB_nb, ti_link]⟩)
  rintro ⟨x1, Sl0⟩ k0 hI0 hk0
  replace hI0 : (0 ≤ (Sl0.1 33).toInt ∧ (Sl0.1 33).toInt < 200) ∧ (RI hx cd nt nw ty P F Sl0) := hI0
  replace hk0 : ∀ v : Int32 × mS, (0 ≤ (v.2.1 33).toInt ∧ (v.2.1 33).toInt < 200) ∧ (RI hx cd nt nw ty P F v.2) → (((v.2.2.1 68) (ix (v.2.1 33))).toInt).toNat < (((Sl0.2.1 68) (ix (Sl0.1 33))).toInt).toNat → k0 v := hk0
  show wp_raise_0 _ k0 x1 Sl0
  unfold wp_raise_0
  obtain ⟨hI0, iI0⟩ := hI0
  obtain ⟨tr, w0, rf, rb, fs⟩ := iI0
  have  fr9 := RF_b rf
  have  fb9 := FW_b hF
  refine ⟨by (try clear hF hJ iI0 w0 rf rb fs); (try clear hk0); grind [q_zz, q_za, q_zga, q_fza, q_fx, q_fga, q_gza, q_gfa, q_gx, q_zf1, q_zg1, q_ff, q_fg1, q_gf1, q_gg, ti_link, in1000, in200, in2200, in2400], ?_⟩
  intro z1 ez1
  refine ⟨fun c1 => ?_, fun c1 => ?_⟩
  · refine fq_ends _ _ _ _ _ _ (fun S3 hF2 pS3 => ?_) (sr_ends (hx := hx) (cd := cd) (nt := nt) (nw := nw) (ty := ty) (P := P) (u := (ST tr)) _ _ _ (by (try clear hF hJ iI0 w0 rf rb fs); (try clear hk0); grind [q_zz, q_za, q_zga, q_fza, q_fx, q_fga, q_gza, q_gfa, q_gx, q_zf1, q_zg1, q_ff, q_fg1, q_gf1, q_gg, ti_link, in1000, in200, in2200, in2400]) (by (try clear hk0); grind [→ W0_nw, → RF_nf, → RB_nb, ti_link]) (by (try clear hk0); grind [→ W0_nw, → RF_nf, → RB_nb, ti_link]))
    obtain ⟨pS3, qS3⟩ := pS3
    have vS3 : NF Sl0 S3 := NF_fr hF2 (by decide) (by decide)
    have z33_S3 := hF2.1 33 (by decide)
    clear hF2
    have oS3 : OUT hx cd nt nw ty P (F - 1) S3 := Or.inl qS3
    exact ⟨by (try clear hF hJ iI0 w0 rf rb fs qS3 vS3 oS3); (try clear hk0); grind [q_zz, q_za, q_zga, q_fza, q_fx, q_fga, q_gza, q_gfa, q_gx, q_zf1, q_zg1, q_ff, q_fg1, q_gf1, q_gg, ti_link, in1000, in200, in2200, in2400], by (try clear hk0); grind [→ W0_nw, → RF_nf, → RB_nb, ti_link]⟩
  · intro z4 ez4
    refine ⟨by (try clear hF hJ iI0 w0 rf rb fs); (try clear hk0); grind [q_zz, q_za, q_zga, q_fza, q_fx, q_fga, q_gza, q_gfa, q_gx, q_zf1, q_zg1, q_ff, q_fg1, q_gf1, q_gg, ti_link, in1000, in200, in2200, in2400], ?_⟩
    intro z5 ez5
    intro z6 ez6
    intro z7 ez7
    refine ⟨by (try clear hF hJ iI0 w0 rf rb fs); (try clear hk0); grind [q_zz, q_za, q_zga, q_fza, q_fx, q_fga, q_gza, q_gfa, q_gx, q_zf1, q_zg1, q_ff, q_fg1, q_gf1, q_gg, ti_link, in1000, in200, in2200, in2400], ?_⟩
    intro z8 ez8
    have  k7 := RF_top (z := z7) rf (by (try clear hF hJ iI0 w0 rf rb fs); (try clear hk0); grind [q_zz, q_za, q_zga, q_fza, q_fx, q_fga, q_gza, q_gfa, q_gx, q_zf1, q_zg1, q_ff, q_fg1, q_gf1, q_gg, ti_link, in1000, in200, in2200, in2400]) (by (try clear hF hJ iI0 w0 rf rb fs); (try clear hk0); grind [q_zz, q_za, q_zga, q_fza, q_fx, q_fga, q_gza, q_gfa, q_gx, q_zf1, q_zg1, q_ff, q_fg1, q_gf1, q_gg, ti_link, in1000, in200, in2200, in2400]) (by (try clear hF hJ iI0 w0 rf rb fs); (try clear hk0); grind [q_zz, q_za, q_zga, q_fza, q_fx, q_fga, q_gza, q_gfa, q_gx, q_zf1, q_zg1, q_ff, q_fg1, q_gf1, q_gg, ti_link, in1000, in200, in2200, in2400])
    have  f7 := FRL_p k7.2.2.2
    have  e7 : z8 = tr := by
          rw [ez8]
          exact k7.1
    have  g7 : 500 * hx ≤ tr.toInt ∧ tr.toInt < nt := ⟨k7.2.1, k7.2.2.1⟩
    refine ⟨by (try clear hF hJ iI0 w0 rf rb fs); (try clear hk0); grind [q_zz, q_za, q_zga, q_fza, q_fx, q_fga, q_gza, q_gfa, q_gx, q_zf1, q_zg1, q_ff, q_fg1, q_gf1, q_gg, ti_link, in1000, in200, in2200, in2400], ?_⟩
    intro z9 ez9
    refine ⟨fun c3 => ?_, fun c3 => ?_⟩
    · unfold wp_raise_95
      refine ⟨by (try clear hF hJ iI0 w0 rf rb fs); (try clear hk0); grind [q_zz, q_za, q_zga, q_fza, q_fx, q_fga, q_gza, q_gfa, q_gx, q_zf1, q_zg1, q_ff, q_fg1, q_gf1, q_gg, ti_link, in1000, in200, in2200, in2400], ?_⟩
      intro z20 ez20
      refine ⟨fun c4 => ?_, fun c4 => ?_⟩
      · unfold wp_raise_122
        refine ⟨by (try clear hF hJ iI0 w0 rf rb fs); (try clear hk0); grind [q_zz, q_za, q_zga, q_fza, q_fx, q_fga, q_gza, q_gfa, q_gx, q_zf1, q_zg1, q_ff, q_fg1, q_gf1, q_gg, ti_link, in1000, in200, in2200, in2400], ?_⟩
        intro z25 ez25
        intro z26 ez26
        refine ⟨by (try clear hF hJ iI0 w0 rf rb fs); (try clear hk0); grind [q_zz, q_za, q_zga, q_fza, q_fx, q_fga, q_gza, q_gfa, q_gx, q_zf1, q_zg1, q_ff, q_fg1, q_gf1, q_gg, ti_link, in1000, in200, in2200, in2400], ?_⟩
        intro S27 eS27
        have bS27 : NB Sl0 S27 := NB_f eS27 (by decide)
        have pS27_ := RF_pop eS27 rf (by (try clear hF hJ iI0 w0 rf rb fs bS27); (try clear hk0); grind [q_zz, q_za, q_zga, q_fza, q_fx, q_fga, q_gza, q_gfa, q_gx, q_zf1, q_zg1, q_ff, q_fg1, q_gf1, q_gg, ti_link, in1000, in200, in2200, in2400]) (by (try clear hF hJ iI0 w0 rf rb fs bS27); (try clear hk0); grind [q_zz, q_za, q_zga, q_fza, q_fx, q_fga, q_gza, q_gfa, q_gx, q_zf1, q_zg1, q_ff, q_fg1, q_gf1, q_gg, ti_link, in1000, in200, in2200, in2400]) (by (try clear hF hJ iI0 w0 rf rb fs bS27); (try clear hk0); grind [q_zz, q_za, q_zga, q_fza, q_fx, q_fga, q_gza, q_gfa, q_gx, q_zf1, q_zg1, q_ff, q_fg1, q_gf1, q_gg, ti_link, in1000, in200, in2200, in2400]) (FW_tt hF)
        have rS27 : RI hx cd nt nw ty P F S27 := ⟨_, W0_68 (t := Sl0.1 33) eS27 (by (try clear hF hJ iI0 w0 rf rb fs bS27 pS27_); (try clear hk0); grind [q_zz, q_za, q_zga, q_fza, q_fx, q_fga, q_gza, q_gfa, q_gx, q_zf1, q_zg1, q_ff, q_fg1, q_gf1, q_gg, ti_link, in1000, in200, in2200, in2400]) rb.1.2.2.1 w0, pS27_.1, RB_st _ (RB_fw eS27 (by decide) rb) rfl, by
              have q9 := pS27_.2
              omega⟩
        refine ⟨by (try clear hF hJ iI0 w0 rf rb fs bS27 pS27_ rS27); (try clear hk0); grind [q_zz, q_za, q_zga, q_fza, q_fx, q_fga, q_gza, q_gfa, q_gx, q_zf1, q_zg1, q_ff, q_fg1, q_gf1, q_gg, ti_link, in1000, in200, in2200, in2400], ?_⟩
        intro z28 ez28
        refine ⟨fun c5 => ?_, fun c5 => ?_⟩
        · unfold wp_raise_160
          exact hk0 _ (⟨by (try clear hF hJ iI0 w0 rf rb fs bS27 pS27_ rS27); (try clear hk0); grind [q_zz, q_za, q_zga, q_fza, q_fx, q_fga, q_gza, q_gfa, q_gx, q_zf1, q_zg1, q_ff, q_fg1, q_gf1, q_gg, ti_link, in1000, in200, in2200, in2400], by (try clear hk0); grind [→ W0_nw, → RF_nf, → RB_nb, ti_link]⟩) (by (try clear hF hJ iI0 w0 rf rb fs bS27 pS27_ rS27); (try clear hk0); grind [q_zz, q_za, q_zga, q_fza, q_fx, q_fga, q_gza, q_gfa, q_gx, q_zf1, q_zg1, q_ff, q_fg1, q_gf1, q_gg, ti_link, in1000, in200, in2200, in2400])
        · refine ⟨by (try clear hF hJ iI0 w0 rf rb fs bS27 pS27_ rS27); (try clear hk0); grind [q_zz, q_za, q_zga, q_fza, q_fx, q_fga, q_gza, q_gfa, q_gx, q_zf1, q_zg1, q_ff, q_fg1, q_gf1, q_gg, ti_link, in1000, in200, in2200, in2400], ?_⟩
          intro z30 ez30
          refine ⟨fun c6 => ?_, fun c6 => ?_⟩
          · unfold wp_raise_160
            exact hk0 _ (⟨by (try clear hF hJ iI0 w0 rf rb fs bS27 pS27_ rS27); (try clear hk0); grind [q_zz, q_za, q_zga, q_fza, q_fx, q_fga, q_gza, q_gfa, q_gx, q_zf1, q_zg1, q_ff, q_fg1, q_gf1, q_gg, ti_link, in1000, in200, in2200, in2400], by (try clear hk0); grind [→ W0_nw, → RF_nf, → RB_nb, ti_link]⟩) (by (try clear hF hJ iI0 w0 rf rb fs bS27 pS27_ rS27); (try clear hk0); grind [q_zz, q_za, q_zga, q_fza, q_fx, q_fga, q_gza, q_gfa, q_gx, q_zf1, q_zg1, q_ff, q_fg1, q_gf1, q_gg, ti_link, in1000, in200, in2200, in2400])
          · refine fm_raiseCancel _ _ _ (fun S32 hF7 pS32 => ?_) (sg_raiseCancel (hx := hx) (cd := cd) (nt := nt) (nw := nw) (na := na) (ty := ty) (P := P) (F := F) (by (try clear hF hJ iI0 w0 rf rb fs bS27 pS27_ rS27); (try clear hk0); grind [q_zz, q_za, q_zga, q_fza, q_fx, q_fga, q_gza, q_gfa, q_gx, q_zf1, q_zg1, q_ff, q_fg1, q_gf1, q_gg, ti_link, in1000, in200, in2200, in2400]) (by (try clear hF hJ iI0 w0 rf rb fs bS27 pS27_ rS27); (try clear hk0); grind [q_zz, q_za, q_zga, q_fza, q_fx, q_fga, q_gza, q_gfa, q_gx, q_zf1, q_zg1, q_ff, q_fg1, q_gf1, q_gg, ti_link, in1000, in200, in2200, in2400]) (by (try clear hk0); grind [→ W0_nw, → RF_nf, → RB_nb, ti_link]) (by (try clear hk0); grind [→ W0_nw, → RF_nf, → RB_nb, ti_link]))
            obtain ⟨pS32, qS32⟩ := pS32
            have z33_S32 := hF7.1 33 (by decide)
            clear hF7
            have o32 : OUT hx cd nt nw ty P (F - 1) S32 := qS32
            exact ⟨by (try clear hF hJ iI0 w0 rf rb fs bS27 pS27_ rS27 qS32 o32); (try clear hk0); grind [q_zz, q_za, q_zga, q_fza, q_fx, q_fga, q_gza, q_gfa, q_gx, q_zf1, q_zg1, q_ff, q_fg1, q_gf1, q_gg, ti_link, in1000, in200, in2200, in2400], by (try clear hk0); grind [→ W0_nw, → RF_nf, → RB_nb, ti_link]⟩
      · refine ⟨by (try clear hF hJ iI0 w0 rf rb fs); (try clear hk0); grind [q_zz, q_za, q_zga, q_fza, q_fx, q_fga, q_gza, q_gfa, q_gx, q_zf1, q_zg1, q_ff, q_fg1, q_gf1, q_gg, ti_link, in1000, in200, in2200, in2400], ?_⟩
        intro z22 ez22
        have hh7 : z22 = (Sl0.2.1 29) (ix tr) := by (try clear hF hJ iI0 w0 rf rb fs); (try clear hk0); grind [q_zz, q_za, q_zga, q_fza, q_fx, q_fga, q_gza, q_gfa, q_gx, q_zf1, q_zg1, q_ff, q_fg1, q_gf1, q_gg, ti_link, in1000, in200, in2200, in2400]
        have hl7 : FRL hx nw ((P.2.1 25)) ((P.2.1 40)) 2 1 x1 ((P.2.1 25) (ix tr)) := ⟨Or.inr (Or.inr rfl), Or.inr (Or.inl rfl)⟩
        refine ⟨fun c8 => ?_, fun c8 => ?_⟩
        · unfold wp_raise_122
          refine ⟨by (try clear hF hJ iI0 w0 rf rb fs hh7 hl7); (try clear hk0); grind [q_zz, q_za, q_zga, q_fza, q_fx, q_fga, q_gza, q_gfa, q_gx, q_zf1, q_zg1, q_ff, q_fg1, q_gf1, q_gg, ti_link, in1000, in200, in2200, in2400], ?_⟩
          intro z25 ez25
          intro z26 ez26
          refine ⟨by (try clear hF hJ iI0 w0 rf rb fs hh7 hl7); (try clear hk0); grind [q_zz, q_za, q_zga, q_fza, q_fx, q_fga, q_gza, q_gfa, q_gx, q_zf1, q_zg1, q_ff, q_fg1, q_gf1, q_gg, ti_link, in1000, in200, in2200, in2400], ?_⟩
          intro S27 eS27
          have bS27 : NB Sl0 S27 := NB_f eS27 (by decide)
          have pS27_ := RF_pop eS27 rf (by (try clear hF hJ iI0 w0 rf rb fs hh7 hl7 bS27); (try clear hk0); grind [q_zz, q_za, q_zga, q_fza, q_fx, q_fga, q_gza, q_gfa, q_gx, q_zf1, q_zg1, q_ff, q_fg1, q_gf1, q_gg, ti_link, in1000, in200, in2200, in2400]) (by (try clear hF hJ iI0 w0 rf rb fs hh7 hl7 bS27); (try clear hk0); grind [q_zz, q_za, q_zga, q_fza, q_fx, q_fga, q_gza, q_gfa, q_gx, q_zf1, q_zg1, q_ff, q_fg1, q_gf1, q_gg, ti_link, in1000, in200, in2200, in2400]) (by (try clear hF hJ iI0 w0 rf rb fs hh7 hl7 bS27); (try clear hk0); grind [q_zz, q_za, q_zga, q_fza, q_fx, q_fga, q_gza, q_gfa, q_gx, q_zf1, q_zg1, q_ff, q_fg1, q_gf1, q_gg, ti_link, in1000, in200, in2200, in2400]) (FW_tt hF)
          have rS27 : RI hx cd nt nw ty P F S27 := ⟨_, W0_68 (t := Sl0.1 33) eS27 (by (try clear hF hJ iI0 w0 rf rb fs hh7 hl7 bS27 pS27_); (try clear hk0); grind [q_zz, q_za, q_zga, q_fza, q_fx, q_fga, q_gza, q_gfa, q_gx, q_zf1, q_zg1, q_ff, q_fg1, q_gf1, q_gg, ti_link, in1000, in200, in2200, in2400]) rb.1.2.2.1 w0, pS27_.1, RB_st _ (RB_fw eS27 (by decide) rb) rfl, by
                have q9 := pS27_.2
                omega⟩
          refine ⟨by (try clear hF hJ iI0 w0 rf rb fs hh7 hl7 bS27 pS27_ rS27); (try clear hk0); grind [q_zz, q_za, q_zga, q_fza, q_fx, q_fga, q_gza, q_gfa, q_gx, q_zf1, q_zg1, q_ff, q_fg1, q_gf1, q_gg, ti_link, in1000, in200, in2200, in2400], ?_⟩
          intro z28 ez28
          refine ⟨fun c9 => ?_, fun c9 => ?_⟩
          · unfold wp_raise_160
            exact hk0 _ (⟨by (try clear hF hJ iI0 w0 rf rb fs hh7 hl7 bS27 pS27_ rS27); (try clear hk0); grind [q_zz, q_za, q_zga, q_fza, q_fx, q_fga, q_gza, q_gfa, q_gx, q_zf1, q_zg1, q_ff, q_fg1, q_gf1, q_gg, ti_link, in1000, in200, in2200, in2400], by (try clear hk0); grind [→ W0_nw, → RF_nf, → RB_nb, ti_link]⟩) (by (try clear hF hJ iI0 w0 rf rb fs hh7 hl7 bS27 pS27_ rS27); (try clear hk0); grind [q_zz, q_za, q_zga, q_fza, q_fx, q_fga, q_gza, q_gfa, q_gx, q_zf1, q_zg1, q_ff, q_fg1, q_gf1, q_gg, ti_link, in1000, in200, in2200, in2400])
          · refine ⟨by (try clear hF hJ iI0 w0 rf rb fs hh7 hl7 bS27 pS27_ rS27); (try clear hk0); grind [q_zz, q_za, q_zga, q_fza, q_fx, q_fga, q_gza, q_gfa, q_gx, q_zf1, q_zg1, q_ff, q_fg1, q_gf1, q_gg, ti_link, in1000, in200, in2200, in2400], ?_⟩
            intro z30 ez30
            refine ⟨fun c10 => ?_, fun c10 => ?_⟩
            · unfold wp_raise_160
              exact hk0 _ (⟨by (try clear hF hJ iI0 w0 rf rb fs hh7 hl7 bS27 pS27_ rS27); (try clear hk0); grind [q_zz, q_za, q_zga, q_fza, q_fx, q_fga, q_gza, q_gfa, q_gx, q_zf1, q_zg1, q_ff, q_fg1, q_gf1, q_gg, ti_link, in1000, in200, in2200, in2400], by (try clear hk0); grind [→ W0_nw, → RF_nf, → RB_nb, ti_link]⟩) (by (try clear hF hJ iI0 w0 rf rb fs hh7 hl7 bS27 pS27_ rS27); (try clear hk0); grind [q_zz, q_za, q_zga, q_fza, q_fx, q_fga, q_gza, q_gfa, q_gx, q_zf1, q_zg1, q_ff, q_fg1, q_gf1, q_gg, ti_link, in1000, in200, in2200, in2400])
            · refine fm_raiseCancel _ _ _ (fun S32 hF11 pS32 => ?_) (sg_raiseCancel (hx := hx) (cd := cd) (nt := nt) (nw := nw) (na := na) (ty := ty) (P := P) (F := F) (by (try clear hF hJ iI0 w0 rf rb fs hh7 hl7 bS27 pS27_ rS27); (try clear hk0); grind [q_zz, q_za, q_zga, q_fza, q_fx, q_fga, q_gza, q_gfa, q_gx, q_zf1, q_zg1, q_ff, q_fg1, q_gf1, q_gg, ti_link, in1000, in200, in2200, in2400]) (by (try clear hF hJ iI0 w0 rf rb fs hh7 hl7 bS27 pS27_ rS27); (try clear hk0); grind [q_zz, q_za, q_zga, q_fza, q_fx, q_fga, q_gza, q_gfa, q_gx, q_zf1, q_zg1, q_ff, q_fg1, q_gf1, q_gg, ti_link, in1000, in200, in2200, in2400]) (by (try clear hk0); grind [→ W0_nw, → RF_nf, → RB_nb, ti_link]) (by (try clear hk0); grind [→ W0_nw, → RF_nf, → RB_nb, ti_link]))
              obtain ⟨pS32, qS32⟩ := pS32
              have z33_S32 := hF11.1 33 (by decide)
              clear hF11
              have o32 : OUT hx cd nt nw ty P (F - 1) S32 := qS32
              exact ⟨by (try clear hF hJ iI0 w0 rf rb fs hh7 hl7 bS27 pS27_ rS27 qS32 o32); (try clear hk0); grind [q_zz, q_za, q_zga, q_fza, q_fx, q_fga, q_gza, q_gfa, q_gx, q_zf1, q_zg1, q_ff, q_fg1, q_gf1, q_gg, ti_link, in1000, in200, in2200, in2400], by (try clear hk0); grind [→ W0_nw, → RF_nf, → RB_nb, ti_link]⟩
        · refine fm_toFinish _ _ _ _ _ _ (fun S24 hF12 pS24 => ?_) (sg_toFinish (hx := hx) (cd := cd) (nt := nt) (nw := nw) (na := na) (ty := ty) (P := P) (tr := tr) _ _ _ (by (try clear hF hJ iI0 w0 rf rb fs hh7 hl7); (try clear hk0); grind [q_zz, q_za, q_zga, q_fza, q_fx, q_fga, q_gza, q_gfa, q_gx, q_zf1, q_zg1, q_ff, q_fg1, q_gf1, q_gg, ti_link, in1000, in200, in2200, in2400]) (by (try clear hF hJ iI0 w0 rf rb fs hh7 hl7); (try clear hk0); grind [q_zz, q_za, q_zga, q_fza, q_fx, q_fga, q_gza, q_gfa, q_gx, q_zf1, q_zg1, q_ff, q_fg1, q_gf1, q_gg, ti_link, in1000, in200, in2200, in2400]) (by (try clear hF hJ iI0 w0 rf rb fs hh7 hl7); (try clear hk0); grind [q_zz, q_za, q_zga, q_fza, q_fx, q_fga, q_gza, q_gfa, q_gx, q_zf1, q_zg1, q_ff, q_fg1, q_gf1, q_gg, ti_link, in1000, in200, in2200, in2400]) (by (try clear hk0); grind [→ W0_nw, → RF_nf, → RB_nb, ti_link]) (by (try clear hk0); grind [→ W0_nw, → RF_nf, → RB_nb, ti_link]) (by (try clear hk0); grind [→ W0_nw, → RF_nf, → RB_nb, ti_link]) (by (try clear hk0); grind [→ W0_nw, → RF_nf, → RB_nb, ti_link]) (by (try clear hk0); grind [→ W0_nw, → RF_nf, → RB_nb, ti_link]) (by (try clear hk0); grind [→ W0_nw, → RF_nf, → RB_nb, ti_link]))
          obtain ⟨pS24, qS24⟩ := pS24
          have bS24 : NB Sl0 S24 := NB_fr hF12 (by decide) (by decide)
          have z33_S24 := hF12.1 33 (by decide)
          clear hF12
          have oS24 : OUT hx cd nt nw ty P (F - 1) S24 := Or.inr ⟨_, qS24.1, qS24.2.1, qS24.2.2.1, qS24.2.2.2.1, by
                have q9 := qS24.2.2.2.2.1
                have q8 : ((Sl0.2.1 70) (ix z7)).toInt ≤ 1 := by (try clear hF hJ iI0 w0 rf rb fs hh7 hl7 qS24 bS24); (try clear hk0); grind [q_zz, q_za, q_zga, q_fza, q_fx, q_fga, q_gza, q_gfa, q_gx, q_zf1, q_zg1, q_ff, q_fg1, q_gf1, q_gg, ti_link, in1000, in200, in2200, in2400]
                omega⟩
          exact ⟨by (try clear hF hJ iI0 w0 rf rb fs hh7 hl7 qS24 bS24 oS24); (try clear hk0); grind [q_zz, q_za, q_zga, q_fza, q_fx, q_fga, q_gza, q_gfa, q_gx, q_zf1, q_zg1, q_ff, q_fg1, q_gf1, q_gg, ti_link, in1000, in200, in2200, in2400], by (try clear hk0); grind [→ W0_nw, → RF_nf, → RB_nb, ti_link]⟩
    · refine ⟨by (try clear hF hJ iI0 w0 rf rb fs); (try clear hk0); grind [q_zz, q_za, q_zga, q_fza, q_fx, q_fga, q_gza, q_gfa, q_gx, q_zf1, q_zg1, q_ff, q_fg1, q_gf1, q_gg, ti_link, in1000, in200, in2200, in2400], ?_⟩
      intro z11 ez11
      have hn7 : z11 = (Sl0.2.1 28) (ix tr) := by (try clear hF hJ iI0 w0 rf rb fs); (try clear hk0); grind [q_zz, q_za, q_zga, q_fza, q_fx, q_fga, q_gza, q_gfa, q_gx, q_zf1, q_zg1, q_ff, q_fg1, q_gf1, q_gg, ti_link, in1000, in200, in2200, in2400]
      refine ⟨fun c13 => ?_, fun c13 => ?_⟩
      · unfold wp_raise_95
        refine ⟨by (try clear hF hJ iI0 w0 rf rb fs hn7); (try clear hk0); grind [q_zz, q_za, q_zga, q_fza, q_fx, q_fga, q_gza, q_gfa, q_gx, q_zf1, q_zg1, q_ff, q_fg1, q_gf1, q_gg, ti_link, in1000, in200, in2200, in2400], ?_⟩
        intro z20 ez20
        refine ⟨fun c14 => ?_, fun c14 => ?_⟩
        · unfold wp_raise_122
          refine ⟨by (try clear hF hJ iI0 w0 rf rb fs hn7); (try clear hk0); grind [q_zz, q_za, q_zga, q_fza, q_fx, q_fga, q_gza, q_gfa, q_gx, q_zf1, q_zg1, q_ff, q_fg1, q_gf1, q_gg, ti_link, in1000, in200, in2200, in2400], ?_⟩
          intro z25 ez25
          intro z26 ez26
          refine ⟨by (try clear hF hJ iI0 w0 rf rb fs hn7); (try clear hk0); grind [q_zz, q_za, q_zga, q_fza, q_fx, q_fga, q_gza, q_gfa, q_gx, q_zf1, q_zg1, q_ff, q_fg1, q_gf1, q_gg, ti_link, in1000, in200, in2200, in2400], ?_⟩
          intro S27 eS27
          have bS27 : NB Sl0 S27 := NB_f eS27 (by decide)
          have pS27_ := RF_pop eS27 rf (by (try clear hF hJ iI0 w0 rf rb fs hn7 bS27); (try clear hk0); grind [q_zz, q_za, q_zga, q_fza, q_fx, q_fga, q_gza, q_gfa, q_gx, q_zf1, q_zg1, q_ff, q_fg1, q_gf1, q_gg, ti_link, in1000, in200, in2200, in2400]) (by (try clear hF hJ iI0 w0 rf rb fs hn7 bS27); (try clear hk0); grind [q_zz, q_za, q_zga, q_fza, q_fx, q_fga, q_gza, q_gfa, q_gx, q_zf1, q_zg1, q_ff, q_fg1, q_gf1, q_gg, ti_link, in1000, in200, in2200, in2400]) (by (try clear hF hJ iI0 w0 rf rb fs hn7 bS27); (try clear hk0); grind [q_zz, q_za, q_zga, q_fza, q_fx, q_fga, q_gza, q_gfa, q_gx, q_zf1, q_zg1, q_ff, q_fg1, q_gf1, q_gg, ti_link, in1000, in200, in2200, in2400]) (FW_tt hF)
          have rS27 : RI hx cd nt nw ty P F S27 := ⟨_, W0_68 (t := Sl0.1 33) eS27 (by (try clear hF hJ iI0 w0 rf rb fs hn7 bS27 pS27_); (try clear hk0); grind [q_zz, q_za, q_zga, q_fza, q_fx, q_fga, q_gza, q_gfa, q_gx, q_zf1, q_zg1, q_ff, q_fg1, q_gf1, q_gg, ti_link, in1000, in200, in2200, in2400]) rb.1.2.2.1 w0, pS27_.1, RB_st _ (RB_fw eS27 (by decide) rb) rfl, by
                have q9 := pS27_.2
                omega⟩
          refine ⟨by (try clear hF hJ iI0 w0 rf rb fs hn7 bS27 pS27_ rS27); (try clear hk0); grind [q_zz, q_za, q_zga, q_fza, q_fx, q_fga, q_gza, q_gfa, q_gx, q_zf1, q_zg1, q_ff, q_fg1, q_gf1, q_gg, ti_link, in1000, in200, in2200, in2400], ?_⟩
          intro z28 ez28
          refine ⟨fun c15 => ?_, fun c15 => ?_⟩
          · unfold wp_raise_160
            exact hk0 _ (⟨by (try clear hF hJ iI0 w0 rf rb fs hn7 bS27 pS27_ rS27); (try clear hk0); grind [q_zz, q_za, q_zga, q_fza, q_fx, q_fga, q_gza, q_gfa, q_gx, q_zf1, q_zg1, q_ff, q_fg1, q_gf1, q_gg, ti_link, in1000, in200, in2200, in2400], by (try clear hk0); grind [→ W0_nw, → RF_nf, → RB_nb, ti_link]⟩) (by (try clear hF hJ iI0 w0 rf rb fs hn7 bS27 pS27_ rS27); (try clear hk0); grind [q_zz, q_za, q_zga, q_fza, q_fx, q_fga, q_gza, q_gfa, q_gx, q_zf1, q_zg1, q_ff, q_fg1, q_gf1, q_gg, ti_link, in1000, in200, in2200, in2400])
          · refine ⟨by (try clear hF hJ iI0 w0 rf rb fs hn7 bS27 pS27_ rS27); (try clear hk0); grind [q_zz, q_za, q_zga, q_fza, q_fx, q_fga, q_gza, q_gfa, q_gx, q_zf1, q_zg1, q_ff, q_fg1, q_gf1, q_gg, ti_link, in1000, in200, in2200, in2400], ?_⟩
            intro z30 ez30
            refine ⟨fun c16 => ?_, fun c16 => ?_⟩
            · unfold wp_raise_160
              exact hk0 _ (⟨by (try clear hF hJ iI0 w0 rf rb fs hn7 bS27 pS27_ rS27); (try clear hk0); grind [q_zz, q_za, q_zga, q_fza, q_fx, q_fga, q_gza, q_gfa, q_gx, q_zf1, q_zg1, q_ff, q_fg1, q_gf1, q_gg, ti_link, in1000, in200, in2200, in2400], by (try clear hk0); grind [→ W0_nw, → RF_nf, → RB_nb, ti_link]⟩) (by (try clear hF hJ iI0 w0 rf rb fs hn7 bS27 pS27_ rS27); (try clear hk0); grind [q_zz, q_za, q_zga, q_fza, q_fx, q_fga, q_gza, q_gfa, q_gx, q_zf1, q_zg1, q_ff, q_fg1, q_gf1, q_gg, ti_link, in1000, in200, in2200, in2400])
            · refine fm_raiseCancel _ _ _ (fun S32 hF17 pS32 => ?_) (sg_raiseCancel (hx := hx) (cd := cd) (nt := nt) (nw := nw) (na := na) (ty := ty) (P := P) (F := F) (by (try clear hF hJ iI0 w0 rf rb fs hn7 bS27 pS27_ rS27); (try clear hk0); grind [q_zz, q_za, q_zga, q_fza, q_fx, q_fga, q_gza, q_gfa, q_gx, q_zf1, q_zg1, q_ff, q_fg1, q_gf1, q_gg, ti_link, in1000, in200, in2200, in2400]) (by (try clear hF hJ iI0 w0 rf rb fs hn7 bS27 pS27_ rS27); (try clear hk0); grind [q_zz, q_za, q_zga, q_fza, q_fx, q_fga, q_gza, q_gfa, q_gx, q_zf1, q_zg1, q_ff, q_fg1, q_gf1, q_gg, ti_link, in1000, in200, in2200, in2400]) (by (try clear hk0); grind [→ W0_nw, → RF_nf, → RB_nb, ti_link]) (by (try clear hk0); grind [→ W0_nw, → RF_nf, → RB_nb, ti_link]))
              obtain ⟨pS32, qS32⟩ := pS32
              have z33_S32 := hF17.1 33 (by decide)
              clear hF17
              have o32 : OUT hx cd nt nw ty P (F - 1) S32 := qS32
              exact ⟨by (try clear hF hJ iI0 w0 rf rb fs hn7 bS27 pS27_ rS27 qS32 o32); (try clear hk0); grind [q_zz, q_za, q_zga, q_fza, q_fx, q_fga, q_gza, q_gfa, q_gx, q_zf1, q_zg1, q_ff, q_fg1, q_gf1, q_gg, ti_link, in1000, in200, in2200, in2400], by (try clear hk0); grind [→ W0_nw, → RF_nf, → RB_nb, ti_link]⟩
        · refine ⟨by (try clear hF hJ iI0 w0 rf rb fs hn7); (try clear hk0); grind [q_zz, q_za, q_zga, q_fza, q_fx, q_fga, q_gza, q_gfa, q_gx, q_zf1, q_zg1, q_ff, q_fg1, q_gf1, q_gg, ti_link, in1000, in200, in2200, in2400], ?_⟩
          intro z22 ez22
          have hh7 : z22 = (Sl0.2.1 29) (ix tr) := by (try clear hF hJ iI0 w0 rf rb fs hn7); (try clear hk0); grind [q_zz, q_za, q_zga, q_fza, q_fx, q_fga, q_gza, q_gfa, q_gx, q_zf1, q_zg1, q_ff, q_fg1, q_gf1, q_gg, ti_link, in1000, in200, in2200, in2400]
          have hl7 : FRL hx nw ((P.2.1 25)) ((P.2.1 40)) 2 1 x1 ((P.2.1 25) (ix tr)) := ⟨Or.inr (Or.inr rfl), Or.inr (Or.inl rfl)⟩
          refine ⟨fun c18 => ?_, fun c18 => ?_⟩
          · unfold wp_raise_122
            refine ⟨by (try clear hF hJ iI0 w0 rf rb fs hn7 hh7 hl7); (try clear hk0); grind [q_zz, q_za, q_zga, q_fza, q_fx, q_fga, q_gza, q_gfa, q_gx, q_zf1, q_zg1, q_ff, q_fg1, q_gf1, q_gg, ti_link, in1000, in200, in2200, in2400], ?_⟩
            intro z25 ez25
            intro z26 ez26
            refine ⟨by (try clear hF hJ iI0 w0 rf rb fs hn7 hh7 hl7); (try clear hk0); grind [q_zz, q_za, q_zga, q_fza, q_fx, q_fga, q_gza, q_gfa, q_gx, q_zf1, q_zg1, q_ff, q_fg1, q_gf1, q_gg, ti_link, in1000, in200, in2200, in2400], ?_⟩
            intro S27 eS27
            have bS27 : NB Sl0 S27 := NB_f eS27 (by decide)
            have pS27_ := RF_pop eS27 rf (by (try clear hF hJ iI0 w0 rf rb fs hn7 hh7 hl7 bS27); (try clear hk0); grind [q_zz, q_za, q_zga, q_fza, q_fx, q_fga, q_gza, q_gfa, q_gx, q_zf1, q_zg1, q_ff, q_fg1, q_gf1, q_gg, ti_link, in1000, in200, in2200, in2400]) (by (try clear hF hJ iI0 w0 rf rb fs hn7 hh7 hl7 bS27); (try clear hk0); grind [q_zz, q_za, q_zga, q_fza, q_fx, q_fga, q_gza, q_gfa, q_gx, q_zf1, q_zg1, q_ff, q_fg1, q_gf1, q_gg, ti_link, in1000, in200, in2200, in2400]) (by (try clear hF hJ iI0 w0 rf rb fs hn7 hh7 hl7 bS27); (try clear hk0); grind [q_zz, q_za, q_zga, q_fza, q_fx, q_fga, q_gza, q_gfa, q_gx, q_zf1, q_zg1, q_ff, q_fg1, q_gf1, q_gg, ti_link, in1000, in200, in2200, in2400]) (FW_tt hF)
            have rS27 : RI hx cd nt nw ty P F S27 := ⟨_, W0_68 (t := Sl0.1 33) eS27 (by (try clear hF hJ iI0 w0 rf rb fs hn7 hh7 hl7 bS27 pS27_); (try clear hk0); grind [q_zz, q_za, q_zga, q_fza, q_fx, q_fga, q_gza, q_gfa, q_gx, q_zf1, q_zg1, q_ff, q_fg1, q_gf1, q_gg, ti_link, in1000, in200, in2200, in2400]) rb.1.2.2.1 w0, pS27_.1, RB_st _ (RB_fw eS27 (by decide) rb) rfl, by
                  have q9 := pS27_.2
                  omega⟩
            refine ⟨by (try clear hF hJ iI0 w0 rf rb fs hn7 hh7 hl7 bS27 pS27_ rS27); (try clear hk0); grind [q_zz, q_za, q_zga, q_fza, q_fx, q_fga, q_gza, q_gfa, q_gx, q_zf1, q_zg1, q_ff, q_fg1, q_gf1, q_gg, ti_link, in1000, in200, in2200, in2400], ?_⟩
            intro z28 ez28
            refine ⟨fun c19 => ?_, fun c19 => ?_⟩
            · unfold wp_raise_160
              exact hk0 _ (⟨by (try clear hF hJ iI0 w0 rf rb fs hn7 hh7 hl7 bS27 pS27_ rS27); (try clear hk0); grind [q_zz, q_za, q_zga, q_fza, q_fx, q_fga, q_gza, q_gfa, q_gx, q_zf1, q_zg1, q_ff, q_fg1, q_gf1, q_gg, ti_link, in1000, in200, in2200, in2400], by (try clear hk0); grind [→ W0_nw, → RF_nf, → RB_nb, ti_link]⟩) (by (try clear hF hJ iI0 w0 rf rb fs hn7 hh7 hl7 bS27 pS27_ rS27); (try clear hk0); grind [q_zz, q_za, q_zga, q_fza, q_fx, q_fga, q_gza, q_gfa, q_gx, q_zf1, q_zg1, q_ff, q_fg1, q_gf1, q_gg, ti_link, in1000, in200, in2200, in2400])
            · refine ⟨by (try clear hF hJ iI0 w0 rf rb fs hn7 hh7 hl7 bS27 pS27_ rS27); (try clear hk0); grind [q_zz, q_za, q_zga, q_fza, q_fx, q_fga, q_gza, q_gfa, q_gx, q_zf1, q_zg1, q_ff, q_fg1, q_gf1, q_gg, ti_link, in1000, in200, in2200, in2400], ?_⟩
              intro z30 ez30
              refine ⟨fun c20 => ?_, fun c20 => ?_⟩
              · unfold wp_raise_160
                exact hk0 _ (⟨by (try clear hF hJ iI0 w0 rf rb fs hn7 hh7 hl7 bS27 pS27_ rS27); (try clear hk0); grind [q_zz, q_za, q_zga, q_fza, q_fx, q_fga, q_gza, q_gfa, q_gx, q_zf1, q_zg1, q_ff, q_fg1, q_gf1, q_gg, ti_link, in1000, in200, in2200, in2400], by (try clear hk0); grind [→ W0_nw, → RF_nf, → RB_nb, ti_link]⟩) (by (try clear hF hJ iI0 w0 rf rb fs hn7 hh7 hl7 bS27 pS27_ rS27); (try clear hk0); grind [q_zz, q_za, q_zga, q_fza, q_fx, q_fga, q_gza, q_gfa, q_gx, q_zf1, q_zg1, q_ff, q_fg1, q_gf1, q_gg, ti_link, in1000, in200, in2200, in2400])
              · refine fm_raiseCancel _ _ _ (fun S32 hF21 pS32 => ?_) (sg_raiseCancel (hx := hx) (cd := cd) (nt := nt) (nw := nw) (na := na) (ty := ty) (P := P) (F := F) (by (try clear hF hJ iI0 w0 rf rb fs hn7 hh7 hl7 bS27 pS27_ rS27); (try clear hk0); grind [q_zz, q_za, q_zga, q_fza, q_fx, q_fga, q_gza, q_gfa, q_gx, q_zf1, q_zg1, q_ff, q_fg1, q_gf1, q_gg, ti_link, in1000, in200, in2200, in2400]) (by (try clear hF hJ iI0 w0 rf rb fs hn7 hh7 hl7 bS27 pS27_ rS27); (try clear hk0); grind [q_zz, q_za, q_zga, q_fza, q_fx, q_fga, q_gza, q_gfa, q_gx, q_zf1, q_zg1, q_ff, q_fg1, q_gf1, q_gg, ti_link, in1000, in200, in2200, in2400]) (by (try clear hk0); grind [→ W0_nw, → RF_nf, → RB_nb, ti_link]) (by (try clear hk0); grind [→ W0_nw, → RF_nf, → RB_nb, ti_link]))
                obtain ⟨pS32, qS32⟩ := pS32
                have z33_S32 := hF21.1 33 (by decide)
                clear hF21
                have o32 : OUT hx cd nt nw ty P (F - 1) S32 := qS32
                exact ⟨by (try clear hF hJ iI0 w0 rf rb fs hn7 hh7 hl7 bS27 pS27_ rS27 qS32 o32); (try clear hk0); grind [q_zz, q_za, q_zga, q_fza, q_fx, q_fga, q_gza, q_gfa, q_gx, q_zf1, q_zg1, q_ff, q_fg1, q_gf1, q_gg, ti_link, in1000, in200, in2200, in2400], by (try clear hk0); grind [→ W0_nw, → RF_nf, → RB_nb, ti_link]⟩
          · refine fm_toFinish _ _ _ _ _ _ (fun S24 hF22 pS24 => ?_) (sg_toFinish (hx := hx) (cd := cd) (nt := nt) (nw := nw) (na := na) (ty := ty) (P := P) (tr := tr) _ _ _ (by (try clear hF hJ iI0 w0 rf rb fs hn7 hh7 hl7); (try clear hk0); grind [q_zz, q_za, q_zga, q_fza, q_fx, q_fga, q_gza, q_gfa, q_gx, q_zf1, q_zg1, q_ff, q_fg1, q_gf1, q_gg, ti_link, in1000, in200, in2200, in2400]) (by (try clear hF hJ iI0 w0 rf rb fs hn7 hh7 hl7); (try clear hk0); grind [q_zz, q_za, q_zga, q_fza, q_fx, q_fga, q_gza, q_gfa, q_gx, q_zf1, q_zg1, q_ff, q_fg1, q_gf1, q_gg, ti_link, in1000, in200, in2200, in2400]) (by (try clear hF hJ iI0 w0 rf rb fs hn7 hh7 hl7); (try clear hk0); grind [q_zz, q_za, q_zga, q_fza, q_fx, q_fga, q_gza, q_gfa, q_gx, q_zf1, q_zg1, q_ff, q_fg1, q_gf1, q_gg, ti_link, in1000, in200, in2200, in2400]) (by (try clear hk0); grind [→ W0_nw, → RF_nf, → RB_nb, ti_link]) (by (try clear hk0); grind [→ W0_nw, → RF_nf, → RB_nb, ti_link]) (by (try clear hk0); grind [→ W0_nw, → RF_nf, → RB_nb, ti_link]) (by (try clear hk0); grind [→ W0_nw, → RF_nf, → RB_nb, ti_link]) (by (try clear hk0); grind [→ W0_nw, → RF_nf, → RB_nb, ti_link]) (by (try clear hk0); grind [→ W0_nw, → RF_nf, → RB_nb, ti_link]))
            obtain ⟨pS24, qS24⟩ := pS24
            have bS24 : NB Sl0 S24 := NB_fr hF22 (by decide) (by decide)
            have z33_S24 := hF22.1 33 (by decide)
            clear hF22
            have oS24 : OUT hx cd nt nw ty P (F - 1) S24 := Or.inr ⟨_, qS24.1, qS24.2.1, qS24.2.2.1, qS24.2.2.2.1, by
                  have q9 := qS24.2.2.2.2.1
                  have q8 : ((Sl0.2.1 70) (ix z7)).toInt ≤ 1 := by (try clear hF hJ iI0 w0 rf rb fs hn7 hh7 hl7 qS24 bS24); (try clear hk0); grind [q_zz, q_za, q_zga, q_fza, q_fx, q_fga, q_gza, q_gfa, q_gx, q_zf1, q_zg1, q_ff, q_fg1, q_gf1, q_gg, ti_link, in1000, in200, in2200, in2400]
                  omega⟩
            exact ⟨by (try clear hF hJ iI0 w0 rf rb fs hn7 hh7 hl7 qS24 bS24 oS24); (try clear hk0); grind [q_zz, q_za, q_zga, q_fza, q_fx, q_fga, q_gza, q_gfa, q_gx, q_zf1, q_zg1, q_ff, q_fg1, q_gf1, q_gg, ti_link, in1000, in200, in2200, in2400], by (try clear hk0); grind [→ W0_nw, → RF_nf, → RB_nb, ti_link]⟩
      · refine ⟨by (try clear hF hJ iI0 w0 rf rb fs hn7); (try clear hk0); grind [q_zz, q_za, q_zga, q_fza, q_fx, q_fga, q_gza, q_gfa, q_gx, q_zf1, q_zg1, q_ff, q_fg1, q_gf1, q_gg, ti_link, in1000, in200, in2200, in2400], ?_⟩
        intro S13 eS13
        have bS13 : NB Sl0 S13 := NB_f eS13 (by decide)
        have  n13 := FW_on hF w0 g7.1 g7.2 (by rw [← hn7]; assumption)
        have  m13 : (S13.2.1 31) = (Sl0.2.1 31) ∧ (S13.2.1 30) = (Sl0.2.1 30) := by rw [eS13]; exact ⟨rfl, rfl⟩
        have ro := RF_on eS13 rf (by (try clear hF hJ iI0 w0 rf rb fs hn7 bS13); (try clear hk0); grind [q_zz, q_za, q_zga, q_fza, q_fx, q_fga, q_gza, q_gfa, q_gx, q_zf1, q_zg1, q_ff, q_fg1, q_gf1, q_gg, ti_link, in1000, in200, in2200, in2400]) (by (try clear hF hJ iI0 w0 rf rb fs hn7 bS13); (try clear hk0); grind [q_zz, q_za, q_zga, q_fza, q_fx, q_fga, q_gza, q_gfa, q_gx, q_zf1, q_zg1, q_ff, q_fg1, q_gf1, q_gg, ti_link, in1000, in200, in2200, in2400]) (by (try clear hF hJ iI0 w0 rf rb fs hn7 bS13); (try clear hk0); grind [q_zz, q_za, q_zga, q_fza, q_fx, q_fga, q_gza, q_gfa, q_gx, q_zf1, q_zg1, q_ff, q_fg1, q_gf1, q_gg, ti_link, in1000, in200, in2200, in2400])
        have w13 := W0_fw (t := Sl0.1 33) eS13 (by decide) (by (try clear hF hJ iI0 w0 rf rb fs hn7 bS13 ro); (try clear hk0); grind [q_zz, q_za, q_zga, q_fza, q_fx, q_fga, q_gza, q_gfa, q_gx, q_zf1, q_zg1, q_ff, q_fg1, q_gf1, q_gg, ti_link, in1000, in200, in2200, in2400]) rb.1.2.2.1 (by (try clear hF hJ iI0 w0 rf rb fs hn7 bS13 ro); (try clear hk0); grind [q_zz, q_za, q_zga, q_fza, q_fx, q_fga, q_gza, q_gfa, q_gx, q_zf1, q_zg1, q_ff, q_fg1, q_gf1, q_gg, ti_link, in1000, in200, in2200, in2400]) w0
        have b13 := RB_fw eS13 (by decide) rb
        intro z14 ez14
        refine ⟨by (try clear hF hJ iI0 w0 rf rb fs hn7 bS13 ro w13 b13); (try clear hk0); grind [q_zz, q_za, q_zga, q_fza, q_fx, q_fga, q_gza, q_gfa, q_gx, q_zf1, q_zg1, q_ff, q_fg1, q_gf1, q_gg, ti_link, in1000, in200, in2200, in2400], ?_⟩
        intro z15 ez15
        have  q15 : 0 ≤ z15.toInt ∧ z15.toInt < 12 := by
              rw [ez15, e7, m13.1]
              exact n13.2
        intro z16 ez16
        refine ⟨by (try clear hF hJ iI0 w0 rf rb fs hn7 bS13 ro w13 b13); (try clear hk0); grind [q_zz, q_za, q_zga, q_fza, q_fx, q_fga, q_gza, q_gfa, q_gx, q_zf1, q_zg1, q_ff, q_fg1, q_gf1, q_gg, ti_link, in1000, in200, in2200, in2400], ?_⟩
        intro S17 eS17
        have wS17 : NW S13 S17 := NW_f eS17 (by decide)
        have bS17 : NB S13 S17 := NB_f eS17 (by decide)
        have vS17 : NF S13 S17 := NF_f eS17 (by decide)
        refine ⟨by (try clear hF hJ iI0 w0 rf rb fs hn7 bS13 ro w13 b13 wS17 bS17 vS17); (try clear hk0); grind [q_zz, q_za, q_zga, q_fza, q_fx, q_fga, q_gza, q_gfa, q_gx, q_zf1, q_zg1, q_ff, q_fg1, q_gf1, q_gg, ti_link, in1000, in200, in2200, in2400], ?_⟩
        intro z18 ez18
        intro S19 eS19
        have wS19 : NW S17 S19 := NW_z eS19 (by decide)
        have bS19 : NB S17 S19 := NB_z eS19 (by decide)
        have vS19 : NF S17 S19 := NF_z eS19 (by decide)
        have p19 : S19.1 32 = (Sl0.2.1 30) (ix tr) := by
              rw [eS19]
              show z18 = _
              rw [ez18, eS17, eS13, e7]
              rfl
        have v19 : FS S19 = FS S13 := (FS_nf vS19).trans (FS_nf vS17)
        have o19 : OUT hx cd nt nw ty P (F - 1) S19 := Or.inr ⟨tr, W0_nw wS19 (W0_nw wS17 w13), RF_nf vS19 (RF_nf vS17 ro.1), RB_nb bS19 (RB_nb bS17 b13), by rw [p19]; exact n13.1, by
              have q9 := ro.2
              have q8 : ((Sl0.2.1 70) (ix z7)).toInt = 0 := by (try clear hF hJ iI0 w0 rf rb fs hn7 bS13 ro w13 b13 wS17 bS17 vS17 wS19 bS19 vS19 p19 v19); (try clear hk0); grind [q_zz, q_za, q_zga, q_fza, q_fx, q_fga, q_gza, q_gfa, q_gx, q_zf1, q_zg1, q_ff, q_fg1, q_gf1, q_gg, ti_link, in1000, in200, in2200, in2400]
              omega⟩
        exact ⟨by (try clear hF hJ iI0 w0 rf rb fs hn7 bS13 ro w13 b13 wS17 bS17 vS17 wS19 bS19 vS19 p19 v19 o19); (try clear hk0); grind [q_zz, q_za, q_zga, q_fza, q_fx, q_fga, q_gza, q_gfa, q_gx, q_zf1, q_zg1, q_ff, q_fg1, q_gf1, q_gg, ti_link, in1000, in200, in2200, in2400], by (try clear hk0); grind [→ W0_nw, → RF_nf, → RB_nb, ti_link]⟩
