
set_option maxHeartbeats 4000000 in
theorem sg_raiseCancel {hx : Nat} {cd nt nw na : Int} {ty : Nat → T6} {P : mS} {F : Int} {S : mS} (hx1 : hx ≤ 1) (hb : 0 ≤ (S.1 33).toInt ∧ (S.1 33).toInt < 200) (hF : FWt hx cd nt nw na ty P) (hJ : RI hx cd nt nw ty P F S) : wp_raiseCancel S (fun S1 => (True) ∧ (OUT hx cd nt nw ty P (F - 1) S1)) := by
  unfold wp_raiseCancel
  refine it_rule (fun u : mS => (0 ≤ (u.1 33).toInt ∧ (u.1 33).toInt < 200) ∧ (RI hx cd nt nw ty P F u)) (fun u => (((u.2.1 68) (ix (u.1 33))).toInt).toNat) ?_ (⟨by (try clear hF hJ); (try clear hk0); grind [q_zz, q_za, q_zga, q_fza, q_fx, q_fga, q_gza, q_gfa, q_gx, q_zf1, q_zg1, q_ff, q_fg1, q_gf1, q_gg, ti_link, in1000, in200, in2200], by (try clear hk0); grind [→ W0_nw, → RF_nf, → RB_nb, ti_link]⟩)
  rintro Sl0 k0 hI0 hk0
  replace hI0 : (0 ≤ (Sl0.1 33).toInt ∧ (Sl0.1 33).toInt < 200) ∧ (RI hx cd nt nw ty P F Sl0) := hI0
  replace hk0 : ∀ v : mS, (0 ≤ (v.1 33).toInt ∧ (v.1 33).toInt < 200) ∧ (RI hx cd nt nw ty P F v) → (((v.2.1 68) (ix (v.1 33))).toInt).toNat < (((Sl0.2.1 68) (ix (Sl0.1 33))).toInt).toNat → k0 v := hk0
  show wp_raiseCancel_0 _ k0  Sl0
  unfold wp_raiseCancel_0
  obtain ⟨hI0, iI0⟩ := hI0
  obtain ⟨tr, w0, rf, rb, fs⟩ := iI0
  have  fr9 := RF_b rf
  have  fb9 := FW_b hF
  refine ⟨by (try clear hF hJ iI0 w0 rf rb fs); (try clear hk0); grind [q_zz, q_za, q_zga, q_fza, q_fx, q_fga, q_gza, q_gfa, q_gx, q_zf1, q_zg1, q_ff, q_fg1, q_gf1, q_gg, ti_link, in1000, in200, in2200], ?_⟩
  intro z1 ez1
  refine ⟨fun c1 => ?_, fun c1 => ?_⟩
  · refine fq_ends _ _ _ _ _ _ (fun S3 hF2 pS3 => ?_) (sr_ends (hx := hx) (cd := cd) (nt := nt) (nw := nw) (ty := ty) (P := P) (u := (ST tr)) _ _ _ (by (try clear hF hJ iI0 w0 rf rb fs); (try clear hk0); grind [q_zz, q_za, q_zga, q_fza, q_fx, q_fga, q_gza, q_gfa, q_gx, q_zf1, q_zg1, q_ff, q_fg1, q_gf1, q_gg, ti_link, in1000, in200, in2200]) (by (try clear hk0); grind [→ W0_nw, → RF_nf, → RB_nb, ti_link]) (by (try clear hk0); grind [→ W0_nw, → RF_nf, → RB_nb, ti_link]))
    obtain ⟨pS3, qS3⟩ := pS3
    have vS3 : NF Sl0 S3 := NF_fr hF2 (by decide) (by decide)
    have z33_S3 := hF2.1 33 (by decide)
    clear hF2
    have oS3 : OUT hx cd nt nw ty P (F - 1) S3 := Or.inl qS3
    exact ⟨by (try clear hF hJ iI0 w0 rf rb fs qS3 vS3 oS3); (try clear hk0); grind [q_zz, q_za, q_zga, q_fza, q_fx, q_fga, q_gza, q_gfa, q_gx, q_zf1, q_zg1, q_ff, q_fg1, q_gf1, q_gg, ti_link, in1000, in200, in2200], by (try clear hk0); grind [→ W0_nw, → RF_nf, → RB_nb, ti_link]⟩
  · intro z4 ez4
    refine ⟨by (try clear hF hJ iI0 w0 rf rb fs); (try clear hk0); grind [q_zz, q_za, q_zga, q_fza, q_fx, q_fga, q_gza, q_gfa, q_gx, q_zf1, q_zg1, q_ff, q_fg1, q_gf1, q_gg, ti_link, in1000, in200, in2200], ?_⟩
    intro z5 ez5
    intro z6 ez6
    intro z7 ez7
    have  k7 := RF_top (z := z7) rf (by (try clear hF hJ iI0 w0 rf rb fs); (try clear hk0); grind [q_zz, q_za, q_zga, q_fza, q_fx, q_fga, q_gza, q_gfa, q_gx, q_zf1, q_zg1, q_ff, q_fg1, q_gf1, q_gg, ti_link, in1000, in200, in2200]) (by (try clear hF hJ iI0 w0 rf rb fs); (try clear hk0); grind [q_zz, q_za, q_zga, q_fza, q_fx, q_fga, q_gza, q_gfa, q_gx, q_zf1, q_zg1, q_ff, q_fg1, q_gf1, q_gg, ti_link, in1000, in200, in2200]) (by (try clear hF hJ iI0 w0 rf rb fs); (try clear hk0); grind [q_zz, q_za, q_zga, q_fza, q_fx, q_fga, q_gza, q_gfa, q_gx, q_zf1, q_zg1, q_ff, q_fg1, q_gf1, q_gg, ti_link, in1000, in200, in2200])
    have  f7 := FRL_p k7.2.2.2
    have  e7 : (Sl0.2.1 69) (ix z7) = tr := k7.1
    have  g7 : 500 * hx ≤ tr.toInt ∧ tr.toInt < nt := ⟨k7.2.1, k7.2.2.1⟩
    refine ⟨by (try clear hF hJ iI0 w0 rf rb fs); (try clear hk0); grind [q_zz, q_za, q_zga, q_fza, q_fx, q_fga, q_gza, q_gfa, q_gx, q_zf1, q_zg1, q_ff, q_fg1, q_gf1, q_gg, ti_link, in1000, in200, in2200], ?_⟩
    intro z8 ez8
    refine ⟨fun c3 => ?_, fun c3 => ?_⟩
    · unfold wp_raiseCancel_64
      refine ⟨by (try clear hF hJ iI0 w0 rf rb fs); (try clear hk0); grind [q_zz, q_za, q_zga, q_fza, q_fx, q_fga, q_gza, q_gfa, q_gx, q_zf1, q_zg1, q_ff, q_fg1, q_gf1, q_gg, ti_link, in1000, in200, in2200], ?_⟩
      intro z14 ez14
      intro z15 ez15
      refine ⟨by (try clear hF hJ iI0 w0 rf rb fs); (try clear hk0); grind [q_zz, q_za, q_zga, q_fza, q_fx, q_fga, q_gza, q_gfa, q_gx, q_zf1, q_zg1, q_ff, q_fg1, q_gf1, q_gg, ti_link, in1000, in200, in2200], ?_⟩
      intro S16 eS16
      have bS16 : NB Sl0 S16 := NB_f eS16 (by decide)
      have pS16_ := RF_pop eS16 rf (by (try clear hF hJ iI0 w0 rf rb fs bS16); (try clear hk0); grind [q_zz, q_za, q_zga, q_fza, q_fx, q_fga, q_gza, q_gfa, q_gx, q_zf1, q_zg1, q_ff, q_fg1, q_gf1, q_gg, ti_link, in1000, in200, in2200]) (by (try clear hF hJ iI0 w0 rf rb fs bS16); (try clear hk0); grind [q_zz, q_za, q_zga, q_fza, q_fx, q_fga, q_gza, q_gfa, q_gx, q_zf1, q_zg1, q_ff, q_fg1, q_gf1, q_gg, ti_link, in1000, in200, in2200]) (by (try clear hF hJ iI0 w0 rf rb fs bS16); (try clear hk0); grind [q_zz, q_za, q_zga, q_fza, q_fx, q_fga, q_gza, q_gfa, q_gx, q_zf1, q_zg1, q_ff, q_fg1, q_gf1, q_gg, ti_link, in1000, in200, in2200]) (FW_tt hF)
      have rS16 : RI hx cd nt nw ty P F S16 := ⟨_, W0_68 (t := Sl0.1 33) eS16 (by (try clear hF hJ iI0 w0 rf rb fs bS16 pS16_); (try clear hk0); grind [q_zz, q_za, q_zga, q_fza, q_fx, q_fga, q_gza, q_gfa, q_gx, q_zf1, q_zg1, q_ff, q_fg1, q_gf1, q_gg, ti_link, in1000, in200, in2200]) rb.1.2.2.1 w0, pS16_.1, RB_st _ (RB_fw eS16 (by decide) rb) rfl, by
            have q9 := pS16_.2
            omega⟩
      exact hk0 _ (⟨by (try clear hF hJ iI0 w0 rf rb fs bS16 pS16_ rS16); (try clear hk0); grind [q_zz, q_za, q_zga, q_fza, q_fx, q_fga, q_gza, q_gfa, q_gx, q_zf1, q_zg1, q_ff, q_fg1, q_gf1, q_gg, ti_link, in1000, in200, in2200], by (try clear hk0); grind [→ W0_nw, → RF_nf, → RB_nb, ti_link]⟩) (by (try clear hF hJ iI0 w0 rf rb fs bS16 pS16_ rS16); (try clear hk0); grind [q_zz, q_za, q_zga, q_fza, q_fx, q_fga, q_gza, q_gfa, q_gx, q_zf1, q_zg1, q_ff, q_fg1, q_gf1, q_gg, ti_link, in1000, in200, in2200])
    · refine ⟨by (try clear hF hJ iI0 w0 rf rb fs); (try clear hk0); grind [q_zz, q_za, q_zga, q_fza, q_fx, q_fga, q_gza, q_gfa, q_gx, q_zf1, q_zg1, q_ff, q_fg1, q_gf1, q_gg, ti_link, in1000, in200, in2200], ?_⟩
      intro z10 ez10
      refine ⟨by (try clear hF hJ iI0 w0 rf rb fs); (try clear hk0); grind [q_zz, q_za, q_zga, q_fza, q_fx, q_fga, q_gza, q_gfa, q_gx, q_zf1, q_zg1, q_ff, q_fg1, q_gf1, q_gg, ti_link, in1000, in200, in2200], ?_⟩
      intro z11 ez11
      have hh7 : z11 = (Sl0.2.1 29) (ix tr) := by (try clear hF hJ iI0 w0 rf rb fs); (try clear hk0); grind [q_zz, q_za, q_zga, q_fza, q_fx, q_fga, q_gza, q_gfa, q_gx, q_zf1, q_zg1, q_ff, q_fg1, q_gf1, q_gg, ti_link, in1000, in200, in2200]
      have hl7 : FRL hx nw ((P.2.1 25)) ((P.2.1 40)) 2 2 0 ((P.2.1 25) (ix tr)) := ⟨Or.inr (Or.inr rfl), Or.inr (Or.inr (Or.inl rfl))⟩
      refine ⟨fun c4 => ?_, fun c4 => ?_⟩
      · unfold wp_raiseCancel_64
        refine ⟨by (try clear hF hJ iI0 w0 rf rb fs hh7 hl7); (try clear hk0); grind [q_zz, q_za, q_zga, q_fza, q_fx, q_fga, q_gza, q_gfa, q_gx, q_zf1, q_zg1, q_ff, q_fg1, q_gf1, q_gg, ti_link, in1000, in200, in2200], ?_⟩
        intro z14 ez14
        intro z15 ez15
        refine ⟨by (try clear hF hJ iI0 w0 rf rb fs hh7 hl7); (try clear hk0); grind [q_zz, q_za, q_zga, q_fza, q_fx, q_fga, q_gza, q_gfa, q_gx, q_zf1, q_zg1, q_ff, q_fg1, q_gf1, q_gg, ti_link, in1000, in200, in2200], ?_⟩
        intro S16 eS16
        have bS16 : NB Sl0 S16 := NB_f eS16 (by decide)
        have pS16_ := RF_pop eS16 rf (by (try clear hF hJ iI0 w0 rf rb fs hh7 hl7 bS16); (try clear hk0); grind [q_zz, q_za, q_zga, q_fza, q_fx, q_fga, q_gza, q_gfa, q_gx, q_zf1, q_zg1, q_ff, q_fg1, q_gf1, q_gg, ti_link, in1000, in200, in2200]) (by (try clear hF hJ iI0 w0 rf rb fs hh7 hl7 bS16); (try clear hk0); grind [q_zz, q_za, q_zga, q_fza, q_fx, q_fga, q_gza, q_gfa, q_gx, q_zf1, q_zg1, q_ff, q_fg1, q_gf1, q_gg, ti_link, in1000, in200, in2200]) (by (try clear hF hJ iI0 w0 rf rb fs hh7 hl7 bS16); (try clear hk0); grind [q_zz, q_za, q_zga, q_fza, q_fx, q_fga, q_gza, q_gfa, q_gx, q_zf1, q_zg1, q_ff, q_fg1, q_gf1, q_gg, ti_link, in1000, in200, in2200]) (FW_tt hF)
        have rS16 : RI hx cd nt nw ty P F S16 := ⟨_, W0_68 (t := Sl0.1 33) eS16 (by (try clear hF hJ iI0 w0 rf rb fs hh7 hl7 bS16 pS16_); (try clear hk0); grind [q_zz, q_za, q_zga, q_fza, q_fx, q_fga, q_gza, q_gfa, q_gx, q_zf1, q_zg1, q_ff, q_fg1, q_gf1, q_gg, ti_link, in1000, in200, in2200]) rb.1.2.2.1 w0, pS16_.1, RB_st _ (RB_fw eS16 (by decide) rb) rfl, by
              have q9 := pS16_.2
              omega⟩
        exact hk0 _ (⟨by (try clear hF hJ iI0 w0 rf rb fs hh7 hl7 bS16 pS16_ rS16); (try clear hk0); grind [q_zz, q_za, q_zga, q_fza, q_fx, q_fga, q_gza, q_gfa, q_gx, q_zf1, q_zg1, q_ff, q_fg1, q_gf1, q_gg, ti_link, in1000, in200, in2200], by (try clear hk0); grind [→ W0_nw, → RF_nf, → RB_nb, ti_link]⟩) (by (try clear hF hJ iI0 w0 rf rb fs hh7 hl7 bS16 pS16_ rS16); (try clear hk0); grind [q_zz, q_za, q_zga, q_fza, q_fx, q_fga, q_gza, q_gfa, q_gx, q_zf1, q_zg1, q_ff, q_fg1, q_gf1, q_gg, ti_link, in1000, in200, in2200])
      · refine fm_toFinish _ _ _ _ _ _ (fun S13 hF5 pS13 => ?_) (sg_toFinish (hx := hx) (cd := cd) (nt := nt) (nw := nw) (na := na) (ty := ty) (P := P) (tr := tr) _ _ _ (by (try clear hF hJ iI0 w0 rf rb fs hh7 hl7); (try clear hk0); grind [q_zz, q_za, q_zga, q_fza, q_fx, q_fga, q_gza, q_gfa, q_gx, q_zf1, q_zg1, q_ff, q_fg1, q_gf1, q_gg, ti_link, in1000, in200, in2200]) (by (try clear hF hJ iI0 w0 rf rb fs hh7 hl7); (try clear hk0); grind [q_zz, q_za, q_zga, q_fza, q_fx, q_fga, q_gza, q_gfa, q_gx, q_zf1, q_zg1, q_ff, q_fg1, q_gf1, q_gg, ti_link, in1000, in200, in2200]) (by (try clear hF hJ iI0 w0 rf rb fs hh7 hl7); (try clear hk0); grind [q_zz, q_za, q_zga, q_fza, q_fx, q_fga, q_gza, q_gfa, q_gx, q_zf1, q_zg1, q_ff, q_fg1, q_gf1, q_gg, ti_link, in1000, in200, in2200]) (by (try clear hk0); grind [→ W0_nw, → RF_nf, → RB_nb, ti_link]) (by (try clear hk0); grind [→ W0_nw, → RF_nf, → RB_nb, ti_link]) (by (try clear hk0); grind [→ W0_nw, → RF_nf, → RB_nb, ti_link]) (by (try clear hk0); grind [→ W0_nw, → RF_nf, → RB_nb, ti_link]) (by (try clear hk0); grind [→ W0_nw, → RF_nf, → RB_nb, ti_link]) (by (try clear hk0); grind [→ W0_nw, → RF_nf, → RB_nb, ti_link]))
        obtain ⟨pS13, qS13⟩ := pS13
        have bS13 : NB Sl0 S13 := NB_fr hF5 (by decide) (by decide)
        have z33_S13 := hF5.1 33 (by decide)
        clear hF5
        have oS13 : OUT hx cd nt nw ty P (F - 1) S13 := Or.inr ⟨_, qS13.1, qS13.2.1, qS13.2.2.1, qS13.2.2.2.1, by
              have q9 := qS13.2.2.2.2.1
              have q8 : ((Sl0.2.1 70) (ix z7)).toInt ≤ 1 := by (try clear hF hJ iI0 w0 rf rb fs hh7 hl7 qS13 bS13); (try clear hk0); grind [q_zz, q_za, q_zga, q_fza, q_fx, q_fga, q_gza, q_gfa, q_gx, q_zf1, q_zg1, q_ff, q_fg1, q_gf1, q_gg, ti_link, in1000, in200, in2200]
              omega⟩
        exact ⟨by (try clear hF hJ iI0 w0 rf rb fs hh7 hl7 qS13 bS13 oS13); (try clear hk0); grind [q_zz, q_za, q_zga, q_fza, q_fx, q_fga, q_gza, q_gfa, q_gx, q_zf1, q_zg1, q_ff, q_fg1, q_gf1, q_gg, ti_link, in1000, in200, in2200], by (try clear hk0); grind [→ W0_nw, → RF_nf, → RB_nb, ti_link]⟩
