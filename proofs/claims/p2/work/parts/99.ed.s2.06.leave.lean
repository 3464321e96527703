
set_option maxHeartbeats 4000000 in
theorem sg_leave {hx : Nat} {cd nt nw na : Int} {ty : Nat → T6} {P : mS} {F : Int} (a0 : Int32) (a1 : Int32) {S : mS} (hx1 : hx ≤ 1) (hb : 0 ≤ (S.1 33).toInt ∧ (S.1 33).toInt < 200) (hw : a0 = 5 ∨ ((a0 = 3 ∨ a0 = 4) ∧ 500 * hx ≤ a1.toInt ∧ a1.toInt < nw)) (hF : FWt hx cd nt nw na ty P) (hJ : RL9 hx cd nt nw ty P F a0 a1 S) : wp_leave a0 a1 S (fun S1 => (True) ∧ (OUT hx cd nt nw ty P F S1 ∧ (a0 = 5 → OUT hx cd nt nw ty P (F - 1) S1))) := by
  have fb0 := FW_b hF
  unfold wp_leave
  refine ⟨fun c1 => ?_, fun c1 => ?_⟩
  · refine ⟨by (try clear hF hJ); (try clear hk16); grind [q_zz, q_za, q_zga, q_fza, q_fx, q_fga, q_gza, q_gfa, q_gx, q_zf1, q_zg1, q_ff, q_fg1, q_gf1, q_gg, ti_link, in1000, in200, in2200], ?_⟩
    intro z2 ez2
    have w2 : ¬ a0 = 5 → 0 ≤ z2.toInt ∧ dpt ((P.2.1 25)) (ix z2) ((P.2.1 40) (ix a1)) := fun h5 => by
          obtain ⟨tr, w0, _⟩ := hJ
          rw [ez2]
          exact (FW_wh hF w0 (by (try clear hF hJ); (try clear hk16); grind [q_zz, q_za, q_zga, q_fza, q_fx, q_fga, q_gza, q_gfa, q_gx, q_zf1, q_zg1, q_ff, q_fg1, q_gf1, q_gg, ti_link, in1000, in200, in2200]) (by (try clear hF hJ); (try clear hk16); grind [q_zz, q_za, q_zga, q_fza, q_fx, q_fga, q_gza, q_gfa, q_gx, q_zf1, q_zg1, q_ff, q_fg1, q_gf1, q_gg, ti_link, in1000, in200, in2200])).2.2
    have  w2a : 0 ≤ z2.toInt := (w2 (by assumption)).1
    have w2b : a0 = 5 ∨ dpt ((P.2.1 25)) (ix z2) ((P.2.1 40) (ix a1)) := Or.inr (w2 (by assumption)).2
    unfold wp_leave_15
    refine it_rule (fun u : Int32 × Int32 × Int32 × mS => (0 ≤ (u.2.2.2.1 33).toInt ∧ (u.2.2.2.1 33).toInt < 200 ∧ u.1 = a0 ∧ u.2.1 = a1 ∧ 0 ≤ u.2.2.1.toInt ∧ (a0 = 5 → u.2.2.1 = 0)) ∧ (RL9 hx cd nt nw ty P F a0 a1 u.2.2.2 ∧ (a0 = 5 ∨ dpt ((P.2.1 25)) (ix u.2.2.1) ((P.2.1 40) (ix a1))))) (fun u => (((u.2.2.2.2.1 68) (ix (u.2.2.2.1 33))).toInt).toNat) ?_ (⟨by (try clear hF hJ w2 w2b); (try clear hk16); grind [q_zz, q_za, q_zga, q_fza, q_fx, q_fga, q_gza, q_gfa, q_gx, q_zf1, q_zg1, q_ff, q_fg1, q_gf1, q_gg, ti_link, in1000, in200, in2200], by refine ⟨?_, ?_⟩ <;> ((try clear hk16); grind [→ W0_nw, → RF_nf, → RB_nb, ti_link])⟩)
    rintro ⟨x1, x2, x3, Sl16⟩ k16 hI16 hk16
    replace hI16 : (0 ≤ (Sl16.1 33).toInt ∧ (Sl16.1 33).toInt < 200 ∧ x1 = a0 ∧ x2 = a1 ∧ 0 ≤ x3.toInt ∧ (a0 = 5 → x3 = 0)) ∧ (RL9 hx cd nt nw ty P F a0 a1 Sl16 ∧ (a0 = 5 ∨ dpt ((P.2.1 25)) (ix x3) ((P.2.1 40) (ix a1)))) := hI16
    replace hk16 : ∀ v : Int32 × Int32 × Int32 × mS, (0 ≤ (v.2.2.2.1 33).toInt ∧ (v.2.2.2.1 33).toInt < 200 ∧ v.1 = a0 ∧ v.2.1 = a1 ∧ 0 ≤ v.2.2.1.toInt ∧ (a0 = 5 → v.2.2.1 = 0)) ∧ (RL9 hx cd nt nw ty P F a0 a1 v.2.2.2 ∧ (a0 = 5 ∨ dpt ((P.2.1 25)) (ix v.2.2.1) ((P.2.1 40) (ix a1)))) → (((v.2.2.2.2.1 68) (ix (v.2.2.2.1 33))).toInt).toNat < (((Sl16.2.1 68) (ix (Sl16.1 33))).toInt).toNat → k16 v := hk16
    show wp_leave_16 _ k16 x1 x2 x3 Sl16
    unfold wp_leave_16
    obtain ⟨hI16, iI16⟩ := hI16
    obtain ⟨⟨tr, w0, rf, rb, fs, an9⟩, dp9⟩ := iI16
    have  fr9 := RF_b rf
    have  fb9 := FW_b hF
    have  ww9 := hw
    have  df9 : dpt ((P.2.1 25)) (ix ((Sl16.2.1 68) (ix (Sl16.1 33)))) tr := rf.2.2.1
    refine ⟨by (try clear hF hJ w2 w2b iI16 w0 rf rb fs an9); (try clear hk16); grind [q_zz, q_za, q_zga, q_fza, q_fx, q_fga, q_gza, q_gfa, q_gx, q_zf1, q_zg1, q_ff, q_fg1, q_gf1, q_gg, ti_link, in1000, in200, in2200], ?_⟩
    intro z3 ez3
    refine ⟨fun c2 => ?_, fun c2 => ?_⟩
    · refine ⟨fun c3 => ?_, fun c3 => ?_⟩
      · refine ⟨fun c4 => ?_, fun c4 => ?_⟩
        · refine ⟨by (try clear hF hJ w2 w2b iI16 w0 rf rb fs an9); (try clear hk16); grind [q_zz, q_za, q_zga, q_fza, q_fx, q_fga, q_gza, q_gfa, q_gx, q_zf1, q_zg1, q_ff, q_fg1, q_gf1, q_gg, ti_link, in1000, in200, in2200], ?_⟩
          intro z7 ez7
          intro S8 eS8
          have wS8 : NW Sl16 S8 := NW_z eS8 (by decide)
          have bS8 : NB Sl16 S8 := NB_z eS8 (by decide)
          have vS8 : NF Sl16 S8 := NF_z eS8 (by decide)
          have t8 : (P.2.1 40) (ix x2) = tr := by
                have h5 : ¬ a0 = 5 := by (try clear hF hJ w2 w2b iI16 w0 rf rb fs an9 wS8 bS8 vS8); (try clear hk16); grind [q_zz, q_za, q_zga, q_fza, q_fx, q_fga, q_gza, q_gfa, q_gx, q_zf1, q_zg1, q_ff, q_fg1, q_gf1, q_gg, ti_link, in1000, in200, in2200]
                have ex : x2 = a1 := by (try clear hF hJ w2 w2b iI16 w0 rf rb fs an9 wS8 bS8 vS8); (try clear hk16); grind [q_zz, q_za, q_zga, q_fza, q_fx, q_fga, q_gza, q_gfa, q_gx, q_zf1, q_zg1, q_ff, q_fg1, q_gf1, q_gg, ti_link, in1000, in200, in2200]
                rw [ex]
                exact an_eq (an9.resolve_left h5) df9 (dp9.resolve_left h5) (ix_mono (by (try clear hF hJ w2 w2b iI16 w0 rf rb fs an9 wS8 bS8 vS8); (try clear hk16); grind [q_zz, q_za, q_zga, q_fza, q_fx, q_fga, q_gza, q_gfa, q_gx, q_zf1, q_zg1, q_ff, q_fg1, q_gf1, q_gg, ti_link, in1000, in200, in2200]))
          have g8 := FW_wh (w := x2) hF w0 (by (try clear hF hJ w2 w2b iI16 w0 rf rb fs an9 wS8 bS8 vS8 t8); (try clear hk16); grind [q_zz, q_za, q_zga, q_fza, q_fx, q_fga, q_gza, q_gfa, q_gx, q_zf1, q_zg1, q_ff, q_fg1, q_gf1, q_gg, ti_link, in1000, in200, in2200]) (by (try clear hF hJ w2 w2b iI16 w0 rf rb fs an9 wS8 bS8 vS8 t8); (try clear hk16); grind [q_zz, q_za, q_zga, q_fza, q_fx, q_fga, q_gza, q_gfa, q_gx, q_zf1, q_zg1, q_ff, q_fg1, q_gf1, q_gg, ti_link, in1000, in200, in2200])
          have p8 : S8.1 32 = (Sl16.2.1 42) (ix x2) := by
                rw [eS8]
                show z7 = _
                rw [ez7]
          have o8 : OUT hx cd nt nw ty P F S8 := Or.inr ⟨tr, W0_nw wS8 w0, RF_nf vS8 rf, RB_nb bS8 rb, by rw [p8, ← t8]; exact g8.1, by rw [FS_nf vS8]; exact fs⟩
          exact ⟨by (try clear hF hJ w2 w2b iI16 w0 rf rb fs an9 wS8 bS8 vS8 t8 g8 p8 o8); (try clear hk16); grind [q_zz, q_za, q_zga, q_fza, q_fx, q_fga, q_gza, q_gfa, q_gx, q_zf1, q_zg1, q_ff, q_fg1, q_gf1, q_gg, ti_link, in1000, in200, in2200], by refine ⟨?_, ?_⟩ <;> ((try clear hk16); grind [→ W0_nw, → RF_nf, → RB_nb, ti_link])⟩
        · refine ⟨by (try clear hF hJ w2 w2b iI16 w0 rf rb fs an9); (try clear hk16); grind [q_zz, q_za, q_zga, q_fza, q_fx, q_fga, q_gza, q_gfa, q_gx, q_zf1, q_zg1, q_ff, q_fg1, q_gf1, q_gg, ti_link, in1000, in200, in2200], ?_⟩
          intro z9 ez9
          intro S10 eS10
          have wS10 : NW Sl16 S10 := NW_z eS10 (by decide)
          have bS10 : NB Sl16 S10 := NB_z eS10 (by decide)
          have vS10 : NF Sl16 S10 := NF_z eS10 (by decide)
          have t10 : (P.2.1 40) (ix x2) = tr := by
                have h5 : ¬ a0 = 5 := by (try clear hF hJ w2 w2b iI16 w0 rf rb fs an9 wS10 bS10 vS10); (try clear hk16); grind [q_zz, q_za, q_zga, q_fza, q_fx, q_fga, q_gza, q_gfa, q_gx, q_zf1, q_zg1, q_ff, q_fg1, q_gf1, q_gg, ti_link, in1000, in200, in2200]
                have ex : x2 = a1 := by (try clear hF hJ w2 w2b iI16 w0 rf rb fs an9 wS10 bS10 vS10); (try clear hk16); grind [q_zz, q_za, q_zga, q_fza, q_fx, q_fga, q_gza, q_gfa, q_gx, q_zf1, q_zg1, q_ff, q_fg1, q_gf1, q_gg, ti_link, in1000, in200, in2200]
                rw [ex]
                exact an_eq (an9.resolve_left h5) df9 (dp9.resolve_left h5) (ix_mono (by (try clear hF hJ w2 w2b iI16 w0 rf rb fs an9 wS10 bS10 vS10); (try clear hk16); grind [q_zz, q_za, q_zga, q_fza, q_fx, q_fga, q_gza, q_gfa, q_gx, q_zf1, q_zg1, q_ff, q_fg1, q_gf1, q_gg, ti_link, in1000, in200, in2200]))
          have g10 := FW_wh (w := x2) hF w0 (by (try clear hF hJ w2 w2b iI16 w0 rf rb fs an9 wS10 bS10 vS10 t10); (try clear hk16); grind [q_zz, q_za, q_zga, q_fza, q_fx, q_fga, q_gza, q_gfa, q_gx, q_zf1, q_zg1, q_ff, q_fg1, q_gf1, q_gg, ti_link, in1000, in200, in2200]) (by (try clear hF hJ w2 w2b iI16 w0 rf rb fs an9 wS10 bS10 vS10 t10); (try clear hk16); grind [q_zz, q_za, q_zga, q_fza, q_fx, q_fga, q_gza, q_gfa, q_gx, q_zf1, q_zg1, q_ff, q_fg1, q_gf1, q_gg, ti_link, in1000, in200, in2200])
          have p10 : S10.1 32 = (Sl16.2.1 43) (ix x2) := by
                rw [eS10]
                show z9 = _
                rw [ez9]
          have o10 : OUT hx cd nt nw ty P F S10 := Or.inr ⟨tr, W0_nw wS10 w0, RF_nf vS10 rf, RB_nb bS10 rb, by rw [p10, ← t10]; exact g10.2.1, by rw [FS_nf vS10]; exact fs⟩
          exact ⟨by (try clear hF hJ w2 w2b iI16 w0 rf rb fs an9 wS10 bS10 vS10 t10 g10 p10 o10); (try clear hk16); grind [q_zz, q_za, q_zga, q_fza, q_fx, q_fga, q_gza, q_gfa, q_gx, q_zf1, q_zg1, q_ff, q_fg1, q_gf1, q_gg, ti_link, in1000, in200, in2200], by refine ⟨?_, ?_⟩ <;> ((try clear hk16); grind [→ W0_nw, → RF_nf, → RB_nb, ti_link])⟩
      · refine fq_ends _ _ _ _ _ _ (fun S11 hF5 pS11 => ?_) (sr_ends (hx := hx) (cd := cd) (nt := nt) (nw := nw) (ty := ty) (P := P) (u := (ST tr)) _ _ _ (by (try clear hF hJ w2 w2b iI16 w0 rf rb fs an9); (try clear hk16); grind [q_zz, q_za, q_zga, q_fza, q_fx, q_fga, q_gza, q_gfa, q_gx, q_zf1, q_zg1, q_ff, q_fg1, q_gf1, q_gg, ti_link, in1000, in200, in2200]) (by (try clear hk16); grind [→ W0_nw, → RF_nf, → RB_nb, ti_link]) (by (try clear hk16); grind [→ W0_nw, → RF_nf, → RB_nb, ti_link]))
        obtain ⟨pS11, qS11⟩ := pS11
        have vS11 : NF Sl16 S11 := NF_fr hF5 (by decide) (by decide)
        have z33_S11 := hF5.1 33 (by decide)
        clear hF5
        have o11 : OUT hx cd nt nw ty P F S11 := Or.inl qS11
        have o11b : OUT hx cd nt nw ty P (F - 1) S11 := Or.inl qS11
        exact ⟨by (try clear hF hJ w2 w2b iI16 w0 rf rb fs an9 qS11 vS11 o11 o11b); (try clear hk16); grind [q_zz, q_za, q_zga, q_fza, q_fx, q_fga, q_gza, q_gfa, q_gx, q_zf1, q_zg1, q_ff, q_fg1, q_gf1, q_gg, ti_link, in1000, in200, in2200], by refine ⟨?_, ?_⟩ <;> ((try clear hk16); grind [→ W0_nw, → RF_nf, → RB_nb, ti_link])⟩
    · intro z12 ez12
      refine ⟨by (try clear hF hJ w2 w2b iI16 w0 rf rb fs an9); (try clear hk16); grind [q_zz, q_za, q_zga, q_fza, q_fx, q_fga, q_gza, q_gfa, q_gx, q_zf1, q_zg1, q_ff, q_fg1, q_gf1, q_gg, ti_link, in1000, in200, in2200], ?_⟩
      intro z13 ez13
      intro z14 ez14
      intro z15 ez15
      have  k7 := RF_top (z := z15) rf (by (try clear hF hJ w2 w2b iI16 w0 rf rb fs an9); (try clear hk16); grind [q_zz, q_za, q_zga, q_fza, q_fx, q_fga, q_gza, q_gfa, q_gx, q_zf1, q_zg1, q_ff, q_fg1, q_gf1, q_gg, ti_link, in1000, in200, in2200]) (by (try clear hF hJ w2 w2b iI16 w0 rf rb fs an9); (try clear hk16); grind [q_zz, q_za, q_zga, q_fza, q_fx, q_fga, q_gza, q_gfa, q_gx, q_zf1, q_zg1, q_ff, q_fg1, q_gf1, q_gg, ti_link, in1000, in200, in2200]) (by (try clear hF hJ w2 w2b iI16 w0 rf rb fs an9); (try clear hk16); grind [q_zz, q_za, q_zga, q_fza, q_fx, q_fga, q_gza, q_gfa, q_gx, q_zf1, q_zg1, q_ff, q_fg1, q_gf1, q_gg, ti_link, in1000, in200, in2200])
      have  f7 := FRL_p k7.2.2.2
      have  e7 : (Sl16.2.1 69) (ix z15) = tr := k7.1
      have  g7 : 500 * hx ≤ tr.toInt ∧ tr.toInt < nt := ⟨k7.2.1, k7.2.2.1⟩
      have au9 : a0 = 5 ∨ an ((P.2.1 25)) ((P.2.1 40) (ix a1)) ((P.2.1 25) (ix tr)) := by
            rcases Decidable.em (a0 = 5) with h5 | h5
            · exact Or.inl h5
            · exact Or.inr (an_up (an9.resolve_left h5) df9 (dp9.resolve_left h5) (ix_smono (by (try clear hF hJ w2 w2b iI16 w0 rf rb fs an9); (try clear hk16); grind [q_zz, q_za, q_zga, q_fza, q_fx, q_fga, q_gza, q_gfa, q_gx, q_zf1, q_zg1, q_ff, q_fg1, q_gf1, q_gg, ti_link, in1000, in200, in2200]) (by (try clear hF hJ w2 w2b iI16 w0 rf rb fs an9); (try clear hk16); grind [q_zz, q_za, q_zga, q_fza, q_fx, q_fga, q_gza, q_gfa, q_gx, q_zf1, q_zg1, q_ff, q_fg1, q_gf1, q_gg, ti_link, in1000, in200, in2200])))
      refine ⟨by (try clear hF hJ w2 w2b iI16 w0 rf rb fs an9 au9); (try clear hk16); grind [q_zz, q_za, q_zga, q_fza, q_fx, q_fga, q_gza, q_gfa, q_gx, q_zf1, q_zg1, q_ff, q_fg1, q_gf1, q_gg, ti_link, in1000, in200, in2200], ?_⟩
      intro z16 ez16
      refine ⟨fun c6 => ?_, fun c6 => ?_⟩
      · unfold wp_leave_85
        refine ⟨by (try clear hF hJ w2 w2b iI16 w0 rf rb fs an9 au9); (try clear hk16); grind [q_zz, q_za, q_zga, q_fza, q_fx, q_fga, q_gza, q_gfa, q_gx, q_zf1, q_zg1, q_ff, q_fg1, q_gf1, q_gg, ti_link, in1000, in200, in2200], ?_⟩
        intro z22 ez22
        intro z23 ez23
        refine ⟨by (try clear hF hJ w2 w2b iI16 w0 rf rb fs an9 au9); (try clear hk16); grind [q_zz, q_za, q_zga, q_fza, q_fx, q_fga, q_gza, q_gfa, q_gx, q_zf1, q_zg1, q_ff, q_fg1, q_gf1, q_gg, ti_link, in1000, in200, in2200], ?_⟩
        intro S24 eS24
        have bS24 : NB Sl16 S24 := NB_f eS24 (by decide)
        have p24_ := RF_pop eS24 rf (by (try clear hF hJ w2 w2b iI16 w0 rf rb fs an9 au9 bS24); (try clear hk16); grind [q_zz, q_za, q_zga, q_fza, q_fx, q_fga, q_gza, q_gfa, q_gx, q_zf1, q_zg1, q_ff, q_fg1, q_gf1, q_gg, ti_link, in1000, in200, in2200]) (by (try clear hF hJ w2 w2b iI16 w0 rf rb fs an9 au9 bS24); (try clear hk16); grind [q_zz, q_za, q_zga, q_fza, q_fx, q_fga, q_gza, q_gfa, q_gx, q_zf1, q_zg1, q_ff, q_fg1, q_gf1, q_gg, ti_link, in1000, in200, in2200]) (by (try clear hF hJ w2 w2b iI16 w0 rf rb fs an9 au9 bS24); (try clear hk16); grind [q_zz, q_za, q_zga, q_fza, q_fx, q_fga, q_gza, q_gfa, q_gx, q_zf1, q_zg1, q_ff, q_fg1, q_gf1, q_gg, ti_link, in1000, in200, in2200]) (FW_tt hF)
        have r24 : RL9 hx cd nt nw ty P F a0 a1 S24 := ⟨_, W0_68 (t := Sl16.1 33) eS24 (by (try clear hF hJ w2 w2b iI16 w0 rf rb fs an9 au9 bS24 p24_); (try clear hk16); grind [q_zz, q_za, q_zga, q_fza, q_fx, q_fga, q_gza, q_gfa, q_gx, q_zf1, q_zg1, q_ff, q_fg1, q_gf1, q_gg, ti_link, in1000, in200, in2200]) rb.1.2.2.1 w0, p24_.1, RB_st _ (RB_fw eS24 (by decide) rb) rfl, by
              have q9 := p24_.2
              omega, au9⟩
        exact hk16 _ (⟨by (try clear hF hJ w2 w2b iI16 w0 rf rb fs an9 au9 bS24 p24_ r24); (try clear hk16); grind [q_zz, q_za, q_zga, q_fza, q_fx, q_fga, q_gza, q_gfa, q_gx, q_zf1, q_zg1, q_ff, q_fg1, q_gf1, q_gg, ti_link, in1000, in200, in2200], by refine ⟨?_, ?_⟩ <;> ((try clear hk16); grind [→ W0_nw, → RF_nf, → RB_nb, ti_link])⟩) (by (try clear hF hJ w2 w2b iI16 w0 rf rb fs an9 au9 bS24 p24_ r24); (try clear hk16); grind [q_zz, q_za, q_zga, q_fza, q_fx, q_fga, q_gza, q_gfa, q_gx, q_zf1, q_zg1, q_ff, q_fg1, q_gf1, q_gg, ti_link, in1000, in200, in2200])
      · refine ⟨by (try clear hF hJ w2 w2b iI16 w0 rf rb fs an9 au9); (try clear hk16); grind [q_zz, q_za, q_zga, q_fza, q_fx, q_fga, q_gza, q_gfa, q_gx, q_zf1, q_zg1, q_ff, q_fg1, q_gf1, q_gg, ti_link, in1000, in200, in2200], ?_⟩
        intro z18 ez18
        refine ⟨by (try clear hF hJ w2 w2b iI16 w0 rf rb fs an9 au9); (try clear hk16); grind [q_zz, q_za, q_zga, q_fza, q_fx, q_fga, q_gza, q_gfa, q_gx, q_zf1, q_zg1, q_ff, q_fg1, q_gf1, q_gg, ti_link, in1000, in200, in2200], ?_⟩
        intro z19 ez19
        have hh7 : z19 = (Sl16.2.1 29) (ix tr) := by (try clear hF hJ w2 w2b iI16 w0 rf rb fs an9 au9); (try clear hk16); grind [q_zz, q_za, q_zga, q_fza, q_fx, q_fga, q_gza, q_gfa, q_gx, q_zf1, q_zg1, q_ff, q_fg1, q_gf1, q_gg, ti_link, in1000, in200, in2200]
        have hl7 : FRL hx nw ((P.2.1 25)) ((P.2.1 40)) 2 x1 x2 ((P.2.1 25) (ix tr)) := by
              have ex1 : x1 = a0 := by (try clear hF hJ w2 w2b iI16 w0 rf rb fs an9 au9 hh7); (try clear hk16); grind [q_zz, q_za, q_zga, q_fza, q_fx, q_fga, q_gza, q_gfa, q_gx, q_zf1, q_zg1, q_ff, q_fg1, q_gf1, q_gg, ti_link, in1000, in200, in2200]
              have ex2 : x2 = a1 := by (try clear hF hJ w2 w2b iI16 w0 rf rb fs an9 au9 hh7); (try clear hk16); grind [q_zz, q_za, q_zga, q_fza, q_fx, q_fga, q_gza, q_gfa, q_gx, q_zf1, q_zg1, q_ff, q_fg1, q_gf1, q_gg, ti_link, in1000, in200, in2200]
              rw [ex1, ex2]
              exact FRL_l ww9 au9
        refine ⟨fun c7 => ?_, fun c7 => ?_⟩
        · unfold wp_leave_85
          refine ⟨by (try clear hF hJ w2 w2b iI16 w0 rf rb fs an9 au9 hh7 hl7); (try clear hk16); grind [q_zz, q_za, q_zga, q_fza, q_fx, q_fga, q_gza, q_gfa, q_gx, q_zf1, q_zg1, q_ff, q_fg1, q_gf1, q_gg, ti_link, in1000, in200, in2200], ?_⟩
          intro z22 ez22
          intro z23 ez23
          refine ⟨by (try clear hF hJ w2 w2b iI16 w0 rf rb fs an9 au9 hh7 hl7); (try clear hk16); grind [q_zz, q_za, q_zga, q_fza, q_fx, q_fga, q_gza, q_gfa, q_gx, q_zf1, q_zg1, q_ff, q_fg1, q_gf1, q_gg, ti_link, in1000, in200, in2200], ?_⟩
          intro S24 eS24
          have bS24 : NB Sl16 S24 := NB_f eS24 (by decide)
          have p24_ := RF_pop eS24 rf (by (try clear hF hJ w2 w2b iI16 w0 rf rb fs an9 au9 hh7 hl7 bS24); (try clear hk16); grind [q_zz, q_za, q_zga, q_fza, q_fx, q_fga, q_gza, q_gfa, q_gx, q_zf1, q_zg1, q_ff, q_fg1, q_gf1, q_gg, ti_link, in1000, in200, in2200]) (by (try clear hF hJ w2 w2b iI16 w0 rf rb fs an9 au9 hh7 hl7 bS24); (try clear hk16); grind [q_zz, q_za, q_zga, q_fza, q_fx, q_fga, q_gza, q_gfa, q_gx, q_zf1, q_zg1, q_ff, q_fg1, q_gf1, q_gg, ti_link, in1000, in200, in2200]) (by (try clear hF hJ w2 w2b iI16 w0 rf rb fs an9 au9 hh7 hl7 bS24); (try clear hk16); grind [q_zz, q_za, q_zga, q_fza, q_fx, q_fga, q_gza, q_gfa, q_gx, q_zf1, q_zg1, q_ff, q_fg1, q_gf1, q_gg, ti_link, in1000, in200, in2200]) (FW_tt hF)
          have r24 : RL9 hx cd nt nw ty P F a0 a1 S24 := ⟨_, W0_68 (t := Sl16.1 33) eS24 (by (try clear hF hJ w2 w2b iI16 w0 rf rb fs an9 au9 hh7 hl7 bS24 p24_); (try clear hk16); grind [q_zz, q_za, q_zga, q_fza, q_fx, q_fga, q_gza, q_gfa, q_gx, q_zf1, q_zg1, q_ff, q_fg1, q_gf1, q_gg, ti_link, in1000, in200, in2200]) rb.1.2.2.1 w0, p24_.1, RB_st _ (RB_fw eS24 (by decide) rb) rfl, by
                have q9 := p24_.2
                omega, au9⟩
          exact hk16 _ (⟨by (try clear hF hJ w2 w2b iI16 w0 rf rb fs an9 au9 hh7 hl7 bS24 p24_ r24); (try clear hk16); grind [q_zz, q_za, q_zga, q_fza, q_fx, q_fga, q_gza, q_gfa, q_gx, q_zf1, q_zg1, q_ff, q_fg1, q_gf1, q_gg, ti_link, in1000, in200, in2200], by refine ⟨?_, ?_⟩ <;> ((try clear hk16); grind [→ W0_nw, → RF_nf, → RB_nb, ti_link])⟩) (by (try clear hF hJ w2 w2b iI16 w0 rf rb fs an9 au9 hh7 hl7 bS24 p24_ r24); (try clear hk16); grind [q_zz, q_za, q_zga, q_fza, q_fx, q_fga, q_gza, q_gfa, q_gx, q_zf1, q_zg1, q_ff, q_fg1, q_gf1, q_gg, ti_link, in1000, in200, in2200])
        · refine fm_toFinish _ _ _ _ _ _ (fun S21 hF8 pS21 => ?_) (sg_toFinish (hx := hx) (cd := cd) (nt := nt) (nw := nw) (na := na) (ty := ty) (P := P) (tr := tr) _ _ _ (by (try clear hF hJ w2 w2b iI16 w0 rf rb fs an9 au9 hh7 hl7); (try clear hk16); grind [q_zz, q_za, q_zga, q_fza, q_fx, q_fga, q_gza, q_gfa, q_gx, q_zf1, q_zg1, q_ff, q_fg1, q_gf1, q_gg, ti_link, in1000, in200, in2200]) (by (try clear hF hJ w2 w2b iI16 w0 rf rb fs an9 au9 hh7 hl7); (try clear hk16); grind [q_zz, q_za, q_zga, q_fza, q_fx, q_fga, q_gza, q_gfa, q_gx, q_zf1, q_zg1, q_ff, q_fg1, q_gf1, q_gg, ti_link, in1000, in200, in2200]) (by (try clear hF hJ w2 w2b iI16 w0 rf rb fs an9 au9 hh7 hl7); (try clear hk16); grind [q_zz, q_za, q_zga, q_fza, q_fx, q_fga, q_gza, q_gfa, q_gx, q_zf1, q_zg1, q_ff, q_fg1, q_gf1, q_gg, ti_link, in1000, in200, in2200]) (by (try clear hk16); grind [→ W0_nw, → RF_nf, → RB_nb, ti_link]) (by (try clear hk16); grind [→ W0_nw, → RF_nf, → RB_nb, ti_link]) (by (try clear hk16); grind [→ W0_nw, → RF_nf, → RB_nb, ti_link]) (by (try clear hk16); grind [→ W0_nw, → RF_nf, → RB_nb, ti_link]) (by (try clear hk16); grind [→ W0_nw, → RF_nf, → RB_nb, ti_link]) (by (try clear hk16); grind [→ W0_nw, → RF_nf, → RB_nb, ti_link]))
          obtain ⟨pS21, qS21⟩ := pS21
          have bS21 : NB Sl16 S21 := NB_fr hF8 (by decide) (by decide)
          have z33_S21 := hF8.1 33 (by decide)
          clear hF8
          have o21b : OUT hx cd nt nw ty P (F - 1) S21 := Or.inr ⟨_, qS21.1, qS21.2.1, qS21.2.2.1, qS21.2.2.2.1, by
                have q9 := qS21.2.2.2.2.1
                have q8 : ((Sl16.2.1 70) (ix z15)).toInt ≤ 1 := by (try clear hF hJ w2 w2b iI16 w0 rf rb fs an9 au9 hh7 hl7 qS21 bS21); (try clear hk16); grind [q_zz, q_za, q_zga, q_fza, q_fx, q_fga, q_gza, q_gfa, q_gx, q_zf1, q_zg1, q_ff, q_fg1, q_gf1, q_gg, ti_link, in1000, in200, in2200]
                omega⟩
          have o21 : OUT hx cd nt nw ty P F S21 := OUT_m (by omega) o21b
          exact ⟨by (try clear hF hJ w2 w2b iI16 w0 rf rb fs an9 au9 hh7 hl7 qS21 bS21 o21b o21); (try clear hk16); grind [q_zz, q_za, q_zga, q_fza, q_fx, q_fga, q_gza, q_gfa, q_gx, q_zf1, q_zg1, q_ff, q_fg1, q_gf1, q_gg, ti_link, in1000, in200, in2200], by refine ⟨?_, ?_⟩ <;> ((try clear hk16); grind [→ W0_nw, → RF_nf, → RB_nb, ti_link])⟩
  · unfold wp_leave_15
    refine it_rule (fun u : Int32 × Int32 × Int32 × mS => (0 ≤ (u.2.2.2.1 33).toInt ∧ (u.2.2.2.1 33).toInt < 200 ∧ u.1 = a0 ∧ u.2.1 = a1 ∧ 0 ≤ u.2.2.1.toInt ∧ (a0 = 5 → u.2.2.1 = 0)) ∧ (RL9 hx cd nt nw ty P F a0 a1 u.2.2.2 ∧ (a0 = 5 ∨ dpt ((P.2.1 25)) (ix u.2.2.1) ((P.2.1 40) (ix a1))))) (fun u => (((u.2.2.2.2.1 68) (ix (u.2.2.2.1 33))).toInt).toNat) ?_ (⟨by (try clear hF hJ); (try clear hk16); grind [q_zz, q_za, q_zga, q_fza, q_fx, q_fga, q_gza, q_gfa, q_gx, q_zf1, q_zg1, q_ff, q_fg1, q_gf1, q_gg, ti_link, in1000, in200, in2200], by refine ⟨?_, ?_⟩ <;> ((try clear hk16); grind [→ W0_nw, → RF_nf, → RB_nb, ti_link])⟩)
    rintro ⟨x1, x2, x3, Sl16⟩ k16 hI16 hk16
    replace hI16 : (0 ≤ (Sl16.1 33).toInt ∧ (Sl16.1 33).toInt < 200 ∧ x1 = a0 ∧ x2 = a1 ∧ 0 ≤ x3.toInt ∧ (a0 = 5 → x3 = 0)) ∧ (RL9 hx cd nt nw ty P F a0 a1 Sl16 ∧ (a0 = 5 ∨ dpt ((P.2.1 25)) (ix x3) ((P.2.1 40) (ix a1)))) := hI16
    replace hk16 : ∀ v : Int32 × Int32 × Int32 × mS, (0 ≤ (v.2.2.2.1 33).toInt ∧ (v.2.2.2.1 33).toInt < 200 ∧ v.1 = a0 ∧ v.2.1 = a1 ∧ 0 ≤ v.2.2.1.toInt ∧ (a0 = 5 → v.2.2.1 = 0)) ∧ (RL9 hx cd nt nw ty P F a0 a1 v.2.2.2 ∧ (a0 = 5 ∨ dpt ((P.2.1 25)) (ix v.2.2.1) ((P.2.1 40) (ix a1)))) → (((v.2.2.2.2.1 68) (ix (v.2.2.2.1 33))).toInt).toNat < (((Sl16.2.1 68) (ix (Sl16.1 33))).toInt).toNat → k16 v := hk16
    show wp_leave_16 _ k16 x1 x2 x3 Sl16
    unfold wp_leave_16
    obtain ⟨hI16, iI16⟩ := hI16
    obtain ⟨⟨tr, w0, rf, rb, fs, an9⟩, dp9⟩ := iI16
    have  fr9 := RF_b rf
    have  fb9 := FW_b hF
    have  ww9 := hw
    have  df9 : dpt ((P.2.1 25)) (ix ((Sl16.2.1 68) (ix (Sl16.1 33)))) tr := rf.2.2.1
    refine ⟨by (try clear hF hJ iI16 w0 rf rb fs an9); (try clear hk16); grind [q_zz, q_za, q_zga, q_fza, q_fx, q_fga, q_gza, q_gfa, q_gx, q_zf1, q_zg1, q_ff, q_fg1, q_gf1, q_gg, ti_link, in1000, in200, in2200], ?_⟩
    intro z3 ez3
    refine ⟨fun c9 => ?_, fun c9 => ?_⟩
    · refine ⟨fun c10 => ?_, fun c10 => ?_⟩
      · refine ⟨fun c11 => ?_, fun c11 => ?_⟩
        · refine ⟨by (try clear hF hJ iI16 w0 rf rb fs an9); (try clear hk16); grind [q_zz, q_za, q_zga, q_fza, q_fx, q_fga, q_gza, q_gfa, q_gx, q_zf1, q_zg1, q_ff, q_fg1, q_gf1, q_gg, ti_link, in1000, in200, in2200], ?_⟩
          intro z7 ez7
          intro S8 eS8
          have wS8 : NW Sl16 S8 := NW_z eS8 (by decide)
          have bS8 : NB Sl16 S8 := NB_z eS8 (by decide)
          have vS8 : NF Sl16 S8 := NF_z eS8 (by decide)
          have t8 : (P.2.1 40) (ix x2) = tr := by
                have h5 : ¬ a0 = 5 := by (try clear hF hJ iI16 w0 rf rb fs an9 wS8 bS8 vS8); (try clear hk16); grind [q_zz, q_za, q_zga, q_fza, q_fx, q_fga, q_gza, q_gfa, q_gx, q_zf1, q_zg1, q_ff, q_fg1, q_gf1, q_gg, ti_link, in1000, in200, in2200]
                have ex : x2 = a1 := by (try clear hF hJ iI16 w0 rf rb fs an9 wS8 bS8 vS8); (try clear hk16); grind [q_zz, q_za, q_zga, q_fza, q_fx, q_fga, q_gza, q_gfa, q_gx, q_zf1, q_zg1, q_ff, q_fg1, q_gf1, q_gg, ti_link, in1000, in200, in2200]
                rw [ex]
                exact an_eq (an9.resolve_left h5) df9 (dp9.resolve_left h5) (ix_mono (by (try clear hF hJ iI16 w0 rf rb fs an9 wS8 bS8 vS8); (try clear hk16); grind [q_zz, q_za, q_zga, q_fza, q_fx, q_fga, q_gza, q_gfa, q_gx, q_zf1, q_zg1, q_ff, q_fg1, q_gf1, q_gg, ti_link, in1000, in200, in2200]))
          have g8 := FW_wh (w := x2) hF w0 (by (try clear hF hJ iI16 w0 rf rb fs an9 wS8 bS8 vS8 t8); (try clear hk16); grind [q_zz, q_za, q_zga, q_fza, q_fx, q_fga, q_gza, q_gfa, q_gx, q_zf1, q_zg1, q_ff, q_fg1, q_gf1, q_gg, ti_link, in1000, in200, in2200]) (by (try clear hF hJ iI16 w0 rf rb fs an9 wS8 bS8 vS8 t8); (try clear hk16); grind [q_zz, q_za, q_zga, q_fza, q_fx, q_fga, q_gza, q_gfa, q_gx, q_zf1, q_zg1, q_ff, q_fg1, q_gf1, q_gg, ti_link, in1000, in200, in2200])
          have p8 : S8.1 32 = (Sl16.2.1 42) (ix x2) := by
                rw [eS8]
                show z7 = _
                rw [ez7]
          have o8 : OUT hx cd nt nw ty P F S8 := Or.inr ⟨tr, W0_nw wS8 w0, RF_nf vS8 rf, RB_nb bS8 rb, by rw [p8, ← t8]; exact g8.1, by rw [FS_nf vS8]; exact fs⟩
          exact ⟨by (try clear hF hJ iI16 w0 rf rb fs an9 wS8 bS8 vS8 t8 g8 p8 o8); (try clear hk16); grind [q_zz, q_za, q_zga, q_fza, q_fx, q_fga, q_gza, q_gfa, q_gx, q_zf1, q_zg1, q_ff, q_fg1, q_gf1, q_gg, ti_link, in1000, in200, in2200], by refine ⟨?_, ?_⟩ <;> ((try clear hk16); grind [→ W0_nw, → RF_nf, → RB_nb, ti_link])⟩
        · refine ⟨by (try clear hF hJ iI16 w0 rf rb fs an9); (try clear hk16); grind [q_zz, q_za, q_zga, q_fza, q_fx, q_fga, q_gza, q_gfa, q_gx, q_zf1, q_zg1, q_ff, q_fg1, q_gf1, q_gg, ti_link, in1000, in200, in2200], ?_⟩
          intro z9 ez9
          intro S10 eS10
          have wS10 : NW Sl16 S10 := NW_z eS10 (by decide)
          have bS10 : NB Sl16 S10 := NB_z eS10 (by decide)
          have vS10 : NF Sl16 S10 := NF_z eS10 (by decide)
          have t10 : (P.2.1 40) (ix x2) = tr := by
                have h5 : ¬ a0 = 5 := by (try clear hF hJ iI16 w0 rf rb fs an9 wS10 bS10 vS10); (try clear hk16); grind [q_zz, q_za, q_zga, q_fza, q_fx, q_fga, q_gza, q_gfa, q_gx, q_zf1, q_zg1, q_ff, q_fg1, q_gf1, q_gg, ti_link, in1000, in200, in2200]
                have ex : x2 = a1 := by (try clear hF hJ iI16 w0 rf rb fs an9 wS10 bS10 vS10); (try clear hk16); grind [q_zz, q_za, q_zga, q_fza, q_fx, q_fga, q_gza, q_gfa, q_gx, q_zf1, q_zg1, q_ff, q_fg1, q_gf1, q_gg, ti_link, in1000, in200, in2200]
                rw [ex]
                exact an_eq (an9.resolve_left h5) df9 (dp9.resolve_left h5) (ix_mono (by (try clear hF hJ iI16 w0 rf rb fs an9 wS10 bS10 vS10); (try clear hk16); grind [q_zz, q_za, q_zga, q_fza, q_fx, q_fga, q_gza, q_gfa, q_gx, q_zf1, q_zg1, q_ff, q_fg1, q_gf1, q_gg, ti_link, in1000, in200, in2200]))
          have g10 := FW_wh (w := x2) hF w0 (by (try clear hF hJ iI16 w0 rf rb fs an9 wS10 bS10 vS10 t10); (try clear hk16); grind [q_zz, q_za, q_zga, q_fza, q_fx, q_fga, q_gza, q_gfa, q_gx, q_zf1, q_zg1, q_ff, q_fg1, q_gf1, q_gg, ti_link, in1000, in200, in2200]) (by (try clear hF hJ iI16 w0 rf rb fs an9 wS10 bS10 vS10 t10); (try clear hk16); grind [q_zz, q_za, q_zga, q_fza, q_fx, q_fga, q_gza, q_gfa, q_gx, q_zf1, q_zg1, q_ff, q_fg1, q_gf1, q_gg, ti_link, in1000, in200, in2200])
          have p10 : S10.1 32 = (Sl16.2.1 43) (ix x2) := by
                rw [eS10]
                show z9 = _
                rw [ez9]
          have o10 : OUT hx cd nt nw ty P F S10 := Or.inr ⟨tr, W0_nw wS10 w0, RF_nf vS10 rf, RB_nb bS10 rb, by rw [p10, ← t10]; exact g10.2.1, by rw [FS_nf vS10]; exact fs⟩
          exact ⟨by (try clear hF hJ iI16 w0 rf rb fs an9 wS10 bS10 vS10 t10 g10 p10 o10); (try clear hk16); grind [q_zz, q_za, q_zga, q_fza, q_fx, q_fga, q_gza, q_gfa, q_gx, q_zf1, q_zg1, q_ff, q_fg1, q_gf1, q_gg, ti_link, in1000, in200, in2200], by refine ⟨?_, ?_⟩ <;> ((try clear hk16); grind [→ W0_nw, → RF_nf, → RB_nb, ti_link])⟩
      · refine fq_ends _ _ _ _ _ _ (fun S11 hF12 pS11 => ?_) (sr_ends (hx := hx) (cd := cd) (nt := nt) (nw := nw) (ty := ty) (P := P) (u := (ST tr)) _ _ _ (by (try clear hF hJ iI16 w0 rf rb fs an9); (try clear hk16); grind [q_zz, q_za, q_zga, q_fza, q_fx, q_fga, q_gza, q_gfa, q_gx, q_zf1, q_zg1, q_ff, q_fg1, q_gf1, q_gg, ti_link, in1000, in200, in2200]) (by (try clear hk16); grind [→ W0_nw, → RF_nf, → RB_nb, ti_link]) (by (try clear hk16); grind [→ W0_nw, → RF_nf, → RB_nb, ti_link]))
        obtain ⟨pS11, qS11⟩ := pS11
        have vS11 : NF Sl16 S11 := NF_fr hF12 (by decide) (by decide)
        have z33_S11 := hF12.1 33 (by decide)
        clear hF12
        have o11 : OUT hx cd nt nw ty P F S11 := Or.inl qS11
        have o11b : OUT hx cd nt nw ty P (F - 1) S11 := Or.inl qS11
        exact ⟨by (try clear hF hJ iI16 w0 rf rb fs an9 qS11 vS11 o11 o11b); (try clear hk16); grind [q_zz, q_za, q_zga, q_fza, q_fx, q_fga, q_gza, q_gfa, q_gx, q_zf1, q_zg1, q_ff, q_fg1, q_gf1, q_gg, ti_link, in1000, in200, in2200], by refine ⟨?_, ?_⟩ <;> ((try clear hk16); grind [→ W0_nw, → RF_nf, → RB_nb, ti_link])⟩
    · intro z12 ez12
      refine ⟨by (try clear hF hJ iI16 w0 rf rb fs an9); (try clear hk16); grind [q_zz, q_za, q_zga, q_fza, q_fx, q_fga, q_gza, q_gfa, q_gx, q_zf1, q_zg1, q_ff, q_fg1, q_gf1, q_gg, ti_link, in1000, in200, in2200], ?_⟩
      intro z13 ez13
      intro z14 ez14
      intro z15 ez15
      have  k7 := RF_top (z := z15) rf (by (try clear hF hJ iI16 w0 rf rb fs an9); (try clear hk16); grind [q_zz, q_za, q_zga, q_fza, q_fx, q_fga, q_gza, q_gfa, q_gx, q_zf1, q_zg1, q_ff, q_fg1, q_gf1, q_gg, ti_link, in1000, in200, in2200]) (by (try clear hF hJ iI16 w0 rf rb fs an9); (try clear hk16); grind [q_zz, q_za, q_zga, q_fza, q_fx, q_fga, q_gza, q_gfa, q_gx, q_zf1, q_zg1, q_ff, q_fg1, q_gf1, q_gg, ti_link, in1000, in200, in2200]) (by (try clear hF hJ iI16 w0 rf rb fs an9); (try clear hk16); grind [q_zz, q_za, q_zga, q_fza, q_fx, q_fga, q_gza, q_gfa, q_gx, q_zf1, q_zg1, q_ff, q_fg1, q_gf1, q_gg, ti_link, in1000, in200, in2200])
      have  f7 := FRL_p k7.2.2.2
      have  e7 : (Sl16.2.1 69) (ix z15) = tr := k7.1
      have  g7 : 500 * hx ≤ tr.toInt ∧ tr.toInt < nt := ⟨k7.2.1, k7.2.2.1⟩
      have au9 : a0 = 5 ∨ an ((P.2.1 25)) ((P.2.1 40) (ix a1)) ((P.2.1 25) (ix tr)) := by
            rcases Decidable.em (a0 = 5) with h5 | h5
            · exact Or.inl h5
            · exact Or.inr (an_up (an9.resolve_left h5) df9 (dp9.resolve_left h5) (ix_smono (by (try clear hF hJ iI16 w0 rf rb fs an9); (try clear hk16); grind [q_zz, q_za, q_zga, q_fza, q_fx, q_fga, q_gza, q_gfa, q_gx, q_zf1, q_zg1, q_ff, q_fg1, q_gf1, q_gg, ti_link, in1000, in200, in2200]) (by (try clear hF hJ iI16 w0 rf rb fs an9); (try clear hk16); grind [q_zz, q_za, q_zga, q_fza, q_fx, q_fga, q_gza, q_gfa, q_gx, q_zf1, q_zg1, q_ff, q_fg1, q_gf1, q_gg, ti_link, in1000, in200, in2200])))
      refine ⟨by (try clear hF hJ iI16 w0 rf rb fs an9 au9); (try clear hk16); grind [q_zz, q_za, q_zga, q_fza, q_fx, q_fga, q_gza, q_gfa, q_gx, q_zf1, q_zg1, q_ff, q_fg1, q_gf1, q_gg, ti_link, in1000, in200, in2200], ?_⟩
      intro z16 ez16
      refine ⟨fun c13 => ?_, fun c13 => ?_⟩
      · unfold wp_leave_85
        refine ⟨by (try clear hF hJ iI16 w0 rf rb fs an9 au9); (try clear hk16); grind [q_zz, q_za, q_zga, q_fza, q_fx, q_fga, q_gza, q_gfa, q_gx, q_zf1, q_zg1, q_ff, q_fg1, q_gf1, q_gg, ti_link, in1000, in200, in2200], ?_⟩
        intro z22 ez22
        intro z23 ez23
        refine ⟨by (try clear hF hJ iI16 w0 rf rb fs an9 au9); (try clear hk16); grind [q_zz, q_za, q_zga, q_fza, q_fx, q_fga, q_gza, q_gfa, q_gx, q_zf1, q_zg1, q_ff, q_fg1, q_gf1, q_gg, ti_link, in1000, in200, in2200], ?_⟩
        intro S24 eS24
        have bS24 : NB Sl16 S24 := NB_f eS24 (by decide)
        have p24_ := RF_pop eS24 rf (by (try clear hF hJ iI16 w0 rf rb fs an9 au9 bS24); (try clear hk16); grind [q_zz, q_za, q_zga, q_fza, q_fx, q_fga, q_gza, q_gfa, q_gx, q_zf1, q_zg1, q_ff, q_fg1, q_gf1, q_gg, ti_link, in1000, in200, in2200]) (by (try clear hF hJ iI16 w0 rf rb fs an9 au9 bS24); (try clear hk16); grind [q_zz, q_za, q_zga, q_fza, q_fx, q_fga, q_gza, q_gfa, q_gx, q_zf1, q_zg1, q_ff, q_fg1, q_gf1, q_gg, ti_link, in1000, in200, in2200]) (by (try clear hF hJ iI16 w0 rf rb fs an9 au9 bS24); (try clear hk16); grind [q_zz, q_za, q_zga, q_fza, q_fx, q_fga, q_gza, q_gfa, q_gx, q_zf1, q_zg1, q_ff, q_fg1, q_gf1, q_gg, ti_link, in1000, in200, in2200]) (FW_tt hF)
        have r24 : RL9 hx cd nt nw ty P F a0 a1 S24 := ⟨_, W0_68 (t := Sl16.1 33) eS24 (by (try clear hF hJ iI16 w0 rf rb fs an9 au9 bS24 p24_); (try clear hk16); grind [q_zz, q_za, q_zga, q_fza, q_fx, q_fga, q_gza, q_gfa, q_gx, q_zf1, q_zg1, q_ff, q_fg1, q_gf1, q_gg, ti_link, in1000, in200, in2200]) rb.1.2.2.1 w0, p24_.1, RB_st _ (RB_fw eS24 (by decide) rb) rfl, by
              have q9 := p24_.2
              omega, au9⟩
        exact hk16 _ (⟨by (try clear hF hJ iI16 w0 rf rb fs an9 au9 bS24 p24_ r24); (try clear hk16); grind [q_zz, q_za, q_zga, q_fza, q_fx, q_fga, q_gza, q_gfa, q_gx, q_zf1, q_zg1, q_ff, q_fg1, q_gf1, q_gg, ti_link, in1000, in200, in2200], by refine ⟨?_, ?_⟩ <;> ((try clear hk16); grind [→ W0_nw, → RF_nf, → RB_nb, ti_link])⟩) (by (try clear hF hJ iI16 w0 rf rb fs an9 au9 bS24 p24_ r24); (try clear hk16); grind [q_zz, q_za, q_zga, q_fza, q_fx, q_fga, q_gza, q_gfa, q_gx, q_zf1, q_zg1, q_ff, q_fg1, q_gf1, q_gg, ti_link, in1000, in200, in2200])
      · refine ⟨by (try clear hF hJ iI16 w0 rf rb fs an9 au9); (try clear hk16); grind [q_zz, q_za, q_zga, q_fza, q_fx, q_fga, q_gza, q_gfa, q_gx, q_zf1, q_zg1, q_ff, q_fg1, q_gf1, q_gg, ti_link, in1000, in200, in2200], ?_⟩
        intro z18 ez18
        refine ⟨by (try clear hF hJ iI16 w0 rf rb fs an9 au9); (try clear hk16); grind [q_zz, q_za, q_zga, q_fza, q_fx, q_fga, q_gza, q_gfa, q_gx, q_zf1, q_zg1, q_ff, q_fg1, q_gf1, q_gg, ti_link, in1000, in200, in2200], ?_⟩
        intro z19 ez19
        have hh7 : z19 = (Sl16.2.1 29) (ix tr) := by (try clear hF hJ iI16 w0 rf rb fs an9 au9); (try clear hk16); grind [q_zz, q_za, q_zga, q_fza, q_fx, q_fga, q_gza, q_gfa, q_gx, q_zf1, q_zg1, q_ff, q_fg1, q_gf1, q_gg, ti_link, in1000, in200, in2200]
        have hl7 : FRL hx nw ((P.2.1 25)) ((P.2.1 40)) 2 x1 x2 ((P.2.1 25) (ix tr)) := by
              have ex1 : x1 = a0 := by (try clear hF hJ iI16 w0 rf rb fs an9 au9 hh7); (try clear hk16); grind [q_zz, q_za, q_zga, q_fza, q_fx, q_fga, q_gza, q_gfa, q_gx, q_zf1, q_zg1, q_ff, q_fg1, q_gf1, q_gg, ti_link, in1000, in200, in2200]
              have ex2 : x2 = a1 := by (try clear hF hJ iI16 w0 rf rb fs an9 au9 hh7); (try clear hk16); grind [q_zz, q_za, q_zga, q_fza, q_fx, q_fga, q_gza, q_gfa, q_gx, q_zf1, q_zg1, q_ff, q_fg1, q_gf1, q_gg, ti_link, in1000, in200, in2200]
              rw [ex1, ex2]
              exact FRL_l ww9 au9
        refine ⟨fun c14 => ?_, fun c14 => ?_⟩
        · unfold wp_leave_85
          refine ⟨by (try clear hF hJ iI16 w0 rf rb fs an9 au9 hh7 hl7); (try clear hk16); grind [q_zz, q_za, q_zga, q_fza, q_fx, q_fga, q_gza, q_gfa, q_gx, q_zf1, q_zg1, q_ff, q_fg1, q_gf1, q_gg, ti_link, in1000, in200, in2200], ?_⟩
          intro z22 ez22
          intro z23 ez23
          refine ⟨by (try clear hF hJ iI16 w0 rf rb fs an9 au9 hh7 hl7); (try clear hk16); grind [q_zz, q_za, q_zga, q_fza, q_fx, q_fga, q_gza, q_gfa, q_gx, q_zf1, q_zg1, q_ff, q_fg1, q_gf1, q_gg, ti_link, in1000, in200, in2200], ?_⟩
          intro S24 eS24
          have bS24 : NB Sl16 S24 := NB_f eS24 (by decide)
          have p24_ := RF_pop eS24 rf (by (try clear hF hJ iI16 w0 rf rb fs an9 au9 hh7 hl7 bS24); (try clear hk16); grind [q_zz, q_za, q_zga, q_fza, q_fx, q_fga, q_gza, q_gfa, q_gx, q_zf1, q_zg1, q_ff, q_fg1, q_gf1, q_gg, ti_link, in1000, in200, in2200]) (by (try clear hF hJ iI16 w0 rf rb fs an9 au9 hh7 hl7 bS24); (try clear hk16); grind [q_zz, q_za, q_zga, q_fza, q_fx, q_fga, q_gza, q_gfa, q_gx, q_zf1, q_zg1, q_ff, q_fg1, q_gf1, q_gg, ti_link, in1000, in200, in2200]) (by (try clear hF hJ iI16 w0 rf rb fs an9 au9 hh7 hl7 bS24); (try clear hk16); grind [q_zz, q_za, q_zga, q_fza, q_fx, q_fga, q_gza, q_gfa, q_gx, q_zf1, q_zg1, q_ff, q_fg1, q_gf1, q_gg, ti_link, in1000, in200, in2200]) (FW_tt hF)
          have r24 : RL9 hx cd nt nw ty P F a0 a1 S24 := ⟨_, W0_68 (t := Sl16.1 33) eS24 (by (try clear hF hJ iI16 w0 rf rb fs an9 au9 hh7 hl7 bS24 p24_); (try clear hk16); grind [q_zz, q_za, q_zga, q_fza, q_fx, q_fga, q_gza, q_gfa, q_gx, q_zf1, q_zg1, q_ff, q_fg1, q_gf1, q_gg, ti_link, in1000, in200, in2200]) rb.1.2.2.1 w0, p24_.1, RB_st _ (RB_fw eS24 (by decide) rb) rfl, by
                have q9 := p24_.2
                omega, au9⟩
          exact hk16 _ (⟨by (try clear hF hJ iI16 w0 rf rb fs an9 au9 hh7 hl7 bS24 p24_ r24); (try clear hk16); grind [q_zz, q_za, q_zga, q_fza, q_fx, q_fga, q_gza, q_gfa, q_gx, q_zf1, q_zg1, q_ff, q_fg1, q_gf1, q_gg, ti_link, in1000, in200, in2200], by refine ⟨?_, ?_⟩ <;> ((try clear hk16); grind [→ W0_nw, → RF_nf, → RB_nb, ti_link])⟩) (by (try clear hF hJ iI16 w0 rf rb fs an9 au9 hh7 hl7 bS24 p24_ r24); (try clear hk16); grind [q_zz, q_za, q_zga, q_fza, q_fx, q_fga, q_gza, q_gfa, q_gx, q_zf1, q_zg1, q_ff, q_fg1, q_gf1, q_gg, ti_link, in1000, in200, in2200])
        · refine fm_toFinish _ _ _ _ _ _ (fun S21 hF15 pS21 => ?_) (sg_toFinish (hx := hx) (cd := cd) (nt := nt) (nw := nw) (na := na) (ty := ty) (P := P) (tr := tr) _ _ _ (by (try clear hF hJ iI16 w0 rf rb fs an9 au9 hh7 hl7); (try clear hk16); grind [q_zz, q_za, q_zga, q_fza, q_fx, q_fga, q_gza, q_gfa, q_gx, q_zf1, q_zg1, q_ff, q_fg1, q_gf1, q_gg, ti_link, in1000, in200, in2200]) (by (try clear hF hJ iI16 w0 rf rb fs an9 au9 hh7 hl7); (try clear hk16); grind [q_zz, q_za, q_zga, q_fza, q_fx, q_fga, q_gza, q_gfa, q_gx, q_zf1, q_zg1, q_ff, q_fg1, q_gf1, q_gg, ti_link, in1000, in200, in2200]) (by (try clear hF hJ iI16 w0 rf rb fs an9 au9 hh7 hl7); (try clear hk16); grind [q_zz, q_za, q_zga, q_fza, q_fx, q_fga, q_gza, q_gfa, q_gx, q_zf1, q_zg1, q_ff, q_fg1, q_gf1, q_gg, ti_link, in1000, in200, in2200]) (by (try clear hk16); grind [→ W0_nw, → RF_nf, → RB_nb, ti_link]) (by (try clear hk16); grind [→ W0_nw, → RF_nf, → RB_nb, ti_link]) (by (try clear hk16); grind [→ W0_nw, → RF_nf, → RB_nb, ti_link]) (by (try clear hk16); grind [→ W0_nw, → RF_nf, → RB_nb, ti_link]) (by (try clear hk16); grind [→ W0_nw, → RF_nf, → RB_nb, ti_link]) (by (try clear hk16); grind [→ W0_nw, → RF_nf, → RB_nb, ti_link]))
          obtain ⟨pS21, qS21⟩ := pS21
          have bS21 : NB Sl16 S21 := NB_fr hF15 (by decide) (by decide)
          have z33_S21 := hF15.1 33 (by decide)
          clear hF15
          have o21b : OUT hx cd nt nw ty P (F - 1) S21 := Or.inr ⟨_, qS21.1, qS21.2.1, qS21.2.2.1, qS21.2.2.2.1, by
                have q9 := qS21.2.2.2.2.1
                have q8 : ((Sl16.2.1 70) (ix z15)).toInt ≤ 1 := by (try clear hF hJ iI16 w0 rf rb fs an9 au9 hh7 hl7 qS21 bS21); (try clear hk16); grind [q_zz, q_za, q_zga, q_fza, q_fx, q_fga, q_gza, q_gfa, q_gx, q_zf1, q_zg1, q_ff, q_fg1, q_gf1, q_gg, ti_link, in1000, in200, in2200]
                omega⟩
          have o21 : OUT hx cd nt nw ty P F S21 := OUT_m (by omega) o21b
          exact ⟨by (try clear hF hJ iI16 w0 rf rb fs an9 au9 hh7 hl7 qS21 bS21 o21b o21); (try clear hk16); grind [q_zz, q_za, q_zga, q_fza, q_fx, q_fga, q_gza, q_gfa, q_gx, q_zf1, q_zg1, q_ff, q_fg1, q_gf1, q_gg, ti_link, in1000, in200, in2200], by refine ⟨?_, ?_⟩ <;> ((try clear hk16); grind [→ W0_nw, → RF_nf, → RB_nb, ti_link])⟩
