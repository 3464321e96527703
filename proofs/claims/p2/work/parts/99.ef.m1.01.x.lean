
theorem W0_87 {hx : Nat} {cd nt nw : Int} {ty : Nat → T6} {P S : mS} {S1 : mS} (hW : W0 hx cd nt nw ty P S) (hs : STG (S1.1 30).toInt (S.1 29).toInt ((S1.2.1 87)) ((S.2.1 80)) (S.2.2 86)) (hF : Fr [30] [87] [] S S1) : W0 hx cd nt nw ty P S1 := by
  obtain ⟨wE, wT, wD, wY, wC, wL, wR⟩ := hW
  have z22 := hF.1 22 (by decide)
  have z23 := hF.1 23 (by decide)
  have z28 := hF.1 28 (by decide)
  have z29 := hF.1 29 (by decide)
  have e51 := hF.2.1 51 (by decide)
  have e52 := hF.2.1 52 (by decide)
  have e53 := hF.2.1 53 (by decide)
  have e54 := hF.2.1 54 (by decide)
  have e57 := hF.2.1 57 (by decide)
  have e60 := hF.2.1 60 (by decide)
  have e61 := hF.2.1 61 (by decide)
  have e64 := hF.2.1 64 (by decide)
  have e65 := hF.2.1 65 (by decide)
  have e66 := hF.2.1 66 (by decide)
  have e68 := hF.2.1 68 (by decide)
  have e69 := hF.2.1 69 (by decide)
  have e70 := hF.2.1 70 (by decide)
  have e71 := hF.2.1 71 (by decide)
  have e72 := hF.2.1 72 (by decide)
  have e73 := hF.2.1 73 (by decide)
  have e78 := hF.2.1 78 (by decide)
  have e80 := hF.2.1 80 (by decide)
  have e81 := hF.2.1 81 (by decide)
  have e82 := hF.2.1 82 (by decide)
  have e83 := hF.2.1 83 (by decide)
  have e84 := hF.2.1 84 (by decide)
  have e85 := hF.2.1 85 (by decide)
  refine ⟨⟨(hF.1 5 (by decide)).trans wE.1, fun j h5 hj => (hF.2.1 j (fun q => by rw [List.mem_singleton] at q; omega)).trans (wE.2 j h5 hj)⟩, ?_, ⟨ET_rf, ?_, ?_, ?_, ?_, ?_, ?_⟩, TYP_tr z22 e57 e68 e69 e70 e71 e72 (fun i q => by rw [e54] at q; exact q) wY, ?_, ?_, ?_⟩
  · unfold TREE at wT ⊢; rw [z22, z29, e52, e53, e81, e82, e85]; exact wT
  · rw [z22, z23, e54, e73]; exact wD.2.1
  · have q := wD.2.2.1; unfold D2 at q ⊢; rw [z22, e54, e60]; exact q
  · have q := wD.2.2.2.1; unfold D3 at q ⊢; rw [z22, z29, e80, e83, e84, e85, e53]; exact q
  · have q := wD.2.2.2.2.1; unfold D4 OFT at q ⊢; rw [z22, z29, e54, e65, e66, e85]; exact q
  · rw [z22, z28, e61]; exact wD.2.2.2.2.2.1
  · rw [z29, e80, hF.2.2 86 (by simp)]; exact hs
  · rw [e64]; exact wC
  · rw [e78]; exact wL
  · rw [z22, e51, e60]; exact wR
theorem sr_decides {hx : Nat} {cd nt nw : Int} {ty : Nat → T6} {P : mS} (a0 a1 a2 : Int32) {S : mS} (hn : 0 ≤ a0.toInt ∧ a0.toInt < (S.1 29).toInt) (hw : ¬ a1 = 0) (hW : W0 hx cd nt nw ty P S) : wq_decides a0 a1 a2 S (fun S1 => (S1.1 30).toInt ≤ (S.1 30).toInt ∧ W0 hx cd nt nw ty P S1) := fq_decides _ _ _ _ _ _ (fun S1 hF p => ⟨p.2.2.2, W0_rc hF p.1 p.2.1 hW⟩) (sq_decides (T := S) hW.2.1 hW.2.2.1 hn hw)
/-- a standing node is taken away and decided -/
theorem sr_comes {hx : Nat} {cd nt nw : Int} {ty : Nat → T6} {P : mS} (a0 a2 : Int32) {S : mS} {K : mS → Prop} (hn : 0 ≤ a0.toInt ∧ a0.toInt < (S.1 29).toInt) (hW : W0 hx cd nt nw ty P S) (hK : ∀ S1 : mS, W0 hx cd nt nw ty P S1 → (S1.1 30).toInt ≤ (S.1 30).toInt → ((S1.1 30).toInt < (S.1 30).toInt ∨ NIN (S.1 30).toInt ((S.2.1 87)) a0) → S1.1 24 = S.1 24 → K S1) : wp_standsNoMore a0 S (fun X => wq_decides a0 1 a2 X K) := by
  have stg := hW.2.2.1.2.2.2.2.2.2
  have nb := hW.2.1.1
  refine fm_standsNoMore _ _ _ _ (fun X f p => ?_) (sg_standsNoMore (nd := (S.1 29).toInt) (so := (S.2.1 80)) (da := S.2.2 86) (T := S) a0 ET_rf stg ⟨by omega, by omega⟩)
  obtain ⟨p1, p2, p3, p4⟩ := p
  have wX := W0_87 hW p2 f
  refine fq_decides _ _ _ _ _ _ (fun S1 f2 q => hK S1 q.2 (by have := q.1; omega) (p4.imp (fun g => by have := q.1; omega) id) ((f2.1 24 (by decide)).trans (f.1 24 (by decide)))) (sr_decides a0 1 a2 (by rw [f.1 29 (by decide)]; exact hn) (by decide) wX)
set_option maxHeartbeats 1000000 in
theorem sg_letter {hx : Nat} {cd nt nw : Int} {ty : Nat → T6} {P : mS} (a0 a1 : Int32) {S : mS} (hW : W0 hx cd nt nw ty P S) : wp_letter a0 a1 S (fun S1 r => W0 hx cd nt nw ty P S1) := by
  have q0 : (0 : Int32).toInt = 0 := rfl
  have q1 : (1 : Int32).toInt = 1 := rfl
  have q7 : (7 : Int32).toInt = 7 := rfl
  have q50 : (50 : Int32).toInt = 50 := rfl
  unfold wp_letter
  intro S1 e1
  have w1 := W0_nw (NW_z e1 (by decide)) hW
  refine ⟨fun _ => w1, fun c => ⟨fun c7 => ?_, fun _ => w1⟩⟩
  have h0 : 0 ≤ a0.toInt := by
    rcases Int.lt_or_le a0.toInt 0 with g | g
    · exact absurd (Int32.lt_iff_toInt_lt.mpr (by rw [q0]; exact g)) c
    · exact g
  have h7 := w_le c7
  rw [q7] at h7
  have st := W0_st w1
  have nb := w1.2.1.1
  have stg := w1.2.2.1.2.2.2.2.2.2
  refine it_rule (fun w : Int32 × Int32 × Int32 × mS => w.1 = a0 ∧ 0 ≤ w.2.2.1.toInt ∧ w.2.2.1.toInt ≤ (S1.1 30).toInt ∧ w.2.2.2 = S1) (fun w => ((S1.1 30).toInt - w.2.2.1.toInt).toNat) ?_ ⟨rfl, (show (0 : Int) ≤ (0 : Int32).toInt by decide), st.1, rfl⟩
  rintro ⟨x1, x2, x3, X⟩ k hI hk
  obtain ⟨i1, i2, i3, i4⟩ := hI
  have i1 : x1 = a0 := i1
  have i2 : 0 ≤ x3.toInt := i2
  have i3 : x3.toInt ≤ (S1.1 30).toInt := i3
  have i4 : X = S1 := i4
  show wp_letter_20 _ k x1 x2 x3 X
  rw [i1, i4]
  unfold wp_letter_20
  have ib : inR a0 8 := ⟨h0, by show a0.toInt < 8; omega⟩
  have lt := w1.2.2.2.2.2.1 (ix a0) (by unfold ix; omega)
  refine ⟨fun _ => ⟨ib, fun z5 e5 => ⟨fun c5 z7 e7 => ⟨ib, fun z8 e8 z9 e9 => ?_⟩, fun _ => w1⟩⟩, fun c3 => ?_⟩
  · have l5 : z8.toInt ≤ 49 ∧ 0 ≤ z8.toInt := by
      have n5 : z5.toInt ≠ 50 := fun h => c5 (Int32.toInt_inj.mp (h.trans q50.symm))
      rw [e8]
      rw [e5] at n5
      omega
    have h77 := w_mul e7 (by rw [q50]; omega)
    rw [q50] at h77
    have h9 := w_add e9 (by omega)
    refine ⟨⟨by omega, by show z9.toInt < 400; omega⟩, fun S10 e10 => ⟨ib, fun z11 e11 z12 e12 => ⟨ib, fun S13 e13 => ?_⟩⟩⟩
    have e11' : z11 = z8 := by rw [e11, e10, e8]; rfl
    have h12 := w_add e12 (by rw [q1, e11']; omega)
    rw [q1, e11'] at h12
    exact W0_78 e13 (by omega) (W0_nw (NW_f e10 (by decide)) w1)
  · have l3 : x3.toInt < (S1.1 30).toInt := by
      rcases Int.lt_or_le x3.toInt (S1.1 30).toInt with g | g
      · exact g
      · exact absurd (Int32.le_iff_toInt_le.mpr g) c3
    have nx : wp_letter_84 (fun S1 r => W0 hx cd nt nw ty P S1) k a0 x2 x3 S1 := by
      unfold wp_letter_84
      intro z22 e22
      have h22 := w_add e22 (by rw [q1]; omega)
      rw [q1] at h22
      exact hk (a0, x2, z22, S1) ⟨rfl, by show 0 ≤ z22.toInt; omega, by show z22.toInt ≤ _; omega, rfl⟩ (by show ((S1.1 30).toInt - z22.toInt).toNat < ((S1.1 30).toInt - x3.toInt).toNat; omega)
    refine ⟨⟨i2, by show x3.toInt < 100300; omega⟩, fun z14 e14 => ?_⟩
    have r14 : 0 ≤ z14.toInt ∧ z14.toInt < (S1.1 29).toInt := by rw [e14]; exact STG_in stg i2 l3
    have i14 : inR z14 100300 := ⟨r14.1, by show z14.toInt < 100300; omega⟩
    refine ⟨i14, fun z15 _ => ⟨fun _ => nx, fun _ => ⟨i14, fun z17 _ => ⟨fun _ => nx, fun _ => ⟨i14, fun z19 _ => ?_⟩⟩⟩⟩⟩
    exact sr_comes z14 x2 r14 w1 (fun Y wY _ _ _ => wY)
theorem sg_cancel {hx : Nat} {cd nt nw : Int} {ty : Nat → T6} {P : mS} (a0 : Int32) {S : mS} (hW : W0 hx cd nt nw ty P S) : wp_cancel a0 S (fun S1 r => W0 hx cd nt nw ty P S1) := by
  have q0 : (0 : Int32).toInt = 0 := rfl
  unfold wp_cancel
  intro S1 e1
  have w1 := W0_nw (NW_z e1 (by decide)) hW
  refine ⟨fun _ => w1, fun c => ⟨fun _ => w1, fun c2 => ?_⟩⟩
  have h0 : 0 ≤ a0.toInt := by
    rcases Int.lt_or_le a0.toInt 0 with g | g
    · exact absurd (Int32.lt_iff_toInt_lt.mpr (by rw [q0]; exact g)) c
    · exact g
  have h1 : a0.toInt < (S1.1 22).toInt := by
    rcases Int.lt_or_le a0.toInt (S1.1 22).toInt with g | g
    · exact g
    · exact absurd (Int32.le_iff_toInt_le.mpr g) c2
  refine fq_cancels _ _ _ _ (fun S4 r4 f p => ?_) (sq_cancels (T := S1) (a0 := a0) w1.2.1 w1.2.2.1 ⟨h0, h1⟩)
  have w4 := W0_rc f p.1 p.2.1 w1
  exact ⟨fun _ => w4, fun _ => w4⟩
theorem lgc_gt {x y : Int64} (h : 0 < lg_cmp x y) : y.toInt < x.toInt := by
  rcases Int.lt_or_le y.toInt x.toInt with g | g
  · exact g
  · have : ¬ 0 < lg_cmp x y := by
      unfold lg_cmp
      split
      · rename_i q
        exact absurd (Int64.lt_iff_toInt_lt.mp q) (by omega)
      · split <;> decide
    exact absurd h this
theorem lgc_ngt {x y : Int64} (h : ¬ 0 < lg_cmp x y) : x.toInt ≤ y.toInt := lgc_le (Int32.not_lt.mp h)
theorem lgc_ge {x y : Int64} (h : 0 ≤ lg_cmp x y) : y.toInt ≤ x.toInt := lgc_lt (Int32.not_lt.mpr h)
theorem lgc_nge {x y : Int64} (h : ¬ 0 ≤ lg_cmp x y) : x.toInt < y.toInt := by
  rcases Int.lt_or_le x.toInt y.toInt with g | g
  · exact g
  · exact absurd ((lg_cmp_ge x y).mpr (Int64.le_iff_toInt_le.mpr g)) h
/-- no tick is due at d -/
def NOD (d : Int) (S : mS) : Prop := ∀ i : Nat, (i : Int) < (S.1 30).toInt → (S.2.1 80) (ix ((S.2.1 87) i)) = 4 → d < (S.2.2 86 (ix ((S.2.1 87) i))).toInt
def DUE (d : Int) (S : mS) (r : Int32) : Prop := ∃ i : Nat, (i : Int) < (S.1 30).toInt ∧ (S.2.1 87) i = r ∧ (S.2.1 80) (ix r) = 4 ∧ (S.2.2 86 (ix r)).toInt ≤ d
theorem sp_due (a0 : Int64) {S : mS} {nd : Int} (h : STG (S.1 30).toInt nd ((S.2.1 87)) ((S.2.1 80)) (S.2.2 86)) (hn : 0 ≤ nd ∧ nd ≤ 100000) : wp_due a0 S (fun S1 r => S1 = S ∧ ((r = -1 ∧ NOD a0.toInt S) ∨ (0 ≤ r.toInt ∧ r.toInt < nd ∧ DUE a0.toInt S r))) := by
  have q1 : (1 : Int32).toInt = 1 := rfl
  have hle := STG_le h hn.1
  have h00 := h.1
  unfold wp_due
  refine it_rule (fun w : Int64 × Int32 × mS => w.1 = a0 ∧ 0 ≤ w.2.1.toInt ∧ w.2.1.toInt ≤ (S.1 30).toInt ∧ w.2.2 = S ∧ ∀ i : Nat, (i : Int) < w.2.1.toInt → (S.2.1 80) (ix ((S.2.1 87) i)) = 4 → a0.toInt < (S.2.2 86 (ix ((S.2.1 87) i))).toInt) (fun w => ((S.1 30).toInt - w.2.1.toInt).toNat) ?_ ⟨rfl, (show (0 : Int) ≤ (0 : Int32).toInt by decide), h00, rfl, fun i hi => absurd hi (by show ¬ (i : Int) < (0 : Int32).toInt; have : (0 : Int32).toInt = 0 := rfl; omega)⟩
  rintro ⟨x1, x3, X⟩ k hI hk
  obtain ⟨i1, i2, i3, i4, i5⟩ := hI
  have i1 : x1 = a0 := i1
  have i2 : 0 ≤ x3.toInt := i2
  have i3 : x3.toInt ≤ (S.1 30).toInt := i3
  have i4 : X = S := i4
  have i5 : ∀ i : Nat, (i : Int) < x3.toInt → (S.2.1 80) (ix ((S.2.1 87) i)) = 4 → a0.toInt < (S.2.2 86 (ix ((S.2.1 87) i))).toInt := i5
  show wp_due_2 _ k x1 x3 X
  rw [i1, i4]
  unfold wp_due_2
  refine ⟨fun c => ⟨rfl, Or.inl ⟨rfl, fun i hi => i5 i (by have := w_le c; omega)⟩⟩, fun c => ?_⟩
  have l3 : x3.toInt < (S.1 30).toInt := by
    rcases Int.lt_or_le x3.toInt (S.1 30).toInt with g | g
    · exact g
    · exact absurd (Int32.le_iff_toInt_le.mpr g) c
  have ex : ((ix x3 : Nat) : Int) = x3.toInt := by unfold ix; omega
  have nx : ((S.2.1 80) (ix ((S.2.1 87) (ix x3))) = 4 → a0.toInt < (S.2.2 86 (ix ((S.2.1 87) (ix x3)))).toInt) → wp_due_48 (fun S1 r => S1 = S ∧ ((r = -1 ∧ NOD a0.toInt S) ∨ (0 ≤ r.toInt ∧ r.toInt < nd ∧ DUE a0.toInt S r))) k a0 x3 S := by
    intro hh
    unfold wp_due_48
    intro z10 e10
    have h10 := w_add e10 (by rw [q1]; omega)
    rw [q1] at h10
    refine hk (a0, z10, S) ⟨rfl, by show 0 ≤ z10.toInt; omega, by show z10.toInt ≤ _; omega, rfl, fun i hi => ?_⟩ (by show ((S.1 30).toInt - z10.toInt).toNat < ((S.1 30).toInt - x3.toInt).toNat; omega)
    have hi : (i : Int) < z10.toInt := hi
    rcases Decidable.em (i = ix x3) with d | d
    · rw [d]; exact hh
    · exact i5 i (by omega)
  have ix3 : inR x3 100300 := ⟨i2, by show x3.toInt < 100300; omega⟩
  have sg := STG_in h i2 l3
  refine ⟨ix3, fun z2 e2 => ?_⟩
  have i2' : inR z2 100300 := by rw [e2]; exact ⟨sg.1, by show (S.2.1 87 (ix x3)).toInt < 100300; omega⟩
  refine ⟨i2', fun z3 e3 => ⟨fun c3 => nx (fun g => absurd (by rw [e3, e2]; exact g) c3), fun c3 => ⟨ix3, fun z5 e5 => ?_⟩⟩⟩
  have e52 : z5 = z2 := e5.trans e2.symm
  refine ⟨by rw [e52]; exact i2', fun z6 e6 z7 e7 => ⟨fun c7 => nx (fun _ => ?_), fun c7 => ⟨ix3, fun z9 e9 => ⟨rfl, Or.inr ?_⟩⟩⟩⟩
  · rw [e7] at c7
    have g := lgc_gt c7
    rw [e6, e5] at g
    exact g
  · rw [e7] at c7
    have g := lgc_ngt c7
    rw [e6] at g
    have e95 : z9 = z5 := e9.trans e5.symm
    refine ⟨by rw [e9]; exact sg.1, by rw [e9]; exact sg.2, ix x3, by omega, e9.symm, ?_, by rw [e95]; exact g⟩
    rw [e95, e52, ← e3]; exact c3
theorem t64_32 {x : Int64} (h : -2147483648 ≤ x.toInt ∧ x.toInt < 2147483648) : (Int64.toInt32 x).toInt = x.toInt := by
  rw [Int64.toInt_toInt32]
  exact ti_bm h
set_option maxHeartbeats 2000000 in
theorem sg_tick {hx : Nat} {cd nt nw : Int} {ty : Nat → T6} {P : mS} (a0 : Int32) {S : mS} (hc : 0 ≤ (S.1 24).toInt ∧ (S.1 24).toInt ≤ 1000000000) (hW : W0 hx cd nt nw ty P S) : wp_tick a0 S (fun S1 r => W0 hx cd nt nw ty P S1 ∧ 0 ≤ (S1.1 24).toInt ∧ (S1.1 24).toInt ≤ (S.1 24).toInt + 10000) := by
  have q0 : (0 : Int32).toInt = 0 := rfl
  have q1 : (1 : Int32).toInt = 1 := rfl
  have qk : (10000 : Int32).toInt = 10000 := rfl
  unfold wp_tick
  intro S1 e1
  have w1 := W0_nw (NW_z e1 (by decide)) hW
  have c1 : S1.1 24 = S.1 24 := by rw [e1]; rfl
  have p1 : W0 hx cd nt nw ty P S1 ∧ 0 ≤ (S1.1 24).toInt ∧ (S1.1 24).toInt ≤ (S.1 24).toInt + 10000 := ⟨w1, by rw [c1]; exact hc.1, by rw [c1]; omega⟩
  refine ⟨fun _ => p1, fun c => ⟨fun c4 z4 e4 => ?_, fun _ => p1⟩⟩
  have h0 : 0 ≤ a0.toInt := by
    rcases Int.lt_or_le a0.toInt 0 with g | g
    · exact absurd (Int32.lt_iff_toInt_lt.mpr (by rw [q0]; exact g)) c
    · exact g
  have hk := w_le c4
  rw [qk] at hk
  have h4 := w_add e4 (by rw [c1]; omega)
  rw [c1] at h4
  refine it_rule (fun w : Int32 × mS => w.1 = z4 ∧ W0 hx cd nt nw ty P w.2) (fun w => (w.2.1 30).toInt.toNat) ?_ ⟨rfl, w1⟩
  rintro ⟨x2, X⟩ k25 hI hk25
  obtain ⟨i1, i2⟩ := hI
  have i1 : x2 = z4 := i1
  have wX : W0 hx cd nt nw ty P X := i2
  show wp_tick_25 _ k25 x2 X
  rw [i1]
  unfold wp_tick_25
  intro z5 e5
  have h5 : z5.toInt = z4.toInt := by rw [e5, Int32.toInt_toInt64]
  have stg := wX.2.2.1.2.2.2.2.2.2
  have nb := wX.2.1.1
  have st := W0_st wX
  refine fm_due _ _ _ _ (fun S6 r6 _ p6 => ?_) (sp_due z5 stg ⟨by omega, by omega⟩)
  obtain ⟨p6, p7⟩ := p6
  rw [p6]
  refine ⟨fun _ S8 e8 => ⟨W0_nw (NW_z e8 (by decide)) wX, by rw [e8]; show 0 ≤ z4.toInt; omega, by rw [e8]; show z4.toInt ≤ _; omega⟩, fun c6 z9 e9 => ?_⟩
  have d6 : DUE z4.toInt X r6 := by
    rcases p7 with g | g
    · exact absurd (show r6 < 0 by rw [g.1]; decide) c6
    · rw [← h5]; exact g.2.2
  have h9 : z9.toInt = z4.toInt := by rw [e9, Int32.toInt_toInt64]
  obtain ⟨i0, i01, i02, i03, i04⟩ := d6
  -- the least date
  refine it_rule (fun w : Int32 × Int64 × Int32 × mS => w.1 = z4 ∧ w.2.2.2 = X ∧ 0 ≤ w.2.2.1.toInt ∧ w.2.2.1.toInt ≤ (X.1 30).toInt ∧ 0 ≤ w.2.1.toInt ∧ w.2.1.toInt ≤ z4.toInt ∧ (w.2.1.toInt = z4.toInt ∨ ∃ r, DUE w.2.1.toInt X r)) (fun w => ((X.1 30).toInt - w.2.2.1.toInt).toNat) ?_ ⟨rfl, rfl, (show (0 : Int) ≤ (0 : Int32).toInt by decide), st.1, by show 0 ≤ z9.toInt; omega, by show z9.toInt ≤ _; omega, Or.inl h9⟩
  rintro ⟨y2, x3, x5, Y⟩ k40 hJ hk40
  obtain ⟨j1, j2, j3, j4, j5, j6, j7⟩ := hJ
  have j1 : y2 = z4 := j1
  have j2 : Y = X := j2
  have j3 : 0 ≤ x5.toInt := j3
  have j4 : x5.toInt ≤ (X.1 30).toInt := j4
  have j5 : 0 ≤ x3.toInt := j5
  have j6 : x3.toInt ≤ z4.toInt := j6
  have j7 : x3.toInt = z4.toInt ∨ ∃ r, DUE x3.toInt X r := j7
  show wp_tick_40 _ k25 k40 y2 x3 x5 Y
  rw [j1, j2]
  unfold wp_tick_40
  have r4 := ti_rng z4
  refine ⟨fun _ z11 e11 S12 e12 z13 e13 => ?_, fun c5 => ?_⟩
  · -- all that is due comes
    have h11 : z11.toInt = x3.toInt := by rw [e11]; exact t64_32 ⟨by omega, by omega⟩
    have w12 := W0_nw (NW_z e12 (by decide)) wX
    have c12 : S12.1 24 = z11 := by rw [e12]; rfl
    have h13 : z13.toInt = x3.toInt := by rw [e13, Int32.toInt_toInt64, c12]; exact h11
    have f12 : S12.2 = X.2 := by rw [e12]; rfl
    have s12 : S12.1 30 = X.1 30 := by rw [e12]; rfl
    have nb12 : S12.1 29 = X.1 29 := by rw [e12]; rfl
    refine fm_due _ _ _ _ (fun S14 r14 _ p14 => ?_) (sp_due z13 w12.2.2.1.2.2.2.2.2.2 ⟨by rw [nb12]; omega, by rw [nb12]; omega⟩)
    obtain ⟨p14, p15⟩ := p14
    rw [p14]
    have r14' : 0 ≤ r14.toInt ∧ r14.toInt < (S12.1 29).toInt ∧ DUE x3.toInt S12 r14 := by
      rcases p15 with g | g
      · have nod := g.2
        rw [h13] at nod
        rcases j7 with u | u
        · have q := nod i0 (by rw [s12]; exact i01) (by rw [f12, i02]; exact i03)
          rw [f12, i02] at q
          omega
        · obtain ⟨r, i, u1, u2, u3, u4⟩ := u
          have q := nod i (by rw [s12]; exact u1) (by rw [f12, u2]; exact u3)
          rw [f12, u2] at q
          omega
      · rw [h13] at g; exact g
    refine it_rule (fun w : Int32 × Int32 × mS => w.1 = z4 ∧ W0 hx cd nt nw ty P w.2.2 ∧ (w.2.2.1 30).toInt ≤ (X.1 30).toInt ∧ (w.2.1.toInt < 0 → (w.2.2.1 30).toInt < (X.1 30).toInt) ∧ (0 ≤ w.2.1.toInt → w.2.1.toInt < (w.2.2.1 29).toInt ∧ ∃ i : Nat, (i : Int) < (w.2.2.1 30).toInt ∧ w.2.2.2.1 87 i = w.2.1) ∧ (0 ≤ w.2.1.toInt ∨ w.2.1 = -1)) (fun w => (w.2.2.1 30).toInt.toNat + (if 0 ≤ w.2.1.toInt then 1 else 0)) ?_ ⟨rfl, w12, by show (S12.1 30).toInt ≤ _; rw [s12]; exact Int.le_refl _, fun g => absurd (show r14.toInt < 0 from g) (by omega), fun _ => ⟨r14'.2.1, by obtain ⟨i, a, b, _⟩ := r14'.2.2; exact ⟨i, a, b⟩⟩, Or.inl r14'.1⟩
    rintro ⟨v2, v5, Z⟩ k116 hL hk116
    obtain ⟨l1, l2, l3, l4, l5, l6⟩ := hL
    have l1 : v2 = z4 := l1
    have wZ : W0 hx cd nt nw ty P Z := l2
    have l3 : (Z.1 30).toInt ≤ (X.1 30).toInt := l3
    have l4 : v5.toInt < 0 → (Z.1 30).toInt < (X.1 30).toInt := l4
    have l5 : 0 ≤ v5.toInt → v5.toInt < (Z.1 29).toInt ∧ ∃ i : Nat, (i : Int) < (Z.1 30).toInt ∧ (Z.2.1 87) i = v5 := l5
    show wp_tick_116 _ k25 k116 v2 v5 Z
    rw [l1]
    have stZ := W0_st wZ
    unfold wp_tick_116
    refine ⟨fun g => ?_, fun g => ?_⟩
    · have g' := w_lt g
      rw [q0] at g'
      exact hk25 (z4, Z) ⟨rfl, wZ⟩ (by show (Z.1 30).toInt.toNat < (X.1 30).toInt.toNat; have := l4 g'; omega)
    · have g0 : 0 ≤ v5.toInt := by
        rcases Int.lt_or_le v5.toInt 0 with u | u
        · exact absurd (Int32.lt_iff_toInt_lt.mpr (by rw [q0]; exact u)) g
        · exact u
      obtain ⟨m1, i, m2, m3⟩ := l5 g0
      refine sr_comes v5 0 ⟨g0, m1⟩ wZ (fun V wV n1 n2 _ z26 e26 => ?_)
      have n3 : (V.1 30).toInt < (Z.1 30).toInt := n2.resolve_right (fun nn => nn i m2 m3)
      have nbV := wV.2.1.1
      refine fm_due _ _ _ _ (fun S27 r27 _ p27 => ?_) (sp_due z26 wV.2.2.1.2.2.2.2.2.2 ⟨by omega, by omega⟩)
      obtain ⟨p27, p28⟩ := p27
      rw [p27]
      have stV := W0_st wV
      refine hk116 (z4, r27, V) ⟨rfl, wV, by show (V.1 30).toInt ≤ _; omega, fun _ => by show (V.1 30).toInt < _; omega, fun u => ?_, ?_⟩ ?_
      · rcases p28 with h | h
        · have u : 0 ≤ r27.toInt := u
          rw [h.1] at u; exact absurd u (by decide)
        · obtain ⟨i, a, b, _⟩ := h.2.2
          exact ⟨h.2.1, i, a, b⟩
      · rcases p28 with h | h
        · exact Or.inr h.1
        · exact Or.inl h.1
      · show (V.1 30).toInt.toNat + (if 0 ≤ r27.toInt then 1 else 0) < (Z.1 30).toInt.toNat + (if 0 ≤ v5.toInt then 1 else 0)
        rw [if_pos g0]
        split <;> omega
  · have l5 : x5.toInt < (X.1 30).toInt := by
      rcases Int.lt_or_le x5.toInt (X.1 30).toInt with g | g
      · exact g
      · exact absurd (Int32.le_iff_toInt_le.mpr g) c5
    have sg := STG_in stg j3 l5
    have nx : ∀ y0 : Int64, 0 ≤ y0.toInt → y0.toInt ≤ z4.toInt → (y0.toInt = z4.toInt ∨ ∃ r, DUE y0.toInt X r) → wp_tick_92 (fun S1 r => W0 hx cd nt nw ty P S1 ∧ 0 ≤ (S1.1 24).toInt ∧ (S1.1 24).toInt ≤ (S.1 24).toInt + 10000) k25 k40 z4 x5 y0 X := by
      intro y0 u1 u2 u3
      unfold wp_tick_92
      intro z22 e22
      have h22 := w_add e22 (by rw [q1]; omega)
      rw [q1] at h22
      exact hk40 (z4, y0, z22, X) ⟨rfl, rfl, by show 0 ≤ z22.toInt; omega, by show z22.toInt ≤ _; omega, u1, u2, u3⟩ (by show ((X.1 30).toInt - z22.toInt).toNat < ((X.1 30).toInt - x5.toInt).toNat; omega)
    have n91 : wp_tick_91 (fun S1 r => W0 hx cd nt nw ty P S1 ∧ 0 ≤ (S1.1 24).toInt ∧ (S1.1 24).toInt ≤ (S.1 24).toInt + 10000) k25 k40 z4 x3 x5 X := nx x3 j5 j6 j7
    refine ⟨⟨j3, by show x5.toInt < 100300; omega⟩, fun z15 e15 => ?_⟩
    have i15 : inR z15 100300 := by rw [e15]; exact ⟨sg.1, by show (X.2.1 87 (ix x5)).toInt < 100300; omega⟩
    refine ⟨i15, fun z16 e16 => ⟨fun _ => n91, fun c16 => ⟨i15, fun z18 e18 z19 e19 => ⟨fun _ => n91, fun c19 => ⟨i15, fun z21 e21 => ?_⟩⟩⟩⟩⟩
    have g19 := lgc_nge (by rw [← e19]; exact c19)
    have dt := (stg.2.1 (ix x5) (by unfold ix; omega)).2.2 (by rw [← e15, ← e16]; exact c16)
    have e2118 : z21 = z18 := e21.trans e18.symm
    have d18 : z18 = X.2.2 86 (ix ((X.2.1 87) (ix x5))) := by rw [e18, e15]
    refine nx z21 ?_ ?_ (Or.inr ⟨z15, ix x5, by unfold ix; omega, e15.symm, by rw [← e16]; exact c16, by rw [← e21]; exact Int.le_refl _⟩)
    · rw [e2118, d18]; omega
    · rw [e2118]; omega
