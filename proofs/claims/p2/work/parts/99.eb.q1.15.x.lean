
theorem sg_live {hx : Nat} {na nt nw : Int} {T : mS} (a0 a1 a2 : Int32) {S : mS} (hE : EQ T S) (hW : LW hx na nt nw T) : wp_live a0 a1 a2 S (fun S1 r => EQ T S1) := by
  have b := LW_b hW
  have q1 : (1 : Int32).toInt = 1 := rfl
  have q0 : (0 : Int32).toInt = 0 := rfl
  have q12 : (12 : Int32).toInt = 12 := rfl
  unfold wp_live
  intro S1 e1
  have E1 : EQ T S1 := by rw [e1]; exact EQ_z hE (by decide)
  refine fm_isState _ _ _ _ _ (fun S2 r2 _ p => ?_) (sg_isState (hx := hx) (na := na) (nt := nt) (nw := nw) (T := T) a0 a1 E1 hW)
  obtain ⟨p1, p2⟩ := p
  have E2 : EQ T S2 := by rw [p1]; exact E1
  refine ⟨fun _ => E2, fun c => ⟨fun _ => E2, fun c2 z5 e5 z6 e6 => ?_⟩⟩
  have p3 := (p2.resolve_left c).2
  have h5 : (S2.1 5).toInt = hx := by rw [E2.1]; exact b.1
  have r12 := b.2.2.2.2.2.2
  have hx1 := b.2.1
  have h55 := w_mul e5 (by rw [q12]; omega)
  rw [q12] at h55
  have h6 := w_add e6 (by omega)
  refine ⟨⟨by omega, by show z6.toInt < 24; omega⟩, fun z7 e7 => ⟨fun _ z9 e9 z10 e10 => ?_, fun _ => E2⟩⟩
  have h9 := w_mul e9 (by rw [q12]; omega)
  rw [q12] at h9
  have h10 := w_add e10 (by omega)
  have ez10 : z10 = 12 * (T.1 5) + a0 := by rw [e10, e9, E2.1]
  have p4 := p3
  rw [← ez10] at p4
  refine fm_from _ _ _ _ _ (fun S11 _ p => ?_) (sg_from (hx := hx) (na := na) (nt := nt) (nw := nw) (T := T) z10 a1 E2 hW ⟨by omega, by omega⟩ ⟨p4.2.2.1, p4.2.2.2⟩)
  refine it_rule (fun w : Int32 × Int32 × mS => EQ T w.2.2 ∧ LI hx na w.2.2 ∧ w.2.1 = z10) (fun w => (2 * (12000 - CN (w.2.2.2.1 49)) + (w.2.2.1 21).toInt).toNat) ?_ ⟨p.1, p.2, rfl⟩
  rintro ⟨x3, x4, X⟩ k hI hk
  obtain ⟨i1, i2, i3⟩ := hI
  have i1 : EQ T X := i1
  have i2 : LI hx na X := i2
  have i3 : x4 = z10 := i3
  show wp_live_56 _ k x3 x4 X
  unfold wp_live_56
  refine ⟨fun _ => i1, fun c zz ez Y eY => ?_⟩
  · exact (by
    have h21 : 0 < (X.1 21).toInt := by
      rcases Int.lt_or_le 0 (X.1 21).toInt with g | g
      · exact g
      · exact absurd (Int32.le_iff_toInt_le.mpr (by rw [q0]; exact g)) c
    have li := i2
    obtain ⟨l1, l2, l3, l4⟩ := i2
    have hz := w_sub ez (by rw [q1]; omega)
    rw [q1] at hz
    have o14 : Y.1 21 = zz := by rw [eY]; rfl
    have f14 : Y.2.1 = X.2.1 := by rw [eY]; rfl
    have E14 : EQ T Y := by rw [eY]; exact EQ_z i1 (by decide)
    have L14 : LI hx na Y := by
      refine ⟨by rw [o14]; omega, by rw [o14, f14]; omega, by rw [f14]; exact l3, ?_⟩
      rw [o14, f14]
      exact SK_dn l4 (by omega)
    have m14 : 2 * (12000 - CN ((Y.2.1 49))) + (Y.1 21).toInt = 2 * (12000 - CN ((X.2.1 49))) + (X.1 21).toInt - 1 := by rw [o14, f14]; omega
    refine ⟨by rw [o14]; exact ⟨by omega, by show zz.toInt < 12000; omega⟩, fun za ea => ?_⟩
    have ha : 12000 * hx ≤ za.toInt ∧ za.toInt < na := by
      rw [ea, f14, o14]
      exact SK_in l4 (by omega) (by omega)
    have i15 : inR za 24000 := ⟨by omega, by show za.toInt < 24000; omega⟩
    have i4 : inR x4 24 := by rw [i3]; exact ⟨by omega, by show z10.toInt < 24; omega⟩
    have hend : ∀ z24 : Int32, z24 = Y.2.1 23 (ix x4) → 12000 * hx ≤ z24.toInt ∧ z24.toInt < na := fun z24 e24 => by
      rw [e24, EQ_r (T := T) (k := 23) E14 (by decide), i3]
      exact (LW_22 hW (by omega) (by omega)).2.1
    have k149 : ∀ Z : mS, EQ T Z → LI hx na Z → 2 * (12000 - CN ((Z.2.1 49))) + (Z.1 21).toInt ≤ 2 * (12000 - CN ((Y.2.1 49))) + (Y.1 21).toInt → k (x3, x4, Z) := fun Z z1 z2 z3 => hk (x3, x4, Z) ⟨z1, z2, i3⟩ (by
      show (2 * (12000 - CN ((Z.2.1 49))) + (Z.1 21).toInt).toNat < (2 * (12000 - CN ((X.2.1 49))) + (X.1 21).toInt).toNat
      have := z2.1
      have := z2.2.2.1
      omega)
    have k136 : wp_live_136 (fun S1 r => EQ T S1) k x3 x4 za Y := by
      unfold wp_live_136
      refine ⟨i4, fun z24 e24 => ?_⟩
      refine fm_goOn _ _ _ _ _ (fun S25 _ p => k149 S25 p.1 p.2.1 p.2.2) (sg_goOn (hx := hx) (na := na) (nt := nt) (nw := nw) (T := T) za z24 E14 hW L14 (hend z24 e24) ha)
    have k120 : ∀ y : Int32, wp_live_120 (fun S1 r => EQ T S1) k x3 x4 za y Y := by
      intro y
      unfold wp_live_120
      exact ⟨fun _ => k136, fun _ => ⟨i15, fun z22 _ => ⟨fun _ => k149 Y E14 L14 (Int.le_refl _), fun _ => k136⟩⟩⟩
    have k100 : ∀ y : Int32, wp_live_100 (fun S1 r => EQ T S1) k x3 x4 za y Y := by
      intro y
      unfold wp_live_100
      exact ⟨fun _ => k120 y, fun _ => ⟨i15, fun z19 _ => ⟨fun _ => k120 y, fun _ => E14⟩⟩⟩
    exact ⟨i15, fun z16 _ => ⟨fun _ => k100 0, fun _ => k100 1⟩⟩)
theorem sg_next {hx : Nat} {na nt nw : Int} {T : mS} (a0 a1 a2 : Int32) {S : mS} (hE : EQ T S) (hW : LW hx na nt nw T) : wp_next a0 a1 a2 S (fun S1 r => EQ T S1) := by
  have b := LW_b hW
  have q1 : (1 : Int32).toInt = 1 := rfl
  have q0 : (0 : Int32).toInt = 0 := rfl
  have q12 : (12 : Int32).toInt = 12 := rfl
  unfold wp_next
  intro S1 e1
  have E1 : EQ T S1 := by rw [e1]; exact EQ_z hE (by decide)
  refine fm_isState _ _ _ _ _ (fun S2 r2 _ p => ?_) (sg_isState (hx := hx) (na := na) (nt := nt) (nw := nw) (T := T) a0 a1 E1 hW)
  obtain ⟨p1, p2⟩ := p
  have E2 : EQ T S2 := by rw [p1]; exact E1
  refine ⟨fun _ => E2, fun c => ?_⟩
  have p3 := (p2.resolve_left c).2
  refine fm_isState _ _ _ _ _ (fun S4 r4 _ p => ?_) (sg_isState (hx := hx) (na := na) (nt := nt) (nw := nw) (T := T) a0 a2 E2 hW)
  have E4 : EQ T S4 := by rw [p.1]; exact E2
  refine ⟨fun _ z6 e6 z10 e10 => ?_, fun _ => E4⟩
  have h5 : (S4.1 5).toInt = hx := by rw [E4.1]; exact b.1
  have r12 := b.2.2.2.2.2.2
  have hx1 := b.2.1
  have h9 := w_mul e6 (by rw [q12]; omega)
  rw [q12] at h9
  have h10 := w_add e10 (by omega)
  have ez10 : z10 = 12 * (T.1 5) + a0 := by rw [e10, e6, E4.1]
  have p4 := p3
  rw [← ez10] at p4
  refine fm_from _ _ _ _ _ (fun S11 _ p => ?_) (sg_from (hx := hx) (na := na) (nt := nt) (nw := nw) (T := T) z10 a1 E4 hW ⟨by omega, by omega⟩ ⟨p4.2.2.1, p4.2.2.2⟩)
  refine it_rule (fun w : Int32 × Int32 × Int32 × mS => EQ T w.2.2.2 ∧ LI hx na w.2.2.2 ∧ w.2.1 = z10) (fun w => (2 * (12000 - CN (w.2.2.2.2.1 49)) + (w.2.2.2.1 21).toInt).toNat) ?_ ⟨p.1, p.2, rfl⟩
  rintro ⟨x3, x4, x5, X⟩ k hI hk
  obtain ⟨i1, i2, i3⟩ := hI
  have i1 : EQ T X := i1
  have i2 : LI hx na X := i2
  have i3 : x4 = z10 := i3
  show wp_next_46 _ k x3 x4 x5 X
  unfold wp_next_46
  refine ⟨fun _ => ⟨fun _ => i1, fun _ => i1⟩, fun c zz ez Y eY => ?_⟩
  · exact (by
    have h21 : 0 < (X.1 21).toInt := by
      rcases Int.lt_or_le 0 (X.1 21).toInt with g | g
      · exact g
      · exact absurd (Int32.le_iff_toInt_le.mpr (by rw [q0]; exact g)) c
    have li := i2
    obtain ⟨l1, l2, l3, l4⟩ := i2
    have hz := w_sub ez (by rw [q1]; omega)
    rw [q1] at hz
    have o14 : Y.1 21 = zz := by rw [eY]; rfl
    have f14 : Y.2.1 = X.2.1 := by rw [eY]; rfl
    have E14 : EQ T Y := by rw [eY]; exact EQ_z i1 (by decide)
    have L14 : LI hx na Y := by
      refine ⟨by rw [o14]; omega, by rw [o14, f14]; omega, by rw [f14]; exact l3, ?_⟩
      rw [o14, f14]
      exact SK_dn l4 (by omega)
    have m14 : 2 * (12000 - CN ((Y.2.1 49))) + (Y.1 21).toInt = 2 * (12000 - CN ((X.2.1 49))) + (X.1 21).toInt - 1 := by rw [o14, f14]; omega
    refine ⟨by rw [o14]; exact ⟨by omega, by show zz.toInt < 12000; omega⟩, fun za ea => ?_⟩
    have ha : 12000 * hx ≤ za.toInt ∧ za.toInt < na := by
      rw [ea, f14, o14]
      exact SK_in l4 (by omega) (by omega)
    have i15 : inR za 24000 := ⟨by omega, by show za.toInt < 24000; omega⟩
    have i4 : inR x4 24 := by rw [i3]; exact ⟨by omega, by show z10.toInt < 24; omega⟩
    have hend : ∀ z24 : Int32, z24 = Y.2.1 23 (ix x4) → 12000 * hx ≤ z24.toInt ∧ z24.toInt < na := fun z24 e24 => by
      rw [e24, EQ_r (T := T) (k := 23) E14 (by decide), i3]
      exact (LW_22 hW (by omega) (by omega)).2.1
    have k154 : ∀ (y : Int32) (Z : mS), EQ T Z → LI hx na Z → 2 * (12000 - CN ((Z.2.1 49))) + (Z.1 21).toInt ≤ 2 * (12000 - CN ((Y.2.1 49))) + (Y.1 21).toInt → k (x3, x4, y, Z) := fun y Z z1 z2 z3 => hk (x3, x4, y, Z) ⟨z1, z2, i3⟩ (by
      show (2 * (12000 - CN ((Z.2.1 49))) + (Z.1 21).toInt).toNat < (2 * (12000 - CN ((X.2.1 49))) + (X.1 21).toInt).toNat
      have := z2.1
      have := z2.2.2.1
      omega)
    have k139 : ∀ y : Int32, wp_next_139 (fun S1 r => EQ T S1) k x3 x4 za y Y := by
      intro y
      unfold wp_next_139
      refine ⟨i4, fun z24 e24 => ?_⟩
      refine fm_goOn _ _ _ _ _ (fun S25 _ p => k154 y S25 p.1 p.2.1 p.2.2) (sg_goOn (hx := hx) (na := na) (nt := nt) (nw := nw) (T := T) za z24 E14 hW L14 (hend z24 e24) ha)
    have kk : ∀ y : Int32, k (x3, x4, y, Y) := fun y => k154 y Y E14 L14 (Int.le_refl _)
    exact ⟨i15, fun z14 _ => ⟨fun _ => ⟨fun _ => k139 1, fun _ => ⟨i15, fun z17 _ => ⟨fun _ => k139 0, fun _ => ⟨fun _ => k139 0, fun _ => k139 1⟩⟩⟩⟩, fun _ => ⟨fun _ => kk 1, fun _ => ⟨i15, fun z21 _ z22 _ => ⟨fun _ => kk 0, fun _ => kk 1⟩⟩⟩⟩⟩)
