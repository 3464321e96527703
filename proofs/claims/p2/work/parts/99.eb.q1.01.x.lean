
/-- the arrays of the program are those of T -/
def EQ (T S : mS) : Prop := S.1 5 = T.1 5 ∧ ∀ k, 5 ≤ k → k ≤ 45 → S.2.1 k = T.2.1 k
theorem EQ_r {T S : mS} {k i : Nat} (h : EQ T S) (hk : 5 ≤ k ∧ k ≤ 45) : S.2.1 k i = T.2.1 k i := by rw [h.2 k hk.1 hk.2]
theorem EQ_5 {T S : mS} (h : EQ T S) : S.1 5 = T.1 5 := h.1
theorem EQ_f {T S : mS} {k i : Nat} {v : Int32} (h : EQ T S) (hk : 45 < k) : EQ T (sF S k i v) := ⟨h.1, fun j h5 hj => by rw [q_ff, if_neg (by omega)]; exact h.2 j h5 hj⟩
theorem EQ_z {T S : mS} {k : Nat} {v : Int32} (h : EQ T S) (hk : 5 ≠ k) : EQ T (sZ S k v) := ⟨by show upd S.1 k v 5 = _; unfold upd; rw [if_neg hk]; exact h.1, h.2⟩
theorem EQ_rf {S : mS} : EQ S S := ⟨rfl, fun _ _ _ => rfl⟩
def LW (hx : Nat) (na nt nw : Int) (T : mS) : Prop := AW hx na nt nw T ∧ (T.1 5).toInt = hx ∧ hx ≤ 1 ∧ na ≤ 12000 * hx + 12000 ∧ nt ≤ 500 * hx + 500 ∧ nw ≤ 500 * hx + 500 ∧ 0 ≤ ((T.2.1 5) hx).toInt ∧ ((T.2.1 5) hx).toInt ≤ 12 ∧ ∀ r : Nat, 12 * hx ≤ r → (r : Int) < 12 * hx + ((T.2.1 5) hx).toInt → RT hx na ((T.2.1 10) r).toInt T r ∧ ((T.2.1 10) r).toInt ≤ 16
theorem LW_b {hx : Nat} {na nt nw : Int} {T : mS} (h : LW hx na nt nw T) : (T.1 5).toInt = hx ∧ hx ≤ 1 ∧ na ≤ 12000 * hx + 12000 ∧ nt ≤ 500 * hx + 500 ∧ nw ≤ 500 * hx + 500 ∧ 0 ≤ ((T.2.1 5) hx).toInt ∧ ((T.2.1 5) hx).toInt ≤ 12 := ⟨h.2.1, h.2.2.1, h.2.2.2.1, h.2.2.2.2.1, h.2.2.2.2.2.1, h.2.2.2.2.2.2.1, h.2.2.2.2.2.2.2.1⟩
theorem LW_r {hx : Nat} {na nt nw : Int} {T : mS} (h : LW hx na nt nw T) : (T.2.1 5 (ix (T.1 5))).toInt = ((T.2.1 5) hx).toInt := by
  have e : ix (T.1 5) = hx := by have := h.2.1; unfold ix; omega
  rw [e]
theorem OR1_of {lo : Nat} {hi x : Int} (h : x = -1 ∨ ((lo : Int) ≤ x ∧ x < hi)) : OR1 lo hi x := h
theorem LW_25 {hx : Nat} {na nt nw : Int} {T : mS} {t : Int32} (h : LW hx na nt nw T) (h1 : 500 * hx ≤ t.toInt) (h2 : t.toInt < nt) : OR1 (500 * hx) t.toInt ((T.2.1 25) (ix t)).toInt := by
  have q := (h.1.2.1 (ix t) (by unfold ix; omega) (by unfold ix; omega)).1
  have e : ((ix t : Nat) : Int) = t.toInt := by unfold ix; omega
  rcases q with q | q
  · exact Or.inl q
  · exact Or.inr ⟨by have := q.1; omega, by have := q.2; omega⟩
theorem LW_35 {hx : Nat} {na nt nw : Int} {T : mS} {t : Int32} (h : LW hx na nt nw T) (h1 : 500 * hx ≤ t.toInt) (h2 : t.toInt < nt) : 12000 * hx ≤ ((T.2.1 35) (ix t)).toInt ∧ ((T.2.1 35) (ix t)).toInt < na := (h.1.2.1 (ix t) (by unfold ix; omega) (by unfold ix; omega)).2.1
theorem LW_36 {hx : Nat} {na nt nw : Int} {T : mS} {t : Int32} (h : LW hx na nt nw T) (h1 : 500 * hx ≤ t.toInt) (h2 : t.toInt < nt) : 12000 * hx ≤ ((T.2.1 36) (ix t)).toInt ∧ ((T.2.1 36) (ix t)).toInt < na := (h.1.2.1 (ix t) (by unfold ix; omega) (by unfold ix; omega)).2.2.1
theorem LW_34 {hx : Nat} {na nt nw : Int} {T : mS} {t : Int32} (h : LW hx na nt nw T) (h1 : 500 * hx ≤ t.toInt) (h2 : t.toInt < nt) (h3 : ¬ (T.2.1 28) (ix t) = 0) : 12000 * hx ≤ ((T.2.1 34) (ix t)).toInt ∧ ((T.2.1 34) (ix t)).toInt < na := (h.1.2.1 (ix t) (by unfold ix; omega) (by unfold ix; omega)).2.2.2.1 h3
theorem LW_27 {hx : Nat} {na nt nw : Int} {T : mS} {t : Int32} (h : LW hx na nt nw T) (h1 : 500 * hx ≤ t.toInt) (h2 : t.toInt < nt) (h3 : ¬ (T.2.1 37) (ix t) = 0 ∨ ¬ (T.2.1 38) (ix t) = 0) : 500 * hx ≤ ((T.2.1 27) (ix t)).toInt ∧ ((T.2.1 27) (ix t)).toInt < nw := by
  have q := h.1.2.1 (ix t) (by unfold ix; omega) (by unfold ix; omega)
  have k := q.2.2.2.2.2 (q.2.2.2.2.1 h3)
  exact ⟨k.1, k.2.1⟩
theorem LW_17 {hx : Nat} {na nt nw : Int} {T : mS} {a : Int32} (h : LW hx na nt nw T) (h1 : 12000 * hx ≤ a.toInt) (h2 : a.toInt < na) : OR1 (12000 * hx) na ((T.2.1 17) (ix a)).toInt := (h.1.1 (ix a) (by unfold ix; omega) (by unfold ix; omega)).1.imp id (fun q => ⟨by have := q.1; omega, q.2⟩)
theorem LW_18 {hx : Nat} {na nt nw : Int} {T : mS} {a : Int32} (h : LW hx na nt nw T) (h1 : 12000 * hx ≤ a.toInt) (h2 : a.toInt < na) : OR1 (12000 * hx) na ((T.2.1 18) (ix a)).toInt := (h.1.1 (ix a) (by unfold ix; omega) (by unfold ix; omega)).2.1.imp id (fun q => ⟨by have := q.1; omega, q.2⟩)
theorem LW_19 {hx : Nat} {na nt nw : Int} {T : mS} {a : Int32} (h : LW hx na nt nw T) (h1 : 12000 * hx ≤ a.toInt) (h2 : a.toInt < na) : OR1 (500 * hx) nt ((T.2.1 19) (ix a)).toInt := (h.1.1 (ix a) (by unfold ix; omega) (by unfold ix; omega)).2.2.1.imp id (fun q => ⟨by have := q.1; omega, q.2⟩)
theorem LW_16w {hx : Nat} {na nt nw : Int} {T : mS} {a : Int32} (h : LW hx na nt nw T) (h1 : 12000 * hx ≤ a.toInt) (h2 : a.toInt < na) (h3 : (T.2.1 15) (ix a) = 8 ∨ (T.2.1 15) (ix a) = 9) : 500 * hx ≤ ((T.2.1 16) (ix a)).toInt ∧ ((T.2.1 16) (ix a)).toInt < nw := (h.1.1 (ix a) (by unfold ix; omega) (by unfold ix; omega)).2.2.2.1 h3
theorem LW_16t {hx : Nat} {na nt nw : Int} {T : mS} {a : Int32} (h : LW hx na nt nw T) (h1 : 12000 * hx ≤ a.toInt) (h2 : a.toInt < na) (h3 : (T.2.1 15) (ix a) = 7) : 500 * hx ≤ ((T.2.1 16) (ix a)).toInt ∧ ((T.2.1 16) (ix a)).toInt < nt := (h.1.1 (ix a) (by unfold ix; omega) (by unfold ix; omega)).2.2.2.2 h3
theorem LW_44 {hx : Nat} {na nt nw : Int} {T : mS} {w : Int32} (h : LW hx na nt nw T) (h1 : 500 * hx ≤ w.toInt) (h2 : w.toInt < nw) : 12000 * hx ≤ ((T.2.1 44) (ix w)).toInt ∧ ((T.2.1 44) (ix w)).toInt < na := (h.1.2.2 (ix w) (by unfold ix; omega) (by unfold ix; omega)).1
theorem LW_45 {hx : Nat} {na nt nw : Int} {T : mS} {w : Int32} (h : LW hx na nt nw T) (h1 : 500 * hx ≤ w.toInt) (h2 : w.toInt < nw) : 12000 * hx ≤ ((T.2.1 45) (ix w)).toInt ∧ ((T.2.1 45) (ix w)).toInt < na := (h.1.2.2 (ix w) (by unfold ix; omega) (by unfold ix; omega)).2
theorem LW_22 {hx : Nat} {na nt nw : Int} {T : mS} {r : Int32} (h : LW hx na nt nw T) (h1 : 12 * hx ≤ r.toInt) (h2 : r.toInt < 12 * hx + ((T.2.1 5) hx).toInt) : (12000 * hx ≤ ((T.2.1 22) (ix r)).toInt ∧ ((T.2.1 22) (ix r)).toInt < na) ∧ (12000 * hx ≤ ((T.2.1 23) (ix r)).toInt ∧ ((T.2.1 23) (ix r)).toInt < na) ∧ ((T.2.1 10) (ix r)).toInt ≤ 16 := by
  have q := h.2.2.2.2.2.2.2.2 (ix r) (by unfold ix; omega) (by unfold ix; omega)
  exact ⟨q.1.1, q.1.2.1, q.2⟩
theorem LW_24 {hx : Nat} {na nt nw : Int} {T : mS} {r z s : Int32} (h : LW hx na nt nw T) (h1 : 12 * hx ≤ r.toInt) (h2 : r.toInt < 12 * hx + ((T.2.1 5) hx).toInt) (hz : z.toInt = 17 * r.toInt + s.toInt - 1) (hs : 1 ≤ s.toInt ∧ s.toInt ≤ ((T.2.1 10) (ix r)).toInt) : 12000 * hx ≤ ((T.2.1 24) (ix z)).toInt ∧ ((T.2.1 24) (ix z)).toInt < na := by
  have es : ((ix s - 1 : Nat) : Int) = s.toInt - 1 := by unfold ix; omega
  have q := (h.2.2.2.2.2.2.2.2 (ix r) (by unfold ix; omega) (by unfold ix; omega)).1.2.2 (ix s - 1) (by rw [es]; omega)
  have e : 17 * ix r + (ix s - 1) = ix z := by unfold ix; omega
  rw [e] at q
  exact q
def cn (f : Nat → Int32) : Nat → Nat
  | 0 => 0
  | n + 1 => cn f n + (if f n = 0 then 0 else 1)
theorem cn_le (f : Nat → Int32) (n : Nat) : cn f n ≤ n := by
  induction n with
  | zero => exact Nat.le_refl _
  | succ n ih => unfold cn; split <;> omega
theorem cn_ne {f : Nat → Int32} {k : Nat} {v : Int32} (n : Nat) (hk : n ≤ k) : cn (upd f k v) n = cn f n := by
  induction n with
  | zero => rfl
  | succ n ih =>
    unfold cn
    have e : upd f k v n = f n := by unfold upd; rw [if_neg (by omega)]
    rw [ih (by omega), e]
theorem cn_u {f : Nat → Int32} {k : Nat} {v : Int32} (h0 : f k = 0) (hv : ¬ v = 0) (n : Nat) (hk : k < n) : cn (upd f k v) n = cn f n + 1 := by
  induction n with
  | zero => exact absurd hk (by omega)
  | succ n ih =>
    unfold cn
    rcases Decidable.em (k = n) with d | d
    · subst d
      have e : upd f k v k = v := by unfold upd; rw [if_pos rfl]
      rw [cn_ne k (Nat.le_refl _), e, if_neg hv, h0, if_pos rfl]
    · have e : upd f k v n = f n := by unfold upd; rw [if_neg (by omega)]
      rw [ih (by omega), e]
      omega
theorem cn_z {f : Nat → Int32} {m : Int} (h : LZ m f) (n : Nat) (hn : (n : Int) ≤ m) : cn f n = 0 := by
  induction n with
  | zero => rfl
  | succ n ih => unfold cn; rw [ih (by omega), h n (by omega), if_pos rfl]
/-- how many are seen -/
def CN (f : Nat → Int32) : Int := ((cn f 12000 : Nat) : Int)
theorem cn_up {f : Nat → Int32} {x : Int32} (h : f (ix x) = 0) (h0 : 0 ≤ x.toInt) (h1 : x.toInt < 12000) : CN (upd f (ix x) 1) = CN f + 1 ∧ CN f + 1 ≤ 12000 := by
  unfold CN
  have q := cn_u (v := 1) h (by decide) 12000 (by unfold ix; omega)
  have k := cn_le (upd f (ix x) 1) 12000
  omega
theorem cn_zz {f : Nat → Int32} {m : Int} (h : LZ m f) (hm : 12000 ≤ m) : CN f = 0 := by
  unfold CN
  have q := cn_z h 12000 (by omega)
  omega
def SK (hx : Nat) (na m : Int) (o : Nat → Int32) : Prop := ∀ i : Nat, (i : Int) < m → 12000 * hx ≤ (o i).toInt ∧ (o i).toInt < na
theorem SK_0 {hx : Nat} {na m : Int} {o : Nat → Int32} (h : m ≤ 0) : SK hx na m o := fun i hi => absurd hi (by omega)
theorem SK_up {hx : Nat} {na m : Int} {o : Nat → Int32} {x y : Int32} (h : SK hx na x.toInt o) (h0 : 0 ≤ x.toInt) (hm : m = x.toInt + 1) (h1 : 12000 * hx ≤ y.toInt) (h2 : y.toInt < na) : SK hx na m (upd o (ix x) y) := fun i hi => by
  unfold upd
  rcases Decidable.em (i = ix x) with d | d
  · rw [if_pos d]; exact ⟨h1, h2⟩
  · rw [if_neg d]; exact h i (by unfold ix at d; omega)
theorem SK_in {hx : Nat} {na m : Int} {o : Nat → Int32} {x : Int32} (h : SK hx na m o) (h0 : 0 ≤ x.toInt) (h1 : x.toInt < m) : 12000 * hx ≤ (o (ix x)).toInt ∧ (o (ix x)).toInt < na := h (ix x) (by unfold ix; omega)
theorem SK_dn {hx : Nat} {na m m1 : Int} {o : Nat → Int32} (h : SK hx na m o) (h1 : m1 ≤ m) : SK hx na m1 o := fun i hi => h i (by omega)
def LI (hx : Nat) (na : Int) (S : mS) : Prop := 0 ≤ (S.1 21).toInt ∧ (S.1 21).toInt ≤ CN ((S.2.1 49)) ∧ CN ((S.2.1 49)) ≤ 12000 ∧ SK hx na (S.1 21).toInt ((S.2.1 50))
