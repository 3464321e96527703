
theorem ti_link (x : Int32) : x.toInt = Lean.Grind.ToInt.toInt x := rfl
theorem q_fx {S : mS} {k i j x : Nat} {v : Int32} : (sF S k i v).2.1 j x = if j = k then (if x = i then v else S.2.1 k x) else S.2.1 j x := by
  rw [q_ff]; unfold upd; split <;> rfl
theorem q_gx {S : mS} {k i j x : Nat} {v : Int64} : (sG S k i v).2.2 j x = if j = k then (if x = i then v else S.2.2 k x) else S.2.2 j x := by
  rw [q_gg]; unfold vp_updL; split <;> rfl
theorem q_za {S : mS} {k j x : Nat} {v : Int32} : (sZ S k v).2.1 j x = S.2.1 j x := rfl
theorem q_zga {S : mS} {k j x : Nat} {v : Int32} : (sZ S k v).2.2 j x = S.2.2 j x := rfl
theorem q_fza {S : mS} {k i j : Nat} {v : Int32} : (sF S k i v).1 j = S.1 j := rfl
theorem q_fga {S : mS} {k i j x : Nat} {v : Int32} : (sF S k i v).2.2 j x = S.2.2 j x := rfl
theorem q_gza {S : mS} {k i j : Nat} {v : Int64} : (sG S k i v).1 j = S.1 j := rfl
theorem q_gfa {S : mS} {k i j x : Nat} {v : Int64} : (sG S k i v).2.1 j x = S.2.1 j x := rfl
theorem q_zf1 {S : mS} {k j : Nat} {v : Int32} : (sZ S k v).2.1 j = S.2.1 j := rfl
theorem q_zg1 {S : mS} {k j : Nat} {v : Int32} : (sZ S k v).2.2 j = S.2.2 j := rfl
theorem q_fg1 {S : mS} {k i j : Nat} {v : Int32} : (sF S k i v).2.2 j = S.2.2 j := rfl
theorem q_gf1 {S : mS} {k i j : Nat} {v : Int64} : (sG S k i v).2.1 j = S.2.1 j := rfl
theorem Fr_fa {zs fs gs : List Nat} {S S1 : mS} (h : Fr zs fs gs S S1) (k : Nat) (hk : k ∉ fs) (i : Nat) : S1.2.1 k i = S.2.1 k i := by rw [h.2.1 k hk]
theorem Fr_ga {zs fs gs : List Nat} {S S1 : mS} (h : Fr zs fs gs S S1) (k : Nat) (hk : k ∉ gs) (i : Nat) : S1.2.2 k i = S.2.2 k i := by rw [h.2.2 k hk]
theorem Fr_faa {zs gs : List Nat} {S S1 : mS} (h : Fr zs [] gs S S1) (k i : Nat) : S1.2.1 k i = S.2.1 k i := by rw [h.2.1 k (by simp)]
theorem Fr_gaa {zs fs : List Nat} {S S1 : mS} (h : Fr zs fs [] S S1) (k i : Nat) : S1.2.2 k i = S.2.2 k i := by rw [h.2.2 k (by simp)]
theorem in_lit (i m : Int32) (n : Nat) (hm : m.toInt = n) (h0 : 0 ≤ i) (h1 : i < m) : inR i n := ⟨w_le h0, by rw [← hm]; exact w_lt h1⟩
theorem ix_int (x : Int32) (h : 0 ≤ x.toInt) : ((ix x : Nat) : Int) = x.toInt := by unfold ix; omega
theorem ix_le (x : Int32) (n : Nat) (h0 : 0 ≤ x.toInt) (h : x.toInt ≤ n) : ix x ≤ n := by unfold ix; omega
theorem ix_eq (x : Int32) (n : Nat) (h : x.toInt = n) : ix x = n := by unfold ix; omega
theorem ix_ne (x : Int32) (n : Nat) (h0 : 0 ≤ x.toInt) (h : x.toInt < n) : ix x ≠ n := by unfold ix; omega
theorem ix_lt (x : Int32) (n : Nat) (h0 : 0 ≤ x.toInt) (h : x.toInt < n) : ix x < n := by unfold ix; omega
/-- the tokens: n of them, their sorts, places, values -/
def LG (n : Nat) (so pl : Nat → Int32) : Prop := n ≤ 4000 ∧ so n = 0 ∧ (∀ k, k ≤ n → 0 ≤ (pl k).toInt ∧ (pl k).toInt ≤ 4000)
def TK (so pl : Nat → Int32) (wo ws : Nat → Int64) (a b : Nat → Int32) (c e : Nat → Int64) : Prop := (∀ i, a i = so i) ∧ (∀ i, b i = pl i) ∧ (∀ i, c i = wo i) ∧ (∀ i, e i = ws i)
def CE (c : Nat → Int32) : Prop := ∀ i, i < 24 → 0 ≤ (c i).toInt ∧ (c i).toInt ≤ 12
def PL (nx n : Nat) (l : Int32) (la lc : Nat → Int32) : Prop := ∀ k : Nat, (k : Int) < l.toInt → 0 ≤ (la k).toInt ∧ (la k).toInt ≤ n ∧ 12000 * nx ≤ (lc k).toInt ∧ (lc k).toInt < 12000 * nx + 12000
def HH (nx k i : Nat) : Prop := (12 ≤ k ∧ k ≤ 21 ∧ ¬ (12000 * nx ≤ i ∧ i < 12000 * nx + 12000)) ∨ ((k = 7 ∨ k = 8 ∨ k = 10 ∨ k = 11 ∨ k = 22 ∨ k = 23) ∧ ¬ (12 * nx ≤ i ∧ i < 12 * nx + 12)) ∨ (k = 24 ∧ ¬ (204 * nx ≤ i ∧ i < 204 * nx + 204)) ∨ (25 ≤ k ∧ k ≤ 45 ∧ ¬ (500 * nx ≤ i ∧ i < 500 * nx + 500)) ∨ (k = 5 ∧ i ≠ nx)
def HL (nx k i : Nat) : Prop := (k = 6 ∧ ¬ (12 * nx ≤ i ∧ i < 12 * nx + 12)) ∨ (k = 9 ∧ ¬ (144 * nx ≤ i ∧ i < 144 * nx + 144))
/-- the other half is as it was -/
def OH (nx : Nat) (S0 S : mS) : Prop := (∀ k i, HH nx k i → S.2.1 k i = S0.2.1 k i) ∧ (∀ k i, HL nx k i → S.2.2 k i = S0.2.2 k i)
def LA (nx : Nat) (x : Int) : Prop := x < 0 ∨ 12000 * nx ≤ x
theorem LA_i {nx : Nat} {x : Int} (h : 12000 * nx ≤ x) : LA nx x := Or.inr h
theorem LA_n {nx : Nat} {x : Int} (h : x < 0) : LA nx x := Or.inl h
def PJ (nx n : Nat) (S0 S : mS) : Prop := PL nx n (S.1 11) ((S.2.1 46)) ((S.2.1 48)) ∧ 12 * nx ≤ (S.1 12).toInt ∧ (S.1 12).toInt < 12 * nx + 12 ∧ CE ((S.2.1 8)) ∧ LA nx (S.1 19).toInt ∧ (S.1 19).toInt < 12000 * nx + 12000 ∧ 12000 * nx ≤ (S.1 8).toInt ∧ 12000 * nx ≤ (S.1 7).toInt ∧ 0 ≤ (S.1 11).toInt ∧ (S.1 11).toInt ≤ 1000 ∧ ((S.1 4) = 0 → 4 * (S.1 11).toInt ≤ (S.1 3).toInt)
/-- room: G and GA ahead of the tokens while nothing is wrong, X and Y behind a fault -/
def BU (nx n : Nat) (G GA X Y : Int) (S : mS) : Prop := ((S.1 4) = 0 → 2 * ((S.1 7).toInt - 12000 * nx) ≤ 5 * (S.1 3).toInt + G ∧ (S.1 8).toInt - 12000 * nx ≤ 2 * (S.1 3).toInt + GA) ∧ (¬ (S.1 4) = 0 → 2 * ((S.1 7).toInt - 12000 * nx) ≤ 5 * n + X ∧ (S.1 8).toInt - 12000 * nx ≤ 2 * n + Y)
def LV (d : Nat) (G GA X Y : Int) : Prop := d ≤ 10 ∧ G ≤ 100 + 20 * d ∧ GA ≤ 40 + 4 * d ∧ 1000 - 40 * d ≤ X ∧ X ≤ 3000 ∧ 400 - 20 * d ≤ Y ∧ Y ≤ 1500
/-- what every step of the reference's parser keeps -/
def PI (nx n : Nat) (so pl : Nat → Int32) (wo ws : Nat → Int64) (S : mS) : Prop := LG n so pl ∧ n ≤ 4000 ∧ nx ≤ 1 ∧ TK so pl wo ws ((S.2.1 1)) ((S.2.1 2)) ((S.2.2 3)) ((S.2.2 4)) ∧ (S.1 6).toInt = nx ∧ 0 ≤ (S.1 4).toInt ∧ ((S.1 4) = 0 → 0 ≤ (S.1 3).toInt ∧ (S.1 3).toInt ≤ n)
def XI (nx n : Nat) (so pl : Nat → Int32) (wo ws : Nat → Int64) (S0 : mS) (d : Nat) (G GA X Y : Int) (S : mS) : Prop := PI nx n so pl wo ws S ∧ PJ nx n S0 S ∧ BU nx n G GA X Y S ∧ ((S.1 4) = 0 → (S.1 18).toInt = d)
theorem in2 (i : Int32) (h0 : 0 ≤ i) (h1 : i < 2) : inR i 2 := in_lit i 2 2 rfl h0 h1
theorem in8 (i : Int32) (h0 : 0 ≤ i) (h1 : i < 8) : inR i 8 := in_lit i 8 8 rfl h0 h1
theorem in22 (i : Int32) (h0 : 0 ≤ i) (h1 : i < 22) : inR i 22 := in_lit i 22 22 rfl h0 h1
theorem in24 (i : Int32) (h0 : 0 ≤ i) (h1 : i < 24) : inR i 24 := in_lit i 24 24 rfl h0 h1
theorem in288 (i : Int32) (h0 : 0 ≤ i) (h1 : i < 288) : inR i 288 := in_lit i 288 288 rfl h0 h1
theorem in408 (i : Int32) (h0 : 0 ≤ i) (h1 : i < 408) : inR i 408 := in_lit i 408 408 rfl h0 h1
theorem in1000 (i : Int32) (h0 : 0 ≤ i) (h1 : i < 1000) : inR i 1000 := in_lit i 1000 1000 rfl h0 h1
theorem in4002 (i : Int32) (h0 : 0 ≤ i) (h1 : i < 4002) : inR i 4002 := in_lit i 4002 4002 rfl h0 h1
theorem in24000 (i : Int32) (h0 : 0 ≤ i) (h1 : i < 24000) : inR i 24000 := in_lit i 24000 24000 rfl h0 h1
