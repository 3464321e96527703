
/-- how far the tokens bring the cursor in the text -/
def LG2 (n : Nat) (so pl : Nat → Int32) (wo ws : Nat → Int64) : Prop := (∀ k, k < n → (pl k).toInt + 1 ≤ (pl (k + 1)).toInt) ∧ (∀ k, k < n → so k = 1 → wo k = ws 5 → (pl k).toInt + 5 ≤ (pl (k + 1)).toInt) ∧ (∀ k, k < n → so k = 1 → wo k = ws 10 → (pl k).toInt + 3 ≤ (pl (k + 1)).toInt) ∧ (∀ k, k < n → so k = 1 → wo k = ws 11 → (pl k).toInt + 2 ≤ (pl (k + 1)).toInt) ∧ (∀ k, k < n → so k = 1 → wo k = ws 12 → (pl k).toInt + 6 ≤ (pl (k + 1)).toInt) ∧ (∀ k, k < n → so k = 1 → wo k = ws 0 → (pl k).toInt + 7 ≤ (pl (k + 1)).toInt)
theorem LG2_m {n : Nat} {so pl : Nat → Int32} {wo ws : Nat → Int64} (h : LG2 n so pl wo ws) (i : Nat) : ∀ k : Nat, i + k ≤ n → (pl i).toInt + k ≤ (pl (i + k)).toInt := by
  intro k
  induction k with
  | zero => intro _; simp
  | succ k ih => intro hk; have h1 := h.1 (i + k) (by omega); have h2 := ih (by omega); rw [Nat.add_assoc] at h1; omega
theorem PLM {n : Nat} {so pl : Nat → Int32} {wo ws : Nat → Int64} (h : LG2 n so pl wo ws) (a b : Int32) (h0 : 0 ≤ a.toInt) (h1 : a.toInt ≤ b.toInt) (h2 : b.toInt ≤ n) : (pl (ix a)).toInt + (b.toInt - a.toInt) ≤ (pl (ix b)).toInt := by
  have q := LG2_m h (ix a) (ix b - ix a) (by unfold ix; omega)
  have e : ix a + (ix b - ix a) = ix b := by unfold ix; omega
  rw [e] at q
  have e2 : ((ix b - ix a : Nat) : Int) = b.toInt - a.toInt := by unfold ix; omega
  omega
theorem ix_1 (a b : Int32) (h0 : 0 ≤ a.toInt) (h1 : b.toInt = a.toInt + 1) : ix b = ix a + 1 := by unfold ix; omega
def PTc (nx : Nat) (tr : Int32) (tt ba fa : Nat → Int32) : Prop := ∀ t : Nat, 500 * nx ≤ t → (t : Int) < tr.toInt → ((tt t).toInt = -1 ∨ (500 * nx ≤ (tt t).toInt ∧ (tt t).toInt < t)) ∧ 12000 * nx ≤ (ba t).toInt ∧ (ba t).toInt < 12000 * nx + 12000 ∧ 12000 * nx ≤ (fa t).toInt ∧ (fa t).toInt < 12000 * nx + 12000
def PW (nx : Nat) (w : Int32) (we : Nat → Int32) : Prop := ∀ k : Nat, 500 * nx ≤ k → (k : Int) < w.toInt → 12000 * nx ≤ (we k).toInt ∧ (we k).toInt < 12000 * nx + 12000
def OR1 (lo : Nat) (hi x : Int) : Prop := x = -1 ∨ ((lo : Int) ≤ x ∧ x < hi)
def B01 (x : Int32) : Prop := x = 0 ∨ x = 1
def PT (nx : Nat) (S : mS) : Prop := 500 * nx ≤ (S.1 9).toInt ∧ (S.1 9).toInt ≤ 500 * nx + 500 ∧ 500 * nx ≤ (S.1 10).toInt ∧ (S.1 10).toInt ≤ 500 * nx + 500 ∧ OR1 (500 * nx) (S.1 9).toInt (S.1 13).toInt ∧ OR1 (500 * nx) (S.1 10).toInt (S.1 15).toInt ∧ PTc nx (S.1 9) ((S.2.1 25)) ((S.2.1 36)) ((S.2.1 35)) ∧ PW nx (S.1 10) ((S.2.1 45)) ∧ B01 (S.1 17) ∧ B01 (S.1 20)
/-- the room of tries and whiles: they cost signs of the text -/
def WB (nx : Nat) (pl : Nat → Int32) (GW GT : Int) (S : mS) : Prop := (S.1 4) = 0 → 8 * ((S.1 10).toInt - 500 * nx) ≤ (pl (ix (S.1 3))).toInt + GW ∧ 9 * ((S.1 9).toInt - 500 * nx) ≤ (pl (ix (S.1 3))).toInt + GT
def SI (nx n : Nat) (so pl : Nat → Int32) (wo ws : Nat → Int64) (S0 : mS) (d : Nat) (G GA X Y GW GT : Int) (S : mS) : Prop := XI nx n so pl wo ws S0 d G GA X Y S ∧ LG2 n so pl wo ws ∧ PT nx S ∧ WB nx pl GW GT S ∧ ((S.1 4) = 0 → 0 ≤ ((S.2.1 10) (ix (S.1 12))).toInt ∧ ((S.2.1 10) (ix (S.1 12))).toInt ≤ 16)
theorem WB_adv {nx n : Nat} {so pl : Nat → Int32} {wo ws : Nat → Int64} {GW GT : Int} {S S1 : mS} (hG : LG2 n so pl wo ws) (h : WB nx pl GW GT S) (hf : (S1.1 4) = 0 → (S.1 4) = 0 ∧ 0 ≤ (S.1 3).toInt ∧ (S.1 3).toInt ≤ (S1.1 3).toInt ∧ (S1.1 3).toInt ≤ n) (hw : (S1.1 10) = (S.1 10)) (ht : (S1.1 9) = (S.1 9)) : WB nx pl GW GT S1 := by
  intro h1
  obtain ⟨q1, q2, q3, q4⟩ := hf h1
  have q5 := h q1
  have q6 := PLM hG (S.1 3) (S1.1 3) q2 q3 q4
  rw [hw, ht]
  omega
