
theorem WB_wh {nx n : Nat} {so pl : Nat → Int32} {wo ws : Nat → Int64} {GW GT : Int} {S S1 : mS} (hG : LG2 n so pl wo ws) (h : WB nx pl GW GT S) (hs : so (ix (S.1 3)) = 1) (hw1 : wo (ix (S.1 3)) = ws (ix 5)) (h0 : 0 ≤ (S.1 3).toInt ∧ (S.1 3).toInt < n) (e : (S1.1 3).toInt = (S.1 3).toInt + 1) (ef : (S1.1 4) = (S.1 4)) (hw : (S1.1 10) = (S.1 10)) (ht : (S1.1 9) = (S.1 9)) : WB nx pl (GW - 5) GT S1 := by
  intro h1
  have q5 := h (by rw [← ef]; exact h1)
  have e1 : ix (S1.1 3) = ix (S.1 3) + 1 := by unfold ix; omega
  have q6 := hG.2.1 (ix (S.1 3)) (by unfold ix; omega) hs hw1
  rw [hw, ht, e1]
  omega
theorem WB_tr {nx n : Nat} {so pl : Nat → Int32} {wo ws : Nat → Int64} {GW GT : Int} {S S1 : mS} (hG : LG2 n so pl wo ws) (h : WB nx pl GW GT S) (hs : so (ix (S.1 3)) = 1) (hw1 : wo (ix (S.1 3)) = ws (ix 10)) (h0 : 0 ≤ (S.1 3).toInt ∧ (S.1 3).toInt < n) (e : (S1.1 3).toInt = (S.1 3).toInt + 1) (ef : (S1.1 4) = (S.1 4)) (hw : (S1.1 10) = (S.1 10)) (ht : (S1.1 9) = (S.1 9)) : WB nx pl GW (GT - 3) S1 := by
  intro h1
  have q5 := h (by rw [← ef]; exact h1)
  have e1 : ix (S1.1 3) = ix (S.1 3) + 1 := by unfold ix; omega
  have q6 := hG.2.2.1 (ix (S.1 3)) (by unfold ix; omega) hs hw1
  rw [hw, ht, e1]
  omega
theorem WB_s1 {nx n : Nat} {so pl : Nat → Int32} {wo ws : Nat → Int64} {GW GT GW1 GT1 : Int} {S S1 : mS} (hG : LG2 n so pl wo ws) (h : WB nx pl GW GT S) (hw : (S1.1 10) = (S.1 10)) (ht : (S1.1 9) = (S.1 9)) (hf : (S1.1 4) = 0 → (S.1 4) = 0 ∧ 0 ≤ (S.1 3).toInt ∧ (S.1 3).toInt < n ∧ (S.1 3).toInt + 1 ≤ (S1.1 3).toInt ∧ (S1.1 3).toInt ≤ n) (h1 : GW ≤ GW1 + 1) (h2 : GT ≤ GT1 + 1) : WB nx pl GW1 GT1 S1 := by
  intro h3
  obtain ⟨a, b, c, d, e⟩ := hf h3
  have q := PLM hG (S.1 3) (S1.1 3) b (by omega) e
  have q2 := h a
  rw [hw, ht]
  omega
