
theorem PL_add {nx n : Nat} {l l1 : Int32} {la lc : Nat → Int32} {v c : Int32} (h : PL nx n l la lc) (h0 : 0 ≤ l.toInt) (h1 : l1.toInt = l.toInt + 1) (hv : 0 ≤ v.toInt ∧ v.toInt ≤ n) (hc : 12000 * nx ≤ c.toInt ∧ c.toInt < 12000 * nx + 12000) : PL nx n l1 (upd la (ix l) v) (upd lc (ix l) c) := by
  intro k hk
  have h2 : ix l = l.toInt.toNat := rfl
  unfold upd
  rcases Decidable.em (k = ix l) with e | e
  · rw [if_pos e, if_pos e]; exact ⟨hv.1, hv.2, hc.1, hc.2⟩
  · rw [if_neg e, if_neg e]; exact h k (by omega)
