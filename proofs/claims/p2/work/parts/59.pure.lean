
theorem px_ile {b R N : Int32} {n : Nat} (hN : N.toInt = n) (h0 : ¬ b < 0) (h1 : b < R) (h2 : R ≤ N) : vp_in b n := by
  rw [vp_in_iff]
  rw [Int32.lt_iff_toInt_lt] at h0 h1
  rw [Int32.le_iff_toInt_le] at h2
  have : (0 : Int32).toInt = 0 := rfl
  omega
