
theorem nr3 {x : Int64} {lo hi : Int32} (h1 : ¬ lg_cmp x lo.toInt64 < 0) (h2 : lg_cmp x hi.toInt64 ≤ 0) : lo.toInt ≤ (Int64.toInt32 x).toInt ∧ (Int64.toInt32 x).toInt ≤ hi.toInt := by
  have a : lo.toInt64.toInt ≤ x.toInt := Int64.le_iff_toInt_le.mp ((lg_cmp_ge x _).mp (Int32.not_lt.mp h1))
  have b : x.toInt ≤ hi.toInt64.toInt := by
    unfold lg_cmp at h2
    split at h2
    · exact absurd h2 (by decide)
    · rename_i hn
      rcases Int.lt_or_le hi.toInt64.toInt x.toInt with h3 | h3
      · exact absurd (Int64.lt_iff_toInt_lt.mpr h3) hn
      · exact h3
  rw [Int32.toInt_toInt64] at a b
  have r1 := ti_rng lo
  have r2 := ti_rng hi
  have e : (Int64.toInt32 x).toInt = x.toInt := by
    rw [Int64.toInt_toInt32]
    exact ti_bm ⟨by omega, by omega⟩
  omega
