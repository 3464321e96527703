
theorem num_rng {x : Int64} {lo hi : Int32} (h1 : ¬ lg_cmp x lo.toInt64 < 0) (h2 : lg_cmp x hi.toInt64 ≤ 0) : lo.toInt ≤ (Int64.toInt32 x).toInt ∧ (Int64.toInt32 x).toInt ≤ hi.toInt := by
  have a := lgc_lt h1
  have b := lgc_le h2
  rw [Int32.toInt_toInt64] at a b
  have r1 := ti_rng lo
  have r2 := ti_rng hi
  have e : (Int64.toInt32 x).toInt = x.toInt := by
    rw [Int64.toInt_toInt32]
    exact ti_bm ⟨by omega, by omega⟩
  omega
