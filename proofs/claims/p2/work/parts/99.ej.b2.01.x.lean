
theorem mk3 {m v : Int32} (h : v = 4 ∨ v = 8) : (m ||| v) &&& 3 = m &&& 3 := by
  have e : v &&& 3 = 0 := by rcases h with h | h <;> rw [h] <;> decide
  apply Int32.toBitVec_inj.mp
  have e1 := congrArg Int32.toBitVec e
  rw [Int32.toBitVec_and] at e1
  rw [Int32.toBitVec_and, Int32.toBitVec_and, Int32.toBitVec_or, BitVec.and_or_distrib_right, e1]
  exact BitVec.or_zero
