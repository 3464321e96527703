
theorem mk1 {m : Int32} (h : (m &&& 3).toInt = 0) : ((m ||| 1) &&& 3).toInt = 1 := by
  have e : m &&& 3 = 0 := Int32.toInt_inj.mp h
  have e1 : (m ||| 1) &&& 3 = (m &&& 3) ||| 1 := by
    apply Int32.toBitVec_inj.mp
    rw [Int32.toBitVec_and, Int32.toBitVec_or, Int32.toBitVec_or, Int32.toBitVec_and, BitVec.and_or_distrib_right]
    rfl
  rw [e1, e]
  rfl
theorem mk2 {m : Int32} {x : Int} (h : (m &&& 3).toInt = x) (h0 : 0 ≤ x ∧ x ≤ 1) : ((m ||| 2) &&& 3).toInt = x + 2 := by
  have e1 : (m ||| 2) &&& 3 = (m &&& 3) ||| 2 := by
    apply Int32.toBitVec_inj.mp
    rw [Int32.toBitVec_and, Int32.toBitVec_or, Int32.toBitVec_or, Int32.toBitVec_and, BitVec.and_or_distrib_right]
    rfl
  have c : x = 0 ∨ x = 1 := by omega
  rcases c with c | c
  · have e : m &&& 3 = 0 := Int32.toInt_inj.mp (h.trans c)
    rw [e1, e, c]
    rfl
  · have e : m &&& 3 = 1 := Int32.toInt_inj.mp (h.trans c)
    rw [e1, e, c]
    rfl
