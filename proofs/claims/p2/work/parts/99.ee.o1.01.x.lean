
theorem LTR_in {l : Nat → Int32} {x : Int32} (h : LTR l) (h0 : 0 ≤ x.toInt) (h1 : x.toInt < 8) : 0 ≤ (l (ix x)).toInt ∧ (l (ix x)).toInt ≤ 50 := h (ix x) (by unfold ix; omega)
theorem ROF_in {tk ro : Int} {r : Nat → Int32} {x : Int32} (h : ROF tk ro r) (h0 : 0 ≤ x.toInt) (h1 : x.toInt < tk) : 0 ≤ (r (ix x)).toInt ∧ (r (ix x)).toInt < ro := h (ix x) (by unfold ix; omega)
