
theorem ix_mono {x y : Int32} (h : x.toInt ≤ y.toInt) : ix x ≤ ix y := by unfold ix; omega
theorem ix_smono {x y : Int32} (h0 : 0 ≤ x.toInt) (h : x.toInt < y.toInt) : ix x < ix y := by unfold ix; omega
theorem RI_st0 : True := trivial
