
theorem kn10 (i : Int32) (h0 : 0 ≤ i) (h1 : i < 10) : inR i 10 := kn_in i 10 10 rfl h0 h1
