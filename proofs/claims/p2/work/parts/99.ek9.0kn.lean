
theorem kn10 (i : Int32) (h0 : 0 ≤ i) (h1 : i < 10) : inR i 10 := kn_in i 10 10 rfl h0 h1
theorem kn64 (i : Int32) (h0 : 0 ≤ i) (h1 : i < 64) : inR i 64 := kn_in i 64 64 rfl h0 h1
