
theorem zz_s1a : True := trivial
theorem in2200 (i : Int32) (h0 : 0 ≤ i) (h1 : i < 2200) : inR i 2200 := in_lit i 2200 2200 rfl h0 h1
theorem in4000 (i : Int32) (h0 : 0 ≤ i) (h1 : i < 4000) : inR i 4000 := in_lit i 4000 4000 rfl h0 h1
