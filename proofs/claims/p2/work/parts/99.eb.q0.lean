
theorem in200 (i : Int32) (h0 : 0 ≤ i) (h1 : i < 200) : inR i 200 := in_lit i 200 200 rfl h0 h1
theorem in300 (i : Int32) (h0 : 0 ≤ i) (h1 : i < 300) : inR i 300 := in_lit i 300 300 rfl h0 h1
theorem in400 (i : Int32) (h0 : 0 ≤ i) (h1 : i < 400) : inR i 400 := in_lit i 400 400 rfl h0 h1
theorem in2400 (i : Int32) (h0 : 0 ≤ i) (h1 : i < 2400) : inR i 2400 := in_lit i 2400 2400 rfl h0 h1
theorem in12000 (i : Int32) (h0 : 0 ≤ i) (h1 : i < 12000) : inR i 12000 := in_lit i 12000 12000 rfl h0 h1
theorem in100300 (i : Int32) (h0 : 0 ≤ i) (h1 : i < 100300) : inR i 100300 := in_lit i 100300 100300 rfl h0 h1
