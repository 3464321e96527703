
theorem dv3 {x : Int32} (h0 : 0 ≤ x.toInt) (h1 : x.toInt < 1380) : (x / 3).toInt = x.toInt / 3 ∧ 0 ≤ (x / 3).toInt ∧ (x / 3).toInt < 460 := by
  have e : (x / 3).toInt = x.toInt / 3 := by
    rw [Int32.toInt_div]
    show ((x.toInt).tdiv 3).bmod (2 ^ 32) = _
    rw [Int.tdiv_eq_ediv_of_nonneg h0]
    exact ti_bm ⟨by omega, by omega⟩
  omega
theorem md3 {x : Int32} (h0 : 0 ≤ x.toInt) (h1 : x.toInt < 1380) : (x % 3).toInt = x.toInt % 3 := by
  rw [Int32.toInt_mod]
  exact Int.tmod_eq_emod_of_nonneg h0
theorem w_mc {x c z : Int32} {k : Int} (e : z = x * c) (hc : c.toInt = k) (hk : 0 ≤ k ∧ k ≤ 1000) (h : -100000 ≤ x.toInt ∧ x.toInt ≤ 100000) : z.toInt = k * x.toInt := by
  have h1 := Int.mul_le_mul_of_nonneg_right h.2 hk.1
  have h2 := Int.mul_le_mul_of_nonneg_right h.1 hk.1
  rw [ti_mul e rfl hc ⟨by omega, by omega⟩, Int.mul_comm]
theorem up_v {A A1 : Nat → Int32} {z v : Int32} (h0 : 0 ≤ z.toInt) (h : ∀ i, A1 i = if i = ix z then v else A i) : ∀ i : Nat, (A1 i).toInt = if (i : Int) = z.toInt then v.toInt else (A i).toInt := fun i => by
  have e9 : i = ix z ↔ (i : Int) = z.toInt := by unfold ix; omega
  rw [h i]
  rcases Decidable.em (i = ix z) with c | c
  · rw [if_pos c, if_pos (e9.mp c)]
  · rw [if_neg c, if_neg (fun q => c (e9.mpr q))]
theorem kn8 (i : Int32) (h0 : 0 ≤ i) (h1 : i < 8) : inR i 8 := kn_in i 8 8 rfl h0 h1
theorem kn12 (i : Int32) (h0 : 0 ≤ i) (h1 : i < 12) : inR i 12 := kn_in i 12 12 rfl h0 h1
theorem kn21 (i : Int32) (h0 : 0 ≤ i) (h1 : i < 21) : inR i 21 := kn_in i 21 21 rfl h0 h1
theorem kn144 (i : Int32) (h0 : 0 ≤ i) (h1 : i < 144) : inR i 144 := kn_in i 144 144 rfl h0 h1
theorem kn192 (i : Int32) (h0 : 0 ≤ i) (h1 : i < 192) : inR i 192 := kn_in i 192 192 rfl h0 h1
theorem kn200 (i : Int32) (h0 : 0 ≤ i) (h1 : i < 200) : inR i 200 := kn_in i 200 200 rfl h0 h1
theorem kn300 (i : Int32) (h0 : 0 ≤ i) (h1 : i < 300) : inR i 300 := kn_in i 300 300 rfl h0 h1
theorem kn400 (i : Int32) (h0 : 0 ≤ i) (h1 : i < 400) : inR i 400 := kn_in i 400 400 rfl h0 h1
theorem kn416 (i : Int32) (h0 : 0 ≤ i) (h1 : i < 416) : inR i 416 := kn_in i 416 416 rfl h0 h1
theorem kn460 (i : Int32) (h0 : 0 ≤ i) (h1 : i < 460) : inR i 460 := kn_in i 460 460 rfl h0 h1
theorem kn4000 (i : Int32) (h0 : 0 ≤ i) (h1 : i < 4000) : inR i 4000 := kn_in i 4000 4000 rfl h0 h1
theorem kn4002 (i : Int32) (h0 : 0 ≤ i) (h1 : i < 4002) : inR i 4002 := kn_in i 4002 4002 rfl h0 h1
theorem kn8064 (i : Int32) (h0 : 0 ≤ i) (h1 : i < 8064) : inR i 8064 := kn_in i 8064 8064 rfl h0 h1
