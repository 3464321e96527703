
theorem TBI_0 {pg tb : Nat} {S : kS} (h : S.1 26 tb = 0) (h17 : 0 ≤ (S.1 17 pg).toInt ∧ (S.1 17 pg).toInt ≤ 8064) : TBI pg tb S := by
  have z : (0 : Int32).toInt = 0 := rfl
  refine ⟨⟨by rw [h, z]; exact Int.le_refl _, by rw [h, z]; exact (cnq_b 8064).1⟩, h17, fun j hj => ?_⟩
  rw [h, z] at hj
  omega
theorem TBI_d {pg tb : Nat} {S S1 : kS} {v : Int32} (g : TBI pg tb S) (e : S1 = cI S 26 tb v) (hv : v.toInt = (S.1 26 tb).toInt - 1) (h0 : 0 < (S.1 26 tb).toInt) : TBI pg tb S1 := by
  have f := HF_i e
  have e26 : S1.1 26 tb = v := by rw [e, k_ii, if_pos ⟨rfl, rfl⟩]
  obtain ⟨⟨g1, g2⟩, g3, g4⟩ := g
  refine ⟨⟨by rw [e26]; omega, by rw [e26, f.2.2.1 53 (by decide), f.1 27 (by decide)]; omega⟩, by rw [f.1 17 (by decide)]; exact g3, fun j hj => ?_⟩
  rw [e26] at hj
  rw [f.2.2.1 54 (by decide), f.1 17 (by decide)]
  exact g4 j (by omega)
