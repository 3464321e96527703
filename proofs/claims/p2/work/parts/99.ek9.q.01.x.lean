
/-- how many of the first n are marked w -/
def cnq (f : Nat → Int32) (w : Int32) : Nat → Int
  | 0 => 0
  | n + 1 => cnq f w n + (if f n = w then 1 else 0)
theorem cnq_b {f : Nat → Int32} {w : Int32} : ∀ n, 0 ≤ cnq f w n ∧ cnq f w n ≤ n
  | 0 => ⟨Int.le_refl _, Int.le_refl _⟩
  | n + 1 => by
    have := cnq_b (f := f) (w := w) n
    show 0 ≤ cnq f w n + (if f n = w then 1 else 0) ∧ cnq f w n + (if f n = w then 1 else 0) ≤ ((n + 1 : Nat) : Int)
    split <;> omega
theorem cnq_u {f g : Nat → Int32} {w : Int32} {k : Nat} (e : ∀ j, g j = if j = k then w else f j) (hk : f k ≠ w) : ∀ n, cnq g w n = cnq f w n + (if k < n then 1 else 0)
  | 0 => by
    rw [if_neg (Nat.not_lt_zero k)]
    rfl
  | n + 1 => by
    show cnq g w n + (if g n = w then 1 else 0) = cnq f w n + (if f n = w then 1 else 0) + _
    rw [cnq_u e hk n, e n]
    rcases Decidable.em (n = k) with c | c
    · rw [if_pos c, if_pos rfl, c, if_neg (Nat.lt_irrefl k), if_neg hk, if_pos (Nat.lt_succ_self k)]
    · rw [if_neg c]
      rcases Decidable.em (k < n) with d | d
      · rw [if_pos d, if_pos (show k < n + 1 by omega)]
        omega
      · rw [if_neg d, if_neg (show ¬ k < n + 1 by omega)]
        omega
def TBI (pg tb : Nat) (S : kS) : Prop := (0 ≤ (S.1 26 tb).toInt ∧ (S.1 26 tb).toInt ≤ cnq (ar S 53 tb) (S.1 27 tb) 8064) ∧ (0 ≤ (S.1 17 pg).toInt ∧ (S.1 17 pg).toInt ≤ 8064) ∧ ∀ j : Nat, (j : Int) < (S.1 26 tb).toInt → 0 ≤ (ar S 54 tb j).toInt ∧ (ar S 54 tb j).toInt < (S.1 17 pg).toInt
def PRR (pg sc : Nat) (S : kS) : Prop := (∀ i, -1 ≤ (ar S 43 sc i).toInt ∧ (ar S 43 sc i).toInt ≤ 1379) ∧ (∀ i, -1 ≤ (ar S 30 pg i).toInt ∧ (ar S 30 pg i).toInt ≤ 1379) ∧ ∀ i, -1 ≤ (ar S 45 sc i).toInt ∧ (ar S 45 sc i).toInt ≤ 459
theorem PRR_f {pg sc : Nat} {S S1 : kS} {zi zr fa fq : List Nat} (g : PRR pg sc S) (f : HF zi zr fa fq S S1) (ha : dis9 [30, 43, 45] fa = true) : PRR pg sc S1 := by
  unfold PRR
  rw [f.2.2.1 43 (dis9_m ha (by decide)), f.2.2.1 30 (dis9_m ha (by decide)), f.2.2.1 45 (dis9_m ha (by decide))]
  exact g
/-- a place is put to the open ones -/
theorem TBI_r {pg tb : Nat} {S S21 : kS} {a : Int32} (g : TBI pg tb S) (h0 : 0 ≤ a.toInt) (h1 : a.toInt < (S.1 17 pg).toInt) (hn : ar S 53 tb (ix a) ≠ S.1 27 tb) (f : HF [26] [] [53, 54] [] S S21) (e53 : ∀ j, ar S21 53 tb j = if j = ix a then S.1 27 tb else ar S 53 tb j) (e54 : ∀ j, ar S21 54 tb j = if j = ix (S.1 26 tb) then a else ar S 54 tb j) (e26 : (S21.1 26 tb).toInt = (S.1 26 tb).toInt + 1) : TBI pg tb S21 := by
  obtain ⟨⟨g1, g2⟩, g3, g4⟩ := g
  have kx := kx_int a h0
  have k6 := kx_int (S.1 26 tb) g1
  have u := cnq_u (g := ar S21 53 tb) (k := ix a) e53 hn 8064
  rw [if_pos (by omega)] at u
  refine ⟨⟨by omega, by rw [f.1 27 (by decide), u]; omega⟩, by rw [f.1 17 (by decide)]; exact g3, fun j hj => ?_⟩
  rw [e54 j, f.1 17 (by decide)]
  rcases Decidable.em (j = ix (S.1 26 tb)) with c | c
  · rw [if_pos c]
    exact ⟨h0, h1⟩
  · rw [if_neg c]
    exact g4 j (by omega)
theorem cnq_l {f : Nat → Int32} {w : Int32} {k : Nat} (hk : k < 8064) (h : f k ≠ w) : cnq f w 8064 ≤ 8063 := by
  have u := cnq_u (g := fun j => if j = k then w else f j) (fun _ => rfl) h 8064
  rw [if_pos hk] at u
  have b := (cnq_b (f := fun j => if j = k then w else f j) (w := w) 8064).2
  omega
