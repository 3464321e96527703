
theorem lv_s {k : Int} {f g g1 : Nat → Int32} {x : Nat} {v : Int32} (h : ∀ j : Nat, g j = if k ≤ (j : Int) ∧ (j : Int) < (x : Int) then f (j + 1) else f j) (hk : k ≤ (x : Int)) (hv : v = g (x + 1)) (e : ∀ j, g1 j = if j = x then v else g j) : ∀ j : Nat, g1 j = if k ≤ (j : Int) ∧ (j : Int) < (x : Int) + 1 then f (j + 1) else f j := fun j => by
  rw [e j]
  rcases Decidable.em (j = x) with c | c
  · rw [if_pos c, hv, h (x + 1), if_neg (fun q => by omega), if_pos ⟨by omega, by omega⟩, c]
  · rw [if_neg c, h j]
    rcases Decidable.em (k ≤ (j : Int) ∧ (j : Int) < (x : Int)) with d | d
    · rw [if_pos d, if_pos ⟨d.1, by omega⟩]
    · rw [if_neg d, if_neg (fun q => d ⟨q.1, by omega⟩)]
theorem lv_e {k c : Int} {f g : Nat → Int32} (h : ∀ j : Nat, g j = if k ≤ (j : Int) ∧ (j : Int) < c then f (j + 1) else f j) : ∀ i : Nat, (i : Int) < c → g i = f (if (i : Int) < k then i else i + 1) := fun i hi => by
  rw [h i]
  rcases Decidable.em ((i : Int) < k) with d | d
  · rw [if_pos d, if_neg (fun q => by omega)]
  · rw [if_neg d, if_pos ⟨by omega, hi⟩]
