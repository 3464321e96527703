
theorem opn_s {Sl S23 S28 : kS} {h k q : Nat} {A : Nat → Option Nat} (hI : ∀ i : Nat, i < k → ar Sl 6 h i = 0 ∧ ∀ l, A i = some l → Sl.2.1 12 l = none ∧ Sl.2.1 13 l = none) (w : ∀ j, ar S23 6 h j = if j = k then 0 else ar Sl 6 h j) (e6 : ar S28 6 = ar S23 6) (hq : A k = some q) (p12 : ∀ x, S28.2.1 12 x = if x = q then none else Sl.2.1 12 x) (p13 : ∀ x, S28.2.1 13 x = if x = q then none else Sl.2.1 13 x) : ∀ i : Nat, i < k + 1 → ar S28 6 h i = 0 ∧ ∀ l, A i = some l → S28.2.1 12 l = none ∧ S28.2.1 13 l = none := fun i hi => by
  rw [e6, w i]
  rcases Decidable.em (i = k) with c | c
  · refine ⟨by rw [if_pos c], fun l hl => ?_⟩
    rw [c, hq] at hl
    rw [p12 l, p13 l, if_pos (Option.some.inj hl).symm, if_pos (Option.some.inj hl).symm]
    exact ⟨rfl, rfl⟩
  · obtain ⟨g1, g2⟩ := hI i (by omega)
    refine ⟨by rw [if_neg c]; exact g1, fun l hl => ?_⟩
    rw [p12 l, p13 l]
    rcases Decidable.em (l = q) with d | d
    · rw [if_pos d, if_pos d]; exact ⟨rfl, rfl⟩
    · rw [if_neg d, if_neg d]; exact g2 l hl
theorem opn_e {S : kS} {h : Nat} {U : List Nat} {L : Nat → List Nat} {D : Nat → Nat} {k : Nat} (hP : PAI S h U L D) (hk : (S.1 1 h).toInt ≤ (k : Int)) (hL : ∀ (i t : Nat), i < k → qa S 3 h i = some t → L t = []) : ∀ t, L t = [] := fun t => by
  cases hz : L t with
  | nil => rfl
  | cons p r =>
    have m : p ∈ L t := by rw [hz]; exact List.mem_cons_self ..
    obtain ⟨i, hi, hq⟩ := (hP.2.2.2.2.2.2.1 t p m).1
    have := hL i t (by omega) hq
    rw [hz] at this
    cases this
