
section HIf
variable {S S1 : kS} {h t l q : Nat} {N T G : Nat → Prop} {U : List Nat} {L : Nat → List Nat} {D : Nat → Nat} {P : Nat → Int32}
theorem LNS_first (g : LNS N L S none) (hN : N l) (e : S.2.1 12 l = some q) : (∃ t, q ∈ L t) ∧ S.1 13 q = 0 := by
  obtain ⟨Q, g⟩ := g
  obtain ⟨_, g2, _, _⟩ := g.1 l hN
  obtain ⟨_, _, g3, g4⟩ := g.2.1 l q (hdo_mem (g2.symm.trans e))
  refine ⟨g3, ?_⟩
  rcases g4 with g4 | g4
  · exact g4
  · cases g4
theorem HI_own (g : HI h N T G U L D P S) (hq : q ∈ L t) : tl S h t ∧ S.2.1 21 q = some t ∧ (∀ p, p ∈ L t → D p ≤ 10) ∧ 0 ≤ (S.1 28 t).toInt ∧ (S.1 28 t).toInt < (S.1 1 h).toInt := by
  have k := g.2.1.2.2.2.2.2.2.1 t q hq
  have n := tl_n g.1 k.1
  exact ⟨k.1, k.2.1, fun p hp => (g.2.1.2.2.2.2.2.2.1 t p hp).2.2.1, n.1, n.2.1⟩
/-- the root has none about it -/
theorem ro_n (g : HI h N T G U L D P S) (ht : tl S h t) (e : S.2.1 62 t = some q) : S.2.1 23 q = none := ((g.2.1.2.2.1 t (tl_t g.1 ht)).2.1 q e).2
end HIf
