
theorem DL_be {ah be : Nat → Option Nat} : ∀ {l : List Nat} {pr nx : Option Nat} {q p : Nat}, DL ah be pr l nx → q ∈ l → be q = some p → p ∈ l ∨ nx = some p
  | [], _, _, _, _, _, hq, _ => absurd hq List.not_mem_nil
  | a :: r, pr, nx, q, p, h, hq, e => by
    rcases List.mem_cons.mp hq with c | c
    · have h2 := h.2.1
      rw [← c, e] at h2
      cases r with
      | nil => exact Or.inr h2.symm
      | cons b r2 =>
        have h3 : some p = some b := h2
        exact Or.inl (by rw [Option.some.inj h3]; exact List.mem_cons_of_mem _ (List.mem_cons_self ..))
    · rcases DL_be h.2.2 c e with d | d
      · exact Or.inl (List.mem_cons_of_mem _ d)
      · exact Or.inr d
/-- a line that may be walked -/
def LWK (S : kS) (l : Nat) (Q : List Nat) : Prop := (∀ q, S.2.1 12 l = some q → q ∈ Q) ∧ ∀ q, q ∈ Q → (∀ p, S.2.1 27 q = some p → p ∈ Q) ∧ ∃ t, S.2.1 21 q = some t
theorem HI_lw {S : kS} {h l : Nat} {N T G : Nat → Prop} {U : List Nat} {L : Nat → List Nat} {D : Nat → Nat} {P : Nat → Int32} (g : HI h N T G U L D P S) (hN : N l) : ∃ Q, LWK S l Q := by
  obtain ⟨Q, q1⟩ := g.2.2.1
  obtain ⟨a1, a2, _, _⟩ := q1.1 l hN
  refine ⟨Q l, fun q hq => hdo_mem (a2.symm.trans hq), fun q hq => ⟨fun p hp => ?_, ?_⟩⟩
  · rcases DL_be a1 hq hp with c | c
    · exact c
    · cases c
  · obtain ⟨_, _, ⟨t, ht⟩, _⟩ := q1.2.1 l q hq
    exact ⟨t, (HI_own g ht).2.1⟩
