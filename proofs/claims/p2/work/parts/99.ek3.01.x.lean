
def rst (l : List Nat) : Option Nat → Nat
  | none => 0
  | some q => l.length + 1 - pos9 l q
theorem rst_l {f : Nat → Option Nat} {l d r : List Nat} {x : Option Nat} (h : l = d ++ r) (hn : l.Nodup) (hc : CH f x r) : rst l x = r.length := by
  cases r with
  | nil =>
    have e : x = none := hc
    rw [e]; rfl
  | cons q r =>
    have e : x = some q := hc.1
    rw [e]
    show l.length + 1 - pos9 l q = _
    subst h
    have n1 := (List.nodup_append.mp hn).2.2
    have na : q ∉ d := fun h9 => n1 q h9 q (List.mem_cons_self ..) rfl
    rw [pos9_a na]
    simp
theorem pos9_le {q : Nat} : ∀ {l : List Nat}, q ∈ l → pos9 l q ≤ l.length
  | [], h => absurd h List.not_mem_nil
  | p :: r, h => by
    show (if p = q then 1 else pos9 r q + 1) ≤ r.length + 1
    rcases Decidable.em (p = q) with c | c
    · rw [if_pos c]; omega
    · rw [if_neg c]
      have h9 : q ∈ r := by
        rcases List.mem_cons.mp h with h8 | h8
        · exact absurd h8.symm c
        · exact h8
      have := pos9_le h9
      omega
theorem rst_s {L : List Nat} {q : Nat} {z : Option Nat} (hq : q ∈ L) (h : ∀ p, z = some p → pos9 L q < pos9 L p) : rst L z < rst L (some q) := by
  have h8 := pos9_le hq
  cases hz : z with
  | none =>
    show 0 < L.length + 1 - pos9 L q
    omega
  | some p =>
    have h7 := h p hz
    show L.length + 1 - pos9 L p < L.length + 1 - pos9 L q
    omega
/-- a part is laid aside -/
theorem tb_s {f g : Nat → Option Nat} {L d r U : List Nat} {q : Nat} {z : Option Nat} (hL : L = d ++ q :: r) (hn : L.Nodup) (hu : ∀ p, p ∈ L → p ∉ U) (h1 : CH f (some q) (q :: r)) (h2 : CH f z (d.reverse ++ U)) (e : ∀ x, g x = if x = q then z else f x) : L = (d ++ [q]) ++ r ∧ CH g (f q) r ∧ CH g (some q) ((d ++ [q]).reverse ++ U) := by
  subst hL
  have hn2 := List.nodup_append.mp hn
  have nq := List.nodup_cons.mp hn2.2.1
  have qd : q ∉ d := fun h9 => hn2.2.2 q h9 q (List.mem_cons_self ..) rfl
  have qu : q ∉ U := hu q (List.mem_append_right _ (List.mem_cons_self ..))
  refine ⟨by rw [List.append_assoc]; rfl, CH_eq (fun p hp => by rw [e p, if_neg (fun h9 : p = q => nq.1 (h9 ▸ hp))]) h1.2, ?_⟩
  rw [List.reverse_append]
  refine ⟨rfl, ?_⟩
  rw [e q, if_pos rfl]
  exact CH_eq (fun p hp => by
    rw [e p, if_neg (fun h9 : p = q => by
      subst h9
      rcases List.mem_append.mp hp with h8 | h8
      · exact qd (List.mem_reverse.mp h8)
      · exact qu h8)]) h2
