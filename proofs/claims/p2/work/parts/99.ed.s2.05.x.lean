
theorem FRL_l {hx : Nat} {nw : Int} {tt wt : Nat → Int32} {a0 a1 tr : Int32} (hw : a0 = 5 ∨ ((a0 = 3 ∨ a0 = 4) ∧ 500 * hx ≤ a1.toInt ∧ a1.toInt < nw)) (au : a0 = 5 ∨ an tt (wt (ix a1)) tr) : FRL hx nw tt wt 2 a0 a1 tr := by
  refine ⟨Or.inr (Or.inr rfl), ?_⟩
  rcases hw with q | q
  · exact Or.inr (Or.inr (Or.inr (Or.inl q)))
  · refine Or.inr (Or.inr (Or.inr (Or.inr ⟨q.1, q.2.1, q.2.2, au.resolve_left (fun h5 => ?_)⟩)))
    rcases q.1 with g | g
    · rw [g] at h5; exact absurd h5 (by decide)
    · rw [g] at h5; exact absurd h5 (by decide)
/-- it runs on, and leaves for a while around it -/
theorem RI_i {hx : Nat} {cd nt nw : Int} {ty : Nat → T6} {P S : mS} {tr : Int32} {u : T6} (h1 : W0 hx cd nt nw ty P S) (h2 : RF hx nt nw P tr S) (h3 : RB hx cd ty u S) (h4 : u.2.2.1 = 0) : RI hx cd nt nw ty P (FS S) S := ⟨tr, h1, h2, RB_st tr h3 h4, Int.le_refl _⟩
def RL9 (hx : Nat) (cd nt nw : Int) (ty : Nat → T6) (P : mS) (F : Int) (b w : Int32) (S : mS) : Prop := ∃ tr : Int32, W0 hx cd nt nw ty P S ∧ RF hx nt nw P tr S ∧ RB hx cd ty (ST tr) S ∧ FS S ≤ F ∧ (b = 5 ∨ an ((P.2.1 25)) ((P.2.1 40) (ix w)) tr)
