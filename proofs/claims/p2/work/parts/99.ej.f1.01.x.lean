
theorem RG_or {V V1 : PV} (h : V1.1 18 = V.1 18 + 1) (h1 : V.1 18 < 12) (h2 : AR 0 12 (V1.2 35)) (h3 : AR 0 16 (V1.2 36)) (hv : VF [18] [32, 34, 35, 36] V V1) (hG : RG V) : RG V1 := by
  obtain ⟨⟨a1, a2, a3, a4, a5, a6, a7, a8, a9, a10⟩, b1, b2, b3, b4, b5, b6, b7, b8, b9, b10, b11, b12, b13, b14, b15⟩ := hG
  have v := hv.1
  have w := hv.2
  exact ⟨⟨by rw [v 6 (by decide)]; exact a1, by rw [v 6 (by decide)]; exact a2, by rw [v 40 (by decide)]; exact a3, by rw [v 40 (by decide)]; exact a4, by rw [w 64 (by decide) (by decide)]; exact a5, by rw [v 7 (by decide), v 6 (by decide)]; exact a6, by rw [v 7 (by decide), v 6 (by decide), v 40 (by decide)]; exact a7, by rw [v 40 (by decide), w 64 (by decide) (by decide)]; exact a8, by rw [w 65 (by decide) (by decide)]; exact a9, by unfold CHI at a10 ⊢; rw [v 7 (by decide), v 11 (by decide), v 17 (by decide), w 17 (by decide) (by decide), w 28 (by decide) (by decide)]; exact a10⟩, by rw [v 17 (by decide)]; exact b1, by omega, by rw [v 24 (by decide)]; exact b3, by rw [v 25 (by decide)]; exact b4, by rw [v 11 (by decide)]; exact b5, by rw [v 8 (by decide), v 24 (by decide)]; exact b6, by rw [v 9 (by decide), v 25 (by decide)]; exact b7, h2, h3, by rw [w 43 (by decide) (by decide)]; exact b10, by rw [w 30 (by decide) (by decide)]; exact b11, by rw [w 44 (by decide) (by decide)]; exact b12, by rw [w 45 (by decide) (by decide)]; exact b13, by rw [w 37 (by decide) (by decide)]; exact b14, by rw [w 17 (by decide) (by decide)]; exact b15⟩
/-- a routine begins -/
def jOPN (V V1 : PV) : Prop := V.1 18 < 12 ∧ V1.1 18 = V.1 18 + 1 ∧ (∀ i : Nat, V1.2 32 i = if (i : Int) = V.1 18 then V.1 17 else V.2 32 i) ∧ VF [18] [32, 34, 35, 36] V V1 ∧ RG V1 ∧ ∀ i : Nat, V1.2 36 i = if (i : Int) = V.1 18 then 0 else V.2 36 i
theorem OPN_s {V V1 : PV} {E : Nat → Prop} (h : jOPN V V1) (x : STI E V) : STI E V1 := by
  obtain ⟨_, h1, _, hv, _, h36⟩ := h
  intro r w hr hw hE
  rw [h36 r] at hw
  rw [hv.2 37 (by decide) (by decide), hv.1 17 (by decide), hv.2 28 (by decide) (by decide)]
  rcases Decidable.em ((r : Int) = V.1 18) with c | c
  · rw [if_pos c] at hw
    omega
  · rw [if_neg c] at hw
    exact x r w (by omega) hw hE
/-- what a routine's head does -/
def HDP (V V1 : PV) : Prop := (Rx (-8) V V1 ∧ V1.1 7 ≠ 0) ∨ ∃ Va Vb : PV, Rx (-2) V Va ∧ TY (-2) Va ∧ jOPN Va Vb ∧ Rx (-2) Vb V1
