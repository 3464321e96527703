
/-- kinds of addresses; arrays of final fields are made -/
def KDI (S : kS) (h : Nat) (N : Nat → Prop) : Prop := (h, Sum.inl 1) ∈ S.2.2.2.2.2 ∧ (∀ (i t : Nat), i < 200 → qa S 3 h i = some t → (t, Sum.inl 9) ∈ S.2.2.2.2.2) ∧ (∀ (a : Nat) (k k' : cK), (a, k) ∈ S.2.2.2.2.2 → (a, k') ∈ S.2.2.2.2.2 → k = k') ∧ (∀ (f o b : Nat), f ∈ arrL → S.2.1 f o = some b → ∃ k, (b, k) ∈ S.2.2.2.2.2) ∧ (∀ b, S.2.1 9 h = some b → (b, Sum.inl 0) ∈ S.2.2.2.2.2) ∧ ∀ l, N l → (l, Sum.inl 2) ∈ S.2.2.2.2.2
theorem KDI_e {S S1 : kS} {h : Nat} {N : Nat → Prop} {zi zr fa fq : List Nat} (g : KDI S h N) (f : HF zi zr fa fq S S1) (hr : dis9 arrL zr = true) (hr9 : dis9 [9] zr = true) (hq : dis9 [3] fq = true) : KDI S1 h N := by
  unfold KDI
  rw [f.2.2.2.2, f.2.2.2.1 3 (dis9_m hq (by decide))]
  exact ⟨g.1, g.2.1, g.2.2.1, fun x o b hx e => g.2.2.2.1 x o b hx (by rw [← f.2.1 x (dis9_m hr hx)]; exact e), fun b hb => g.2.2.2.2.1 b (by rw [← f.2.1 9 (dis9_m hr9 (by decide))]; exact hb), g.2.2.2.2.2⟩
theorem k_ni {S : kS} {q : Nat} {k : cK} {f b : Nat} : (cNw S q k).1 f b = if b = q then 0 else S.1 f b := rfl
theorem k_nr {S : kS} {q : Nat} {k : cK} {f b : Nat} : (cNw S q k).2.1 f b = if b = q then none else S.2.1 f b := rfl
theorem ar_n {S : kS} {q o f j : Nat} {k : cK} (hA : ∀ (f o b : Nat), f ∈ arrL → S.2.1 f o = some b → ∃ k, (b, k) ∈ S.2.2.2.2.2) (hq : ∀ k : cK, (q, k) ∉ S.2.2.2.2.2) (ho : o ≠ q) : ar (cNw S q k) f o j = ar S f o j ∧ la (cNw S q k) f o j = la S f o j ∧ qa (cNw S q k) f o j = qa S f o j := by
  unfold ar la qa
  rcases Decidable.em (f ∈ arrL) with hf | hf
  · rw [if_pos hf, if_pos hf, if_pos hf, if_pos hf, if_pos hf, if_pos hf, k_nr, if_neg ho]
    cases hb : S.2.1 f o with
    | none => exact ⟨rfl, rfl, rfl⟩
    | some b =>
      obtain ⟨k9, h9⟩ := hA f o b hf hb
      have bq : b ≠ q := fun c => hq k9 (c ▸ h9)
      refine ⟨?_, ?_, ?_⟩
      · show (if b = q then fun _ => 0 else S.2.2.1 b) j = S.2.2.1 b j
        rw [if_neg bq]
      · show (if b = q then fun _ => 0 else S.2.2.2.1 b) j = S.2.2.2.1 b j
        rw [if_neg bq]
      · show (if b = q then fun _ => none else S.2.2.2.2.1 b) j = S.2.2.2.2.1 b j
        rw [if_neg bq]
  · rw [if_neg hf, if_neg hf, if_neg hf, if_neg hf, if_neg hf, if_neg hf]
    exact ⟨rfl, rfl, rfl⟩
/-- the arrays are the same but for those of object p -/
def ARS (p : Nat) (S S1 : kS) : Prop := ∀ f o j, o ≠ p → ar S1 f o j = ar S f o j ∧ la S1 f o j = la S f o j ∧ qa S1 f o j = qa S f o j
theorem ARS_rf {p : Nat} {S : kS} : ARS p S S := fun _ _ _ _ => ⟨rfl, rfl, rfl⟩
theorem ARS_i {p : Nat} {S S0 S1 : kS} {f a : Nat} {v : Int32} (h : ARS p S0 S) (e : S1 = cI S f a v) : ARS p S0 S1 := by subst e; exact h
theorem ARS_r {p : Nat} {S S0 S1 : kS} {f a : Nat} {v : Option Nat} (h : ARS p S0 S) (e : S1 = cR S f a v) (hf : f ∉ arrL) : ARS p S0 S1 := fun g o j ho => by
  rw [ar_cr e hf, la_cr e hf, qa_cr e hf]
  exact h g o j ho
theorem ARS_n {p : Nat} {S S1 : kS} {k : cK} (hA : ∀ (f o b : Nat), f ∈ arrL → S.2.1 f o = some b → ∃ k, (b, k) ∈ S.2.2.2.2.2) (hq : ∀ k : cK, (p, k) ∉ S.2.2.2.2.2) (e : S1 = cNw S p k) : ARS p S S1 := fun f o j ho => by
  subst e
  exact ar_n hA hq ho
/-- a part of task a is made, or taken from the unused -/
def NPT (h a p : Nat) (S S1 : kS) : Prop := (∀ f o, o ≠ p → S1.1 f o = S.1 f o) ∧ S1.1 13 p = 0 ∧ (∀ f o, o ≠ p → ¬ (f = 61 ∧ o = a) → ¬ (f = 62 ∧ o = a) → ¬ (f = 11 ∧ o = h) → S1.2.1 f o = S.2.1 f o) ∧ (S1.2.1 21 p = some a ∧ S1.2.1 22 p = none ∧ S1.2.1 23 p = S.2.1 63 a ∧ S1.2.1 24 p = S.2.1 61 a ∧ S1.2.1 25 p = none ∧ S1.2.1 26 p = none ∧ S1.2.1 27 p = none) ∧ (S1.2.1 61 a = some p ∧ (S.2.1 62 a = none → S1.2.1 62 a = some p) ∧ (S.2.1 62 a ≠ none → S1.2.1 62 a = S.2.1 62 a)) ∧ ((S.2.1 11 h = some p ∧ S1.2.1 11 h = S.2.1 24 p ∧ S1.2.2.2.2.2 = S.2.2.2.2.2 ∧ ∀ f, f ∈ arrL → S1.2.1 f p = S.2.1 f p) ∨ (S.2.1 11 h = none ∧ (∀ k : cK, (p, k) ∉ S.2.2.2.2.2) ∧ S1.2.1 11 h = none ∧ S1.2.2.2.2.2 = S.2.2.2.2.2 ++ [(p, Sum.inl 4)] ∧ ∀ f, f ∈ arrL → S1.2.1 f p = none)) ∧ ARS p S S1
/-- what the rest of newPart does -/
theorem np_28 {h a x : Nat} {k : Int32} {S0 S : kS} (ha : a ≠ x) (hh : h ≠ x) (hi : ∀ f o, o ≠ x → S.1 f o = S0.1 f o) (hr : ∀ f o, o ≠ x → ¬ (f = 11 ∧ o = h) → S.2.1 f o = S0.2.1 f o) (hx : (S0.2.1 11 h = some x ∧ S.2.1 11 h = S0.2.1 24 x ∧ S.2.2.2.2.2 = S0.2.2.2.2.2 ∧ ∀ f, f ∈ arrL → S.2.1 f x = S0.2.1 f x) ∨ (S0.2.1 11 h = none ∧ (∀ k : cK, (x, k) ∉ S0.2.2.2.2.2) ∧ S.2.1 11 h = none ∧ S.2.2.2.2.2 = S0.2.2.2.2.2 ++ [(x, Sum.inl 4)] ∧ ∀ f, f ∈ arrL → S.2.1 f x = none)) (hA : ARS x S0 S) : wT_X1_newPart_28 (fun S1 r => r = some x ∧ NPT h a x S0 S1) a k x S := by
  unfold wT_X1_newPart_28
  intro S8 e8 S9 e9 S10 e10 S11 e11 S12 e12 S13 e13 S14 e14 z15 e15 S16 e16 z17 e17 S18 e18 S19 e19 S20 e20 S21 e21 S22 e22 z23 e23
  have n22 : ARS x S0 S22 := ARS_r (ARS_r (ARS_r (ARS_r (ARS_r (ARS_r (ARS_r (ARS_i (ARS_i (ARS_i (ARS_i (ARS_i (ARS_r hA e8 (by decide)) e9) e10) e11) e12) e13) e14 (by decide)) e16 (by decide)) e18 (by decide)) e19 (by decide)) e20 (by decide)) e21 (by decide)) e22 (by decide)
  have i22 : ∀ f o, o ≠ x → S22.1 f o = S.1 f o := fun f o ho => by rw [e22, k_ri, e21, k_ri, e20, k_ri, e19, k_ri, e18, k_ri, e16, k_ri, e14, k_ri, e13, k_ii, if_neg (fun c => ho c.2), e12, k_ii, if_neg (fun c => ho c.2), e11, k_ii, if_neg (fun c => ho c.2), e10, k_ii, if_neg (fun c => ho c.2), e9, k_ii, if_neg (fun c => ho c.2), e8, k_ri]
  have s22 : S22.1 13 x = 0 := by rw [e22, k_ri, e21, k_ri, e20, k_ri, e19, k_ri, e18, k_ri, e16, k_ri, e14, k_ri, e13, k_ii, if_neg (fun c => absurd c.1 (by decide)), e12, k_ii, if_neg (fun c => absurd c.1 (by decide)), e11, k_ii, if_neg (fun c => absurd c.1 (by decide)), e10, k_ii, if_pos ⟨rfl, rfl⟩]
  have r22 : ∀ f o, o ≠ x → ¬ (f = 61 ∧ o = a) → S22.2.1 f o = S.2.1 f o := fun f o ho h1 => by rw [e22, k_rr, if_neg h1, e21, k_rr, if_neg (fun c => ho c.2), e20, k_rr, if_neg (fun c => ho c.2), e19, k_rr, if_neg (fun c => ho c.2), e18, k_rr, if_neg (fun c => ho c.2), e16, k_rr, if_neg (fun c => ho c.2), e14, k_rr, if_neg (fun c => ho c.2), e13, k_ir, e12, k_ir, e11, k_ir, e10, k_ir, e9, k_ir, e8, k_rr, if_neg (fun c => ho c.2)]
  have q63 : S.2.1 63 a = S0.2.1 63 a := hr 63 a ha (fun c9 => absurd c9.1 (by decide))
  have q61 : S.2.1 61 a = S0.2.1 61 a := hr 61 a ha (fun c9 => absurd c9.1 (by decide))
  have q62 : S.2.1 62 a = S0.2.1 62 a := hr 62 a ha (fun c9 => absurd c9.1 (by decide))
  have p22 : S22.2.1 21 x = some a ∧ S22.2.1 22 x = none ∧ S22.2.1 23 x = S0.2.1 63 a ∧ S22.2.1 24 x = S0.2.1 61 a ∧ S22.2.1 25 x = none ∧ S22.2.1 26 x = none ∧ S22.2.1 27 x = none := ⟨by rw [e22, k_rr, if_neg (fun c => absurd c.1 (by decide)), e21, k_rr, if_neg (fun c => absurd c.1 (by decide)), e20, k_rr, if_neg (fun c => absurd c.1 (by decide)), e19, k_rr, if_neg (fun c => absurd c.1 (by decide)), e18, k_rr, if_neg (fun c => absurd c.1 (by decide)), e16, k_rr, if_neg (fun c => absurd c.1 (by decide)), e14, k_rr, if_neg (fun c => absurd c.1 (by decide)), e13, k_ir, e12, k_ir, e11, k_ir, e10, k_ir, e9, k_ir, e8, k_rr, if_pos ⟨rfl, rfl⟩], by rw [e22, k_rr, if_neg (fun c => absurd c.1 (by decide)), e21, k_rr, if_neg (fun c => absurd c.1 (by decide)), e20, k_rr, if_neg (fun c => absurd c.1 (by decide)), e19, k_rr, if_neg (fun c => absurd c.1 (by decide)), e18, k_rr, if_neg (fun c => absurd c.1 (by decide)), e16, k_rr, if_neg (fun c => absurd c.1 (by decide)), e14, k_rr, if_pos ⟨rfl, rfl⟩], by rw [e22, k_rr, if_neg (fun c => absurd c.1 (by decide)), e21, k_rr, if_neg (fun c => absurd c.1 (by decide)), e20, k_rr, if_neg (fun c => absurd c.1 (by decide)), e19, k_rr, if_neg (fun c => absurd c.1 (by decide)), e18, k_rr, if_neg (fun c => absurd c.1 (by decide)), e16, k_rr, if_pos ⟨rfl, rfl⟩, e15, e14, k_rr, if_neg (fun c => absurd c.1 (by decide)), e13, k_ir, e12, k_ir, e11, k_ir, e10, k_ir, e9, k_ir, e8, k_rr, if_neg (fun c => absurd c.1 (by decide)), q63], by rw [e22, k_rr, if_neg (fun c => absurd c.1 (by decide)), e21, k_rr, if_neg (fun c => absurd c.1 (by decide)), e20, k_rr, if_neg (fun c => absurd c.1 (by decide)), e19, k_rr, if_neg (fun c => absurd c.1 (by decide)), e18, k_rr, if_pos ⟨rfl, rfl⟩, e17, e16, k_rr, if_neg (fun c => absurd c.1 (by decide)), e14, k_rr, if_neg (fun c => absurd c.1 (by decide)), e13, k_ir, e12, k_ir, e11, k_ir, e10, k_ir, e9, k_ir, e8, k_rr, if_neg (fun c => absurd c.1 (by decide)), q61], by rw [e22, k_rr, if_neg (fun c => absurd c.1 (by decide)), e21, k_rr, if_neg (fun c => absurd c.1 (by decide)), e20, k_rr, if_neg (fun c => absurd c.1 (by decide)), e19, k_rr, if_pos ⟨rfl, rfl⟩], by rw [e22, k_rr, if_neg (fun c => absurd c.1 (by decide)), e21, k_rr, if_neg (fun c => absurd c.1 (by decide)), e20, k_rr, if_pos ⟨rfl, rfl⟩], by rw [e22, k_rr, if_neg (fun c => absurd c.1 (by decide)), e21, k_rr, if_pos ⟨rfl, rfl⟩]⟩
  have l22 : S22.2.1 61 a = some x := by rw [e22, k_rr, if_pos ⟨rfl, rfl⟩]
  have d22 : S22.2.2.2.2.2 = S.2.2.2.2.2 := by rw [e22, e21, e20, e19, e18, e16, e14, e13, e12, e11, e10, e9, e8]; rfl
  have f22 : ∀ f, f ∈ arrL → S22.2.1 f x = S.2.1 f x := fun f hf => by
    have m21 : f ≠ 21 := fun c => by rw [c] at hf; exact absurd hf (by decide)
    have m22 : f ≠ 22 := fun c => by rw [c] at hf; exact absurd hf (by decide)
    have m23 : f ≠ 23 := fun c => by rw [c] at hf; exact absurd hf (by decide)
    have m24 : f ≠ 24 := fun c => by rw [c] at hf; exact absurd hf (by decide)
    have m25 : f ≠ 25 := fun c => by rw [c] at hf; exact absurd hf (by decide)
    have m26 : f ≠ 26 := fun c => by rw [c] at hf; exact absurd hf (by decide)
    have m27 : f ≠ 27 := fun c => by rw [c] at hf; exact absurd hf (by decide)
    have m61 : f ≠ 61 := fun c => by rw [c] at hf; exact absurd hf (by decide)
    rw [e22, k_rr, if_neg (fun c => m61 c.1), e21, k_rr, if_neg (fun c => m27 c.1), e20, k_rr, if_neg (fun c => m26 c.1), e19, k_rr, if_neg (fun c => m25 c.1), e18, k_rr, if_neg (fun c => m24 c.1), e16, k_rr, if_neg (fun c => m23 c.1), e14, k_rr, if_neg (fun c => m22 c.1), e13, k_ir, e12, k_ir, e11, k_ir, e10, k_ir, e9, k_ir, e8, k_rr, if_neg (fun c => m21 c.1)]
  have x22 : (S0.2.1 11 h = some x ∧ S22.2.1 11 h = S0.2.1 24 x ∧ S22.2.2.2.2.2 = S0.2.2.2.2.2 ∧ ∀ f, f ∈ arrL → S22.2.1 f x = S0.2.1 f x) ∨ (S0.2.1 11 h = none ∧ (∀ k : cK, (x, k) ∉ S0.2.2.2.2.2) ∧ S22.2.1 11 h = none ∧ S22.2.2.2.2.2 = S0.2.2.2.2.2 ++ [(x, Sum.inl 4)] ∧ ∀ f, f ∈ arrL → S22.2.1 f x = none) := by
    rw [d22, r22 11 h hh (fun c9 => absurd c9.1 (by decide))]
    rcases hx with ⟨a1, a2, a3, a4⟩ | ⟨a1, a2, a3, a4, a5⟩
    · exact Or.inl ⟨a1, a2, a3, fun f hf => (f22 f hf).trans (a4 f hf)⟩
    · exact Or.inr ⟨a1, a2, a3, a4, fun f hf => (f22 f hf).trans (a5 f hf)⟩
  refine ⟨fun c => ?_, fun q24 c => ?_⟩
  · intro S25 e25
    unfold wT_X1_newPart_111
    have n25 : ARS x S0 S25 := ARS_r n22 e25 (by decide)
    have r25 : ∀ f o, ¬ (f = 62 ∧ o = a) → S25.2.1 f o = S22.2.1 f o := fun f o h1 => by rw [e25, k_rr, if_neg h1]
    have i25 : ∀ f o, S25.1 f o = S22.1 f o := fun f o => by rw [e25]; rfl
    refine ⟨rfl, fun f o ho => by rw [i25, i22 f o ho, hi f o ho], by rw [i25]; exact s22, fun f o ho h1 h2 h3 => by rw [r25 f o h2, r22 f o ho h1, hr f o ho h3], ?_, ⟨by rw [r25 61 a (fun c9 => absurd c9.1 (by decide))]; exact l22, fun _ => by rw [e25, k_rr, if_pos ⟨rfl, rfl⟩], fun c9 => absurd (show S0.2.1 62 a = none by rw [← q62, ← r22 62 a ha (fun c9 => absurd c9.1 (by decide)), ← e23]; exact c) c9⟩, ?_, n25⟩
    · rw [r25 21 x (fun c9 => absurd c9.1 (by decide)), r25 22 x (fun c9 => absurd c9.1 (by decide)), r25 23 x (fun c9 => absurd c9.1 (by decide)), r25 24 x (fun c9 => absurd c9.1 (by decide)), r25 25 x (fun c9 => absurd c9.1 (by decide)), r25 26 x (fun c9 => absurd c9.1 (by decide)), r25 27 x (fun c9 => absurd c9.1 (by decide))]
      exact p22
    · have d25 : S25.2.2.2.2.2 = S22.2.2.2.2.2 := by rw [e25]; rfl
      have f25 : ∀ f, f ∈ arrL → S25.2.1 f x = S22.2.1 f x := fun f hf => r25 f x (fun c9 => by rw [c9.1] at hf; exact absurd hf (by decide))
      rw [d25, r25 11 h (fun c9 => absurd c9.1 (by decide))]
      rcases x22 with ⟨a1, a2, a3, a4⟩ | ⟨a1, a2, a3, a4, a5⟩
      · exact Or.inl ⟨a1, a2, a3, fun f hf => (f25 f hf).trans (a4 f hf)⟩
      · exact Or.inr ⟨a1, a2, a3, a4, fun f hf => (f25 f hf).trans (a5 f hf)⟩
  · unfold wT_X1_newPart_111
    have r62 : S22.2.1 62 a = S0.2.1 62 a := by rw [r22 62 a ha (fun c9 => absurd c9.1 (by decide)), q62]
    refine ⟨rfl, fun f o ho => by rw [i22 f o ho, hi f o ho], s22, fun f o ho h1 h2 h3 => by rw [r22 f o ho h1, hr f o ho h3], p22, ⟨l22, fun c9 => absurd (c9.symm.trans (r62.symm.trans (e23.symm.trans c))) (fun w => by cases w), fun _ => r62⟩, x22, n22⟩
theorem np_mono {K K1 : kS → Option Nat → Prop} {a x : Nat} {k : Int32} {S : kS} (hk : ∀ S1 r, K S1 r → K1 S1 r) (h : wT_X1_newPart_28 K a k x S) : wT_X1_newPart_28 K1 a k x S := by
  unfold wT_X1_newPart_28 wT_X1_newPart_111 at h ⊢
  intro S8 e8 S9 e9 S10 e10 S11 e11 S12 e12 S13 e13 S14 e14 z15 e15 S16 e16 z17 e17 S18 e18 S19 e19 S20 e20 S21 e21 S22 e22 z23 e23
  replace h := h S8 e8 S9 e9 S10 e10 S11 e11 S12 e12 S13 e13 S14 e14 z15 e15 S16 e16 z17 e17 S18 e18 S19 e19 S20 e20 S21 e21 S22 e22 z23 e23
  exact ⟨fun c S25 e25 => hk _ _ (h.1 c S25 e25), fun q c => hk _ _ (h.2 q c)⟩
theorem sk_X1_newPart {h a : Nat} {k : Int32} {S : kS} {N : Nat → Prop} (hK : KDI S h N) (ha : (a, Sum.inl 9) ∈ S.2.2.2.2.2) (hU : ∀ p, S.2.1 11 h = some p → (p, Sum.inl 4) ∈ S.2.2.2.2.2) : wT_X1_newPart h a k S (fun S1 r => ∃ p, r = some p ∧ NPT h a p S S1 ∧ a ≠ p ∧ h ≠ p) := by
  unfold wT_X1_newPart
  intro z1 e1
  refine ⟨fun c => ?_, fun q2 c => ?_⟩
  · intro q3 hq S4 e4
    unfold wT_X4_init
    have ha3 : a ≠ q3 := fun c9 => hq _ (c9 ▸ ha)
    have hh3 : h ≠ q3 := fun c9 => hq _ (c9 ▸ hK.1)
    refine np_mono (fun S1 r w => ⟨q3, w.1, w.2, ha3, hh3⟩) (np_28 (h := h) (S0 := S) ha3 hh3 (fun f o ho => by rw [e4, k_ni, if_neg ho]) (fun f o ho _ => by rw [e4, k_nr, if_neg ho]) (Or.inr ⟨e1.symm.trans c, hq, by rw [e4, k_nr, if_neg hh3]; exact e1.symm.trans c, by rw [e4]; rfl, fun f _ => by rw [e4, k_nr, if_pos rfl]⟩) (ARS_n hK.2.2.2.1 hq e4))
  · intro z6 e6 S7 e7
    have hq := hU q2 (e1.symm.trans c)
    have ha3 : a ≠ q2 := fun c9 => by
      have := hK.2.2.1 q2 _ _ hq (c9 ▸ ha)
      cases this
    have hh3 : h ≠ q2 := fun c9 => by
      have := hK.2.2.1 q2 _ _ hq (c9 ▸ hK.1)
      cases this
    refine np_mono (fun S1 r w => ⟨q2, w.1, w.2, ha3, hh3⟩) (np_28 (h := h) (S0 := S) ha3 hh3 (fun f o _ => by rw [e7]; rfl) (fun f o _ h9 => by rw [e7, k_rr, if_neg h9]) (Or.inl ⟨e1.symm.trans c, by rw [e7, k_rr, if_pos ⟨rfl, rfl⟩]; exact e6, by rw [e7]; rfl, fun f hf => by rw [e7, k_rr, if_neg (fun c9 => by rw [c9.1] at hf; exact absurd hf (by decide))]⟩) (ARS_r ARS_rf e7 (by decide)))
section HNP
variable {S S1 : kS} {h a p : Nat} {N T G : Nat → Prop} {U : List Nat} {L : Nat → List Nat} {D : Nat → Nat} {P : Nat → Int32}
theorem ro_x (g : PAI S h U L D) {t : Nat} : ∀ (n q : Nat), D q ≤ n → q ∈ L t → ∃ r, S.2.1 62 t = some r
  | 0, q, hn, hq => by
    have k := (g.2.2.2.2.2.2.1 t q hq).2.2.2
    cases hz : S.2.1 23 q with
    | none => exact ⟨q, k.2 hz⟩
    | some w =>
      have := (k.1 w hz).2
      omega
  | n + 1, q, hn, hq => by
    have k := (g.2.2.2.2.2.2.1 t q hq).2.2.2
    cases hz : S.2.1 23 q with
    | none => exact ⟨q, k.2 hz⟩
    | some w =>
      have k1 := k.1 w hz
      exact ro_x g n w (by omega) k1.1
theorem lcn_c {f g : Nat → Int32} : ∀ {n : Nat}, (∀ i, i < n → f i = g i) → lcn f n = lcn g n
  | 0, _ => rfl
  | n + 1, e => by
    show lcn f n + (if f n = 0 then 0 else 1) = lcn g n + (if g n = 0 then 0 else 1)
    rw [lcn_c (fun i hi => e i (by omega)), e n (by omega)]
theorem mem_qup {l : List Nat} {q t : Nat} (hq : q ∈ qup L a (p :: l) t) (hl : l = L a) : (q = p ∧ t = a) ∨ q ∈ L t := by
  rcases Decidable.em (t = a) with c | c
  · rw [c, qup_at] at hq
    rcases List.mem_cons.mp hq with d | d
    · exact Or.inl ⟨d, c⟩
    · exact Or.inr (by rw [c, ← hl]; exact d)
  · rw [qup_ne c] at hq
    exact Or.inr hq
theorem mem_qu2 {q t : Nat} (hq : q ∈ L t) : q ∈ qup L a (p :: L a) t := by
  rcases Decidable.em (t = a) with c | c
  · rw [c, qup_at]
    exact List.mem_cons_of_mem _ (by rw [← c]; exact hq)
  · rw [qup_ne c]
    exact hq
def dup9 (D : Nat → Nat) (p v : Nat) : Nat → Nat := fun q => if q = p then v else D q
theorem HI_np (g : HI h N T G U L D P S) (hK : KDI S h N) (ht : tl S h a) (hap : a ≠ p) (hhp : h ≠ p) (n : NPT h a p S S1) (hs : S.1 30 a ≠ 0 ∧ S.1 30 a ≠ 1 ∧ S.1 30 a ≠ 2) (hab : L a = [] ∨ ∃ q, S.2.1 63 a = some q ∧ D q ≤ 9) : ∃ U1, HI h N T G U1 (qup L a (p :: L a)) (dup9 D p (dpx D (S.2.1 63 a))) P S1 ∧ KDI S1 h N := by
  obtain ⟨g1, g2, g3, g4, g5, g6, g7, g8, g9⟩ := g
  obtain ⟨n1, n2, n3, ⟨n21, n22, n23, n24, n25, n26, n27⟩, ⟨n61, n62, n63⟩, nx, nA⟩ := n
  obtain ⟨u1, u2, u3, u4, u5, u6, u7, u8, u9⟩ := g2
  obtain ⟨k1, k2, k3, k4, k5, k6⟩ := hK
  -- p is no other thing
  have pk : ∀ (o : Nat) (c : Nat), c ≠ 4 → (o, Sum.inl c) ∈ S.2.2.2.2.2 → o ≠ p := fun o c hc ho e => by
    rcases nx with ⟨x1, _⟩ | ⟨_, x2, _⟩
    · have pu : p ∈ U := by
        obtain ⟨r, er, _⟩ := CH_cons (show CH (S.2.1 24) (some p) U by rw [← x1]; exact u1)
        rw [er]
        exact List.mem_cons_self ..
      have := k3 p _ _ (u8 p pu) (e ▸ ho)
      have e4 : (4 : Nat) = c := by injection this
      exact hc e4.symm
    · exact x2 _ (e ▸ ho)
  have pL : ∀ t, p ∉ L t := fun t hp => by
    rcases nx with ⟨x1, _⟩ | ⟨_, x2, _⟩
    · obtain ⟨r, er, _⟩ := CH_cons (show CH (S.2.1 24) (some p) U by rw [← x1]; exact u1)
      exact u5 t p hp (by rw [er]; exact List.mem_cons_self ..)
    · exact x2 _ (u9 t p hp)
  have qp : ∀ t q, q ∈ L t → q ≠ p := fun t q hq e => pL t (e ▸ hq)
  have tp : ∀ t, tk S h t → t ≠ p := fun t h9 => by
    obtain ⟨i, hi, hq⟩ := h9
    exact pk t 9 (by decide) (k2 i t hi hq)
  have lp : ∀ l, N l → l ≠ p := fun l hl => pk l 2 (by decide) (k6 l hl)
  have eh : ∀ f, S1.1 f h = S.1 f h := fun f => n1 f h hhp
  have e3 : qa S1 3 h = qa S 3 h := funext (fun i => (nA 3 h i hhp).2.2)
  have ea : ∀ f, ar S1 f h = ar S f h := fun f => funext (fun i => (nA f h i hhp).1)
  have tle : tl S1 h = tl S h := by unfold tl; rw [eh 1, e3]
  have tke : tk S1 h = tk S h := by unfold tk; rw [e3]
  have tlk : ∀ t, tl S h t → t ≠ p := fun t h9 => tp t (tl_t g1 h9)
  have q3 : ∀ f o, o ≠ p → f ≠ 61 → f ≠ 62 → f ≠ 11 → S1.2.1 f o = S.2.1 f o := fun f o ho h1 h2 h3 => n3 f o ho (fun c => h1 c.1) (fun c => h2 c.1) (fun c => h3 c.1)
  have dS : ∀ x, x ∈ S.2.2.2.2.2 → x ∈ S1.2.2.2.2.2 := fun x hx => by
    rcases nx with ⟨_, _, x3, _⟩ | ⟨_, _, _, x4, _⟩
    · rw [x3]; exact hx
    · rw [x4]; exact List.mem_append_left _ hx
  have dp : (p, Sum.inl 4) ∈ S1.2.2.2.2.2 := by
    rcases nx with ⟨x1, _, x3, _⟩ | ⟨_, _, _, x4, _⟩
    · obtain ⟨r, er, _⟩ := CH_cons (show CH (S.2.1 24) (some p) U by rw [← x1]; exact u1)
      exact dS _ (u8 p (by rw [er]; exact List.mem_cons_self ..))
    · rw [x4]; exact List.mem_append_right _ (List.mem_cons_self ..)
  have ab0 : L a = [] → S.2.1 63 a = none ∧ S.2.1 62 a = none := fun e => by
    have w := u3 a (tl_t g1 ht)
    refine ⟨on_none (fun q hq => ?_), on_none (fun q hq => ?_)⟩
    · have := w.2.2 q hq
      rw [e] at this
      exact absurd this List.not_mem_nil
    · have := (w.2.1 q hq).1
      rw [e] at this
      exact absurd this List.not_mem_nil
  have ab1 : ∀ q, S.2.1 63 a = some q → q ∈ L a ∧ D q ≤ 9 ∧ ∃ r, S.2.1 62 a = some r := fun q hq => by
    have m := (u3 a (tl_t g1 ht)).2.2 q hq
    refine ⟨m, ?_, ro_x ⟨u1, u2, u3, u4, u5, u6, u7, u8, u9⟩ (D q) q (Nat.le_refl _) m⟩
    rcases hab with c | ⟨w, hw, hd⟩
    · rw [c] at m
      exact absurd m List.not_mem_nil
    · rw [hq] at hw
      rw [Option.some.inj hw]
      exact hd
  have D1p : dup9 D p (dpx D (S.2.1 63 a)) p = dpx D (S.2.1 63 a) := if_pos rfl
  have D1q : ∀ q, q ≠ p → dup9 D p (dpx D (S.2.1 63 a)) q = D q := fun q hq => if_neg hq
  have UX : ∃ U1, CH (S1.2.1 24) (S1.2.1 11 h) U1 ∧ U1.Nodup ∧ p ∉ U1 ∧ ∀ q, q ∈ U1 → q ∈ U := by
    rcases nx with ⟨x1, x2, _⟩ | ⟨x1, _, x3, _⟩
    · obtain ⟨r, er, hr⟩ := CH_cons (show CH (S.2.1 24) (some p) U by rw [← x1]; exact u1)
      have nd := u2
      rw [er] at nd
      have nd2 := List.nodup_cons.mp nd
      refine ⟨r, ?_, nd2.2, nd2.1, fun q hq => by rw [er]; exact List.mem_cons_of_mem _ hq⟩
      rw [x2]
      exact CH_eq (fun q hq => q3 24 q (fun c => nd2.1 (c ▸ hq)) (by decide) (by decide) (by decide)) hr
    · refine ⟨[], x3, List.nodup_nil, List.not_mem_nil, fun q hq => absurd hq List.not_mem_nil⟩
  obtain ⟨U1, ux1, ux2, ux3, ux4⟩ := UX
  have nl := u4 a
  refine ⟨U1, ⟨?_, ?_, ?_, ?_, ?_, ?_, ?_, ?_, ?_⟩, ?_⟩
  · refine ⟨by rw [eh 1]; exact g1.1, by rw [eh 1]; exact g1.2.1, by rw [eh 1, e3]; exact g1.2.2.1, fun i t hi hq => ?_⟩
    rw [e3] at hq
    rw [n1 28 t (tp t ⟨i, hi, hq⟩)]
    exact g1.2.2.2 i t hi hq
  · refine ⟨ux1, ux2, fun t h9 => ?_, fun t => ?_, fun t q hq hu => ?_, fun t u q hq hu => ?_, fun t q hq => ?_, fun q hq => dS _ (u8 q (ux4 q hq)), fun t q hq => ?_⟩
    · rw [tke] at h9
      obtain ⟨w1, w2, w3⟩ := u3 t h9
      have t9 := tp t h9
      rcases Decidable.em (t = a) with c | c
      · rw [c] at w1 w2 w3 ⊢
        rw [qup_at, n61]
        refine ⟨⟨rfl, ?_⟩, fun q hq => ?_, fun q hq => ?_⟩
        · rw [n24]
          exact CH_eq (fun q hq => q3 24 q (qp a q hq) (by decide) (by decide) (by decide)) w1
        · rcases Decidable.em (S.2.1 62 a = none) with d | d
          · rw [n62 d] at hq
            rw [← Option.some.inj hq, n23]
            refine ⟨List.mem_cons_self .., on_none (fun w hw => ?_)⟩
            obtain ⟨r, er⟩ := (ab1 w hw).2.2
            rw [d] at er
            cases er
          · rw [n63 d] at hq
            have := w2 q hq
            exact ⟨List.mem_cons_of_mem _ this.1, by rw [q3 23 q (qp a q this.1) (by decide) (by decide) (by decide)]; exact this.2⟩
        · rw [q3 63 a hap (by decide) (by decide) (by decide)] at hq
          exact List.mem_cons_of_mem _ (w3 q hq)
      · rw [qup_ne c, n3 61 t t9 (fun q => c q.2) (fun q => c q.2) (fun q => absurd q.1 (by decide)), n3 62 t t9 (fun q => c q.2) (fun q => c q.2) (fun q => absurd q.1 (by decide)), q3 63 t t9 (by decide) (by decide) (by decide)]
        refine ⟨CH_eq (fun q hq => q3 24 q (qp t q hq) (by decide) (by decide) (by decide)) w1, fun q hq => ?_, w3⟩
        have := w2 q hq
        exact ⟨this.1, by rw [q3 23 q (qp t q this.1) (by decide) (by decide) (by decide)]; exact this.2⟩
    · rcases Decidable.em (t = a) with c | c
      · rw [c, qup_at]
        exact List.nodup_cons.mpr ⟨pL a, u4 a⟩
      · rw [qup_ne c]
        exact u4 t
    · rcases mem_qup hq rfl with ⟨d, _⟩ | d
      · rw [d] at hu
        exact ux3 hu
      · exact u5 t q d (ux4 q hu)
    · rcases mem_qup hq rfl with ⟨d, d2⟩ | d
      · rcases mem_qup hu rfl with ⟨_, e2⟩ | e2
        · rw [d2, e2]
        · rw [d] at e2
          exact absurd e2 (pL u)
      · rcases mem_qup hu rfl with ⟨e1, _⟩ | e1
        · rw [e1] at d
          exact absurd d (pL t)
        · exact u6 t u q d e1
    · rw [tle]
      rcases mem_qup hq rfl with ⟨d, d2⟩ | d
      · rw [d, d2, D1p, n21, n23]
        refine ⟨ht, rfl, ?_, fun w hw => ?_, fun hw => ?_⟩
        · cases hz : S.2.1 63 a with
          | none => exact Nat.zero_le _
          | some w =>
            have := (ab1 w hz).2.1
            show D w + 1 ≤ 10
            omega
        · rw [qup_at, D1q w (qp a w (ab1 w hw).1), hw]
          exact ⟨List.mem_cons_of_mem _ (ab1 w hw).1, rfl⟩
        · rcases hab with c | ⟨w, hw9, _⟩
          · exact n62 (ab0 c).2
          · rw [hw] at hw9
            cases hw9
      · have qn := qp t q d
        obtain ⟨w1, w2, w3, w4, w5⟩ := u7 t q d
        rw [q3 21 q qn (by decide) (by decide) (by decide), q3 23 q qn (by decide) (by decide) (by decide), D1q q qn]
        refine ⟨w1, w2, w3, fun w hw => ?_, fun hw => ?_⟩
        · rw [D1q w (qp t w (w4 w hw).1)]
          exact ⟨mem_qu2 (w4 w hw).1, (w4 w hw).2⟩
        · have w6 := w5 hw
          rcases Decidable.em (t = a) with c | c
          · rw [c] at w6 ⊢
            rw [n63 (by rw [w6]; intro c9; cases c9)]
            exact w6
          · rw [n3 62 t (tlk t w1) (fun q => c q.2) (fun q => c q.2) (fun q => absurd q.1 (by decide))]
            exact w6
    · rcases mem_qup hq rfl with ⟨d, _⟩ | d
      · rw [d]
        exact dp
      · exact dS _ (u9 t q d)
  · obtain ⟨Q, c1, c2, c3⟩ := g3
    refine ⟨Q, fun l hl => ?_, fun l q hq => ?_, fun t q l hq hl => ?_⟩
    · obtain ⟨w1, w2, w3, w4⟩ := c1 l hl
      rw [q3 12 l (lp l hl) (by decide) (by decide) (by decide), q3 13 l (lp l hl) (by decide) (by decide) (by decide)]
      refine ⟨DL_eq (fun q hq => ?_) w1, w2, w3, w4⟩
      obtain ⟨t, h9⟩ := (c2 l q hq).2.2.1
      exact ⟨q3 26 q (qp t q h9) (by decide) (by decide) (by decide), q3 27 q (qp t q h9) (by decide) (by decide) (by decide)⟩
    · obtain ⟨w1, w2, ⟨t, h9⟩, w4⟩ := c2 l q hq
      rw [q3 25 q (qp t q h9) (by decide) (by decide) (by decide), n1 13 q (qp t q h9)]
      exact ⟨w1, w2, ⟨t, mem_qu2 h9⟩, w4⟩
    · rcases mem_qup hq rfl with ⟨d, _⟩ | d
      · rw [d, n25] at hl
        cases hl
      · rw [q3 25 q (qp t q d) (by decide) (by decide) (by decide)] at hl
        exact c3 t q l d hl
  · intro u hg hu
    rw [tle] at hu
    have up := tlk u hu
    rw [n1 30 u up, n1 38 u up]
    rcases Decidable.em (u = a) with c | c
    · rw [c]
      exact ⟨fun w => by rcases w with w | w | w; exact absurd w hs.1; exact absurd w hs.2.2; exact absurd w.1 hs.2.1, fun w => by rcases w with w | w | w; exact absurd w hs.1; exact absurd w hs.2.1; exact absurd w hs.2.2⟩
    · rw [qup_ne c]
      exact ⟨fun w q hq => by rw [n1 13 q (qp u q hq)]; exact (g4 u hg hu).1 w q hq, (g4 u hg hu).2⟩
  · refine ⟨fun t q h9 hq => ?_, fun t u h9 hu => ?_, fun t q c hq hc => ?_⟩
    · rw [tle] at h9
      rw [q3 57 t (tlk t h9) (by decide) (by decide) (by decide)] at hq
      rcases Decidable.em (q = p) with c | c
      · exact Or.inl ⟨a, by rw [c, qup_at]; exact List.mem_cons_self ..⟩
      · rcases g5.1 t q h9 hq with ⟨w, hw⟩ | w
        · exact Or.inl ⟨w, mem_qu2 hw⟩
        · exact Or.inr ⟨by rw [n1 13 q c]; exact w.1, dS _ w.2⟩
    · rw [tle] at h9 ⊢
      rw [q3 56 t (tlk t h9) (by decide) (by decide) (by decide)] at hu
      exact g5.2.1 t u h9 hu
    · rw [tle]
      rcases mem_qup hq rfl with ⟨d, _⟩ | d
      · rw [d, n22] at hc
        cases hc
      · rw [q3 22 q (qp t q d) (by decide) (by decide) (by decide)] at hc
        exact g5.2.2 t q c d hc
  · refine ⟨by rw [eh 1, eh 3, ea 4]; exact g6.1, by rw [eh 3, ea 4]; exact g6.2.1, fun i t hi hq => ?_⟩
    rw [eh 3] at hi
    rw [ea 4, e3] at hq
    have r9 := g6.1.2.2 i hi
    have x9 := kx_int (ar S 4 h i) r9.1
    have t2 := g1.2.1
    rw [n1 30 t (tp t ⟨_, by omega, hq⟩)]
    exact g6.2.2 i t hi hq
  · rw [eh 1, eh 5, ea 10]
    exact g7
  · refine ⟨fun b hb => ?_, fun o ho h9 => ?_⟩
    · rw [q3 9 h hhp (by decide) (by decide) (by decide)] at hb
      have w := g8.1 b hb
      rw [n1 0 b (pk b 0 (by decide) (k5 b hb)), eh 1, lcn_c (g := cnc S h) (fun i hi => ?_)]
      · exact w
      · unfold cnc
        rw [e3]
        cases hc : qa S 3 h i with
        | none => rfl
        | some t =>
          have t2 := g1.2.1
          have t1 := g1.1
          exact n1 35 t (tp t ⟨i, by omega, hc⟩)
    · rw [q3 9 h hhp (by decide) (by decide) (by decide)] at h9
      rcases Decidable.em (o = p) with c | c
      · rw [c] at ho
        rcases nx with ⟨x1, _, x3, _⟩ | ⟨_, x2, _, x4, _⟩
        · rw [x3] at ho
          exact absurd c (pk o 0 (by decide) (by rw [c]; exact ho))
        · rw [x4] at ho
          rcases List.mem_append.mp ho with w | w
          · exact absurd w (x2 _)
          · rcases List.mem_cons.mp w with w | w
            · have w2 : (Sum.inl 0 : cK) = Sum.inl 4 := congrArg Prod.snd w
              cases w2
            · exact absurd w List.not_mem_nil
      · rw [n1 0 o c]
        refine g8.2 o ?_ h9
        rcases nx with ⟨x1, _, x3, _⟩ | ⟨_, x2, _, x4, _⟩
        · rw [← x3]; exact ho
        · rw [x4] at ho
          rcases List.mem_append.mp ho with w | w
          · exact w
          · rcases List.mem_cons.mp w with w | w
            · exact absurd (congrArg Prod.fst w) c
            · exact absurd w List.not_mem_nil
  · unfold LTS
    rw [ea 6]
    exact g9
  · refine ⟨dS _ k1, fun i t hi hq => ?_, ?_, fun f o b hf e => ?_, fun b hb => ?_, fun l hl => dS _ (k6 l hl)⟩
    · rw [e3] at hq
      exact dS _ (k2 i t hi hq)
    · rcases nx with ⟨_, _, x3, _⟩ | ⟨_, x2, _, x4, _⟩
      · rw [x3]; exact k3
      · rw [x4]
        intro b k k' hb hb'
        rcases List.mem_append.mp hb with w | w
        · rcases List.mem_append.mp hb' with v | v
          · exact k3 b k k' w v
          · rcases List.mem_cons.mp v with v | v
            · have v1 : b = p := congrArg Prod.fst v
              exact absurd w (by rw [v1]; exact x2 k)
            · exact absurd v List.not_mem_nil
        · rcases List.mem_cons.mp w with w | w
          · have w1 : b = p := congrArg Prod.fst w
            have w2 : k = Sum.inl 4 := congrArg Prod.snd w
            rcases List.mem_append.mp hb' with v | v
            · exact absurd v (by rw [w1]; exact x2 k')
            · rcases List.mem_cons.mp v with v | v
              · have v2 : k' = Sum.inl 4 := congrArg Prod.snd v
                rw [w2, v2]
              · exact absurd v List.not_mem_nil
          · exact absurd w List.not_mem_nil
    · rcases Decidable.em (o = p) with c | c
      · rw [c] at e
        rcases nx with ⟨_, _, x3, x4⟩ | ⟨_, _, _, _, x5⟩
        · rw [x4 f hf] at e
          obtain ⟨k, hk⟩ := k4 f p b hf e
          exact ⟨k, dS _ hk⟩
        · rw [x5 f hf] at e
          cases e
      · rw [n3 f o c (fun q => by rw [q.1] at hf; exact absurd hf (by decide)) (fun q => by rw [q.1] at hf; exact absurd hf (by decide)) (fun q => by rw [q.1] at hf; exact absurd hf (by decide))] at e
        obtain ⟨k, hk⟩ := k4 f o b hf e
        exact ⟨k, dS _ hk⟩
    · rw [q3 9 h hhp (by decide) (by decide) (by decide)] at hb
      exact dS _ (k5 b hb)
end HNP
