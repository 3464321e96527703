
/-- kinds of addresses; arrays of final fields are made -/
def KDI (S : kS) (h : Nat) : Prop := (h, Sum.inl 1) ∈ S.2.2.2.2.2 ∧ (∀ (i t : Nat), i < 200 → qa S 3 h i = some t → (t, Sum.inl 9) ∈ S.2.2.2.2.2) ∧ (∀ (a : Nat) (k k' : cK), (a, k) ∈ S.2.2.2.2.2 → (a, k') ∈ S.2.2.2.2.2 → k = k') ∧ ∀ (f o b : Nat), f ∈ arrL → S.2.1 f o = some b → ∃ k, (b, k) ∈ S.2.2.2.2.2
theorem KDI_e {S S1 : kS} {h : Nat} {zi zr fa fq : List Nat} (g : KDI S h) (f : HF zi zr fa fq S S1) (hr : dis9 arrL zr = true) (hq : dis9 [3] fq = true) : KDI S1 h := by
  unfold KDI
  rw [f.2.2.2.2, f.2.2.2.1 3 (dis9_m hq (by decide))]
  exact ⟨g.1, g.2.1, g.2.2.1, fun x o b hx e => g.2.2.2 x o b hx (by rw [← f.2.1 x (dis9_m hr hx)]; exact e)⟩
theorem k_ni {S : kS} {q : Nat} {k : cK} {f b : Nat} : (cNw S q k).1 f b = if b = q then 0 else S.1 f b := rfl
theorem k_nr {S : kS} {q : Nat} {k : cK} {f b : Nat} : (cNw S q k).2.1 f b = if b = q then none else S.2.1 f b := rfl
theorem ar_n {S : kS} {q o f j : Nat} {k : cK} (hA : ∀ (f o b : Nat), f ∈ arrL → S.2.1 f o = some b → ∃ k, (b, k) ∈ S.2.2.2.2.2) (hq : ∀ k : cK, (q, k) ∉ S.2.2.2.2.2) (ho : o ≠ q) : ar (cNw S q k) f o j = ar S f o j ∧ la (cNw S q k) f o j = la S f o j ∧ qa (cNw S q k) f o j = qa S f o j := by
  unfold ar la qa
  rcases Decidable.em (f ∈ arrL) with hf | hf
  · rw [if_pos hf, if_pos hf, if_pos hf, if_pos hf, if_pos hf, if_pos hf, k_nr, if_neg ho]
    cases hb : S.2.1 f o with
    | none => exact ⟨rfl, rfl, rfl⟩
    | some b =>
      obtain ⟨k9, h9⟩ := hA f o b hf hb
      have bq : b ≠ q := fun c => hq k9 (c ▸ h9)
      refine ⟨?_, ?_, ?_⟩
      · show (if b = q then fun _ => 0 else S.2.2.1 b) j = S.2.2.1 b j
        rw [if_neg bq]
      · show (if b = q then fun _ => 0 else S.2.2.2.1 b) j = S.2.2.2.1 b j
        rw [if_neg bq]
      · show (if b = q then fun _ => none else S.2.2.2.2.1 b) j = S.2.2.2.2.1 b j
        rw [if_neg bq]
  · rw [if_neg hf, if_neg hf, if_neg hf, if_neg hf, if_neg hf, if_neg hf]
    exact ⟨rfl, rfl, rfl⟩
/-- the arrays are the same but for those of object p -/
def ARS (p : Nat) (S S1 : kS) : Prop := ∀ f o j, o ≠ p → ar S1 f o j = ar S f o j ∧ la S1 f o j = la S f o j ∧ qa S1 f o j = qa S f o j
theorem ARS_rf {p : Nat} {S : kS} : ARS p S S := fun _ _ _ _ => ⟨rfl, rfl, rfl⟩
theorem ARS_i {p : Nat} {S S0 S1 : kS} {f a : Nat} {v : Int32} (h : ARS p S0 S) (e : S1 = cI S f a v) : ARS p S0 S1 := by subst e; exact h
theorem ARS_r {p : Nat} {S S0 S1 : kS} {f a : Nat} {v : Option Nat} (h : ARS p S0 S) (e : S1 = cR S f a v) (hf : f ∉ arrL) : ARS p S0 S1 := fun g o j ho => by
  rw [ar_cr e hf, la_cr e hf, qa_cr e hf]
  exact h g o j ho
theorem ARS_n {p : Nat} {S S1 : kS} {k : cK} (hA : ∀ (f o b : Nat), f ∈ arrL → S.2.1 f o = some b → ∃ k, (b, k) ∈ S.2.2.2.2.2) (hq : ∀ k : cK, (p, k) ∉ S.2.2.2.2.2) (e : S1 = cNw S p k) : ARS p S S1 := fun f o j ho => by
  subst e
  exact ar_n hA hq ho
/-- a part of task a is made, or taken from the unused -/
def NPT (h a p : Nat) (S S1 : kS) : Prop := (∀ f o, o ≠ p → S1.1 f o = S.1 f o) ∧ S1.1 13 p = 0 ∧ (∀ f o, o ≠ p → ¬ (f = 61 ∧ o = a) → ¬ (f = 62 ∧ o = a) → ¬ (f = 11 ∧ o = h) → S1.2.1 f o = S.2.1 f o) ∧ (S1.2.1 21 p = some a ∧ S1.2.1 22 p = none ∧ S1.2.1 23 p = S.2.1 63 a ∧ S1.2.1 24 p = S.2.1 61 a ∧ S1.2.1 25 p = none ∧ S1.2.1 26 p = none ∧ S1.2.1 27 p = none) ∧ (S1.2.1 61 a = some p ∧ (S.2.1 62 a = none → S1.2.1 62 a = some p) ∧ (S.2.1 62 a ≠ none → S1.2.1 62 a = S.2.1 62 a)) ∧ ((S.2.1 11 h = some p ∧ S1.2.1 11 h = S.2.1 24 p ∧ S1.2.2.2.2.2 = S.2.2.2.2.2 ∧ ∀ f, f ∈ arrL → S1.2.1 f p = S.2.1 f p) ∨ (S.2.1 11 h = none ∧ (∀ k : cK, (p, k) ∉ S.2.2.2.2.2) ∧ S1.2.1 11 h = none ∧ S1.2.2.2.2.2 = S.2.2.2.2.2 ++ [(p, Sum.inl 4)] ∧ ∀ f, f ∈ arrL → S1.2.1 f p = none)) ∧ ARS p S S1
/-- what the rest of newPart does -/
theorem np_28 {h a x : Nat} {k : Int32} {S0 S : kS} (ha : a ≠ x) (hh : h ≠ x) (hi : ∀ f o, o ≠ x → S.1 f o = S0.1 f o) (hr : ∀ f o, o ≠ x → ¬ (f = 11 ∧ o = h) → S.2.1 f o = S0.2.1 f o) (hx : (S0.2.1 11 h = some x ∧ S.2.1 11 h = S0.2.1 24 x ∧ S.2.2.2.2.2 = S0.2.2.2.2.2 ∧ ∀ f, f ∈ arrL → S.2.1 f x = S0.2.1 f x) ∨ (S0.2.1 11 h = none ∧ (∀ k : cK, (x, k) ∉ S0.2.2.2.2.2) ∧ S.2.1 11 h = none ∧ S.2.2.2.2.2 = S0.2.2.2.2.2 ++ [(x, Sum.inl 4)] ∧ ∀ f, f ∈ arrL → S.2.1 f x = none)) (hA : ARS x S0 S) : wT_X1_newPart_28 (fun S1 r => r = some x ∧ NPT h a x S0 S1) a k x S := by
  unfold wT_X1_newPart_28
  intro S8 e8 S9 e9 S10 e10 S11 e11 S12 e12 S13 e13 S14 e14 z15 e15 S16 e16 z17 e17 S18 e18 S19 e19 S20 e20 S21 e21 S22 e22 z23 e23
  have n22 : ARS x S0 S22 := ARS_r (ARS_r (ARS_r (ARS_r (ARS_r (ARS_r (ARS_r (ARS_i (ARS_i (ARS_i (ARS_i (ARS_i (ARS_r hA e8 (by decide)) e9) e10) e11) e12) e13) e14 (by decide)) e16 (by decide)) e18 (by decide)) e19 (by decide)) e20 (by decide)) e21 (by decide)) e22 (by decide)
  have i22 : ∀ f o, o ≠ x → S22.1 f o = S.1 f o := fun f o ho => by rw [e22, k_ri, e21, k_ri, e20, k_ri, e19, k_ri, e18, k_ri, e16, k_ri, e14, k_ri, e13, k_ii, if_neg (fun c => ho c.2), e12, k_ii, if_neg (fun c => ho c.2), e11, k_ii, if_neg (fun c => ho c.2), e10, k_ii, if_neg (fun c => ho c.2), e9, k_ii, if_neg (fun c => ho c.2), e8, k_ri]
  have s22 : S22.1 13 x = 0 := by rw [e22, k_ri, e21, k_ri, e20, k_ri, e19, k_ri, e18, k_ri, e16, k_ri, e14, k_ri, e13, k_ii, if_neg (fun c => absurd c.1 (by decide)), e12, k_ii, if_neg (fun c => absurd c.1 (by decide)), e11, k_ii, if_neg (fun c => absurd c.1 (by decide)), e10, k_ii, if_pos ⟨rfl, rfl⟩]
  have r22 : ∀ f o, o ≠ x → ¬ (f = 61 ∧ o = a) → S22.2.1 f o = S.2.1 f o := fun f o ho h1 => by rw [e22, k_rr, if_neg h1, e21, k_rr, if_neg (fun c => ho c.2), e20, k_rr, if_neg (fun c => ho c.2), e19, k_rr, if_neg (fun c => ho c.2), e18, k_rr, if_neg (fun c => ho c.2), e16, k_rr, if_neg (fun c => ho c.2), e14, k_rr, if_neg (fun c => ho c.2), e13, k_ir, e12, k_ir, e11, k_ir, e10, k_ir, e9, k_ir, e8, k_rr, if_neg (fun c => ho c.2)]
  have q63 : S.2.1 63 a = S0.2.1 63 a := hr 63 a ha (fun c9 => absurd c9.1 (by decide))
  have q61 : S.2.1 61 a = S0.2.1 61 a := hr 61 a ha (fun c9 => absurd c9.1 (by decide))
  have q62 : S.2.1 62 a = S0.2.1 62 a := hr 62 a ha (fun c9 => absurd c9.1 (by decide))
  have p22 : S22.2.1 21 x = some a ∧ S22.2.1 22 x = none ∧ S22.2.1 23 x = S0.2.1 63 a ∧ S22.2.1 24 x = S0.2.1 61 a ∧ S22.2.1 25 x = none ∧ S22.2.1 26 x = none ∧ S22.2.1 27 x = none := ⟨by rw [e22, k_rr, if_neg (fun c => absurd c.1 (by decide)), e21, k_rr, if_neg (fun c => absurd c.1 (by decide)), e20, k_rr, if_neg (fun c => absurd c.1 (by decide)), e19, k_rr, if_neg (fun c => absurd c.1 (by decide)), e18, k_rr, if_neg (fun c => absurd c.1 (by decide)), e16, k_rr, if_neg (fun c => absurd c.1 (by decide)), e14, k_rr, if_neg (fun c => absurd c.1 (by decide)), e13, k_ir, e12, k_ir, e11, k_ir, e10, k_ir, e9, k_ir, e8, k_rr, if_pos ⟨rfl, rfl⟩], by rw [e22, k_rr, if_neg (fun c => absurd c.1 (by decide)), e21, k_rr, if_neg (fun c => absurd c.1 (by decide)), e20, k_rr, if_neg (fun c => absurd c.1 (by decide)), e19, k_rr, if_neg (fun c => absurd c.1 (by decide)), e18, k_rr, if_neg (fun c => absurd c.1 (by decide)), e16, k_rr, if_neg (fun c => absurd c.1 (by decide)), e14, k_rr, if_pos ⟨rfl, rfl⟩], by rw [e22, k_rr, if_neg (fun c => absurd c.1 (by decide)), e21, k_rr, if_neg (fun c => absurd c.1 (by decide)), e20, k_rr, if_neg (fun c => absurd c.1 (by decide)), e19, k_rr, if_neg (fun c => absurd c.1 (by decide)), e18, k_rr, if_neg (fun c => absurd c.1 (by decide)), e16, k_rr, if_pos ⟨rfl, rfl⟩, e15, e14, k_rr, if_neg (fun c => absurd c.1 (by decide)), e13, k_ir, e12, k_ir, e11, k_ir, e10, k_ir, e9, k_ir, e8, k_rr, if_neg (fun c => absurd c.1 (by decide)), q63], by rw [e22, k_rr, if_neg (fun c => absurd c.1 (by decide)), e21, k_rr, if_neg (fun c => absurd c.1 (by decide)), e20, k_rr, if_neg (fun c => absurd c.1 (by decide)), e19, k_rr, if_neg (fun c => absurd c.1 (by decide)), e18, k_rr, if_pos ⟨rfl, rfl⟩, e17, e16, k_rr, if_neg (fun c => absurd c.1 (by decide)), e14, k_rr, if_neg (fun c => absurd c.1 (by decide)), e13, k_ir, e12, k_ir, e11, k_ir, e10, k_ir, e9, k_ir, e8, k_rr, if_neg (fun c => absurd c.1 (by decide)), q61], by rw [e22, k_rr, if_neg (fun c => absurd c.1 (by decide)), e21, k_rr, if_neg (fun c => absurd c.1 (by decide)), e20, k_rr, if_neg (fun c => absurd c.1 (by decide)), e19, k_rr, if_pos ⟨rfl, rfl⟩], by rw [e22, k_rr, if_neg (fun c => absurd c.1 (by decide)), e21, k_rr, if_neg (fun c => absurd c.1 (by decide)), e20, k_rr, if_pos ⟨rfl, rfl⟩], by rw [e22, k_rr, if_neg (fun c => absurd c.1 (by decide)), e21, k_rr, if_pos ⟨rfl, rfl⟩]⟩
  have l22 : S22.2.1 61 a = some x := by rw [e22, k_rr, if_pos ⟨rfl, rfl⟩]
  have d22 : S22.2.2.2.2.2 = S.2.2.2.2.2 := by rw [e22, e21, e20, e19, e18, e16, e14, e13, e12, e11, e10, e9, e8]; rfl
  have f22 : ∀ f, f ∈ arrL → S22.2.1 f x = S.2.1 f x := fun f hf => by
    have m21 : f ≠ 21 := fun c => by rw [c] at hf; exact absurd hf (by decide)
    have m22 : f ≠ 22 := fun c => by rw [c] at hf; exact absurd hf (by decide)
    have m23 : f ≠ 23 := fun c => by rw [c] at hf; exact absurd hf (by decide)
    have m24 : f ≠ 24 := fun c => by rw [c] at hf; exact absurd hf (by decide)
    have m25 : f ≠ 25 := fun c => by rw [c] at hf; exact absurd hf (by decide)
    have m26 : f ≠ 26 := fun c => by rw [c] at hf; exact absurd hf (by decide)
    have m27 : f ≠ 27 := fun c => by rw [c] at hf; exact absurd hf (by decide)
    have m61 : f ≠ 61 := fun c => by rw [c] at hf; exact absurd hf (by decide)
    rw [e22, k_rr, if_neg (fun c => m61 c.1), e21, k_rr, if_neg (fun c => m27 c.1), e20, k_rr, if_neg (fun c => m26 c.1), e19, k_rr, if_neg (fun c => m25 c.1), e18, k_rr, if_neg (fun c => m24 c.1), e16, k_rr, if_neg (fun c => m23 c.1), e14, k_rr, if_neg (fun c => m22 c.1), e13, k_ir, e12, k_ir, e11, k_ir, e10, k_ir, e9, k_ir, e8, k_rr, if_neg (fun c => m21 c.1)]
  have x22 : (S0.2.1 11 h = some x ∧ S22.2.1 11 h = S0.2.1 24 x ∧ S22.2.2.2.2.2 = S0.2.2.2.2.2 ∧ ∀ f, f ∈ arrL → S22.2.1 f x = S0.2.1 f x) ∨ (S0.2.1 11 h = none ∧ (∀ k : cK, (x, k) ∉ S0.2.2.2.2.2) ∧ S22.2.1 11 h = none ∧ S22.2.2.2.2.2 = S0.2.2.2.2.2 ++ [(x, Sum.inl 4)] ∧ ∀ f, f ∈ arrL → S22.2.1 f x = none) := by
    rw [d22, r22 11 h hh (fun c9 => absurd c9.1 (by decide))]
    rcases hx with ⟨a1, a2, a3, a4⟩ | ⟨a1, a2, a3, a4, a5⟩
    · exact Or.inl ⟨a1, a2, a3, fun f hf => (f22 f hf).trans (a4 f hf)⟩
    · exact Or.inr ⟨a1, a2, a3, a4, fun f hf => (f22 f hf).trans (a5 f hf)⟩
  refine ⟨fun c => ?_, fun q24 c => ?_⟩
  · intro S25 e25
    unfold wT_X1_newPart_111
    have n25 : ARS x S0 S25 := ARS_r n22 e25 (by decide)
    have r25 : ∀ f o, ¬ (f = 62 ∧ o = a) → S25.2.1 f o = S22.2.1 f o := fun f o h1 => by rw [e25, k_rr, if_neg h1]
    have i25 : ∀ f o, S25.1 f o = S22.1 f o := fun f o => by rw [e25]; rfl
    refine ⟨rfl, fun f o ho => by rw [i25, i22 f o ho, hi f o ho], by rw [i25]; exact s22, fun f o ho h1 h2 h3 => by rw [r25 f o h2, r22 f o ho h1, hr f o ho h3], ?_, ⟨by rw [r25 61 a (fun c9 => absurd c9.1 (by decide))]; exact l22, fun _ => by rw [e25, k_rr, if_pos ⟨rfl, rfl⟩], fun c9 => absurd (show S0.2.1 62 a = none by rw [← q62, ← r22 62 a ha (fun c9 => absurd c9.1 (by decide)), ← e23]; exact c) c9⟩, ?_, n25⟩
    · rw [r25 21 x (fun c9 => absurd c9.1 (by decide)), r25 22 x (fun c9 => absurd c9.1 (by decide)), r25 23 x (fun c9 => absurd c9.1 (by decide)), r25 24 x (fun c9 => absurd c9.1 (by decide)), r25 25 x (fun c9 => absurd c9.1 (by decide)), r25 26 x (fun c9 => absurd c9.1 (by decide)), r25 27 x (fun c9 => absurd c9.1 (by decide))]
      exact p22
    · have d25 : S25.2.2.2.2.2 = S22.2.2.2.2.2 := by rw [e25]; rfl
      have f25 : ∀ f, f ∈ arrL → S25.2.1 f x = S22.2.1 f x := fun f hf => r25 f x (fun c9 => by rw [c9.1] at hf; exact absurd hf (by decide))
      rw [d25, r25 11 h (fun c9 => absurd c9.1 (by decide))]
      rcases x22 with ⟨a1, a2, a3, a4⟩ | ⟨a1, a2, a3, a4, a5⟩
      · exact Or.inl ⟨a1, a2, a3, fun f hf => (f25 f hf).trans (a4 f hf)⟩
      · exact Or.inr ⟨a1, a2, a3, a4, fun f hf => (f25 f hf).trans (a5 f hf)⟩
  · unfold wT_X1_newPart_111
    have r62 : S22.2.1 62 a = S0.2.1 62 a := by rw [r22 62 a ha (fun c9 => absurd c9.1 (by decide)), q62]
    refine ⟨rfl, fun f o ho => by rw [i22 f o ho, hi f o ho], s22, fun f o ho h1 h2 h3 => by rw [r22 f o ho h1, hr f o ho h3], p22, ⟨l22, fun c9 => absurd (c9.symm.trans (r62.symm.trans (e23.symm.trans c))) (fun w => by cases w), fun _ => r62⟩, x22, n22⟩
theorem np_mono {K K1 : kS → Option Nat → Prop} {a x : Nat} {k : Int32} {S : kS} (hk : ∀ S1 r, K S1 r → K1 S1 r) (h : wT_X1_newPart_28 K a k x S) : wT_X1_newPart_28 K1 a k x S := by
  unfold wT_X1_newPart_28 wT_X1_newPart_111 at h ⊢
  intro S8 e8 S9 e9 S10 e10 S11 e11 S12 e12 S13 e13 S14 e14 z15 e15 S16 e16 z17 e17 S18 e18 S19 e19 S20 e20 S21 e21 S22 e22 z23 e23
  replace h := h S8 e8 S9 e9 S10 e10 S11 e11 S12 e12 S13 e13 S14 e14 z15 e15 S16 e16 z17 e17 S18 e18 S19 e19 S20 e20 S21 e21 S22 e22 z23 e23
  exact ⟨fun c S25 e25 => hk _ _ (h.1 c S25 e25), fun q c => hk _ _ (h.2 q c)⟩
theorem sk_X1_newPart {h a : Nat} {k : Int32} {S : kS} (hK : KDI S h) (ha : (a, Sum.inl 9) ∈ S.2.2.2.2.2) (hU : ∀ p, S.2.1 11 h = some p → (p, Sum.inl 4) ∈ S.2.2.2.2.2) : wT_X1_newPart h a k S (fun S1 r => ∃ p, r = some p ∧ NPT h a p S S1 ∧ a ≠ p ∧ h ≠ p) := by
  unfold wT_X1_newPart
  intro z1 e1
  refine ⟨fun c => ?_, fun q2 c => ?_⟩
  · intro q3 hq S4 e4
    unfold wT_X4_init
    have ha3 : a ≠ q3 := fun c9 => hq _ (c9 ▸ ha)
    have hh3 : h ≠ q3 := fun c9 => hq _ (c9 ▸ hK.1)
    refine np_mono (fun S1 r w => ⟨q3, w.1, w.2, ha3, hh3⟩) (np_28 (h := h) (S0 := S) ha3 hh3 (fun f o ho => by rw [e4, k_ni, if_neg ho]) (fun f o ho _ => by rw [e4, k_nr, if_neg ho]) (Or.inr ⟨e1.symm.trans c, hq, by rw [e4, k_nr, if_neg hh3]; exact e1.symm.trans c, by rw [e4]; rfl, fun f _ => by rw [e4, k_nr, if_pos rfl]⟩) (ARS_n hK.2.2.2 hq e4))
  · intro z6 e6 S7 e7
    have hq := hU q2 (e1.symm.trans c)
    have ha3 : a ≠ q2 := fun c9 => by
      have := hK.2.2.1 q2 _ _ hq (c9 ▸ ha)
      cases this
    have hh3 : h ≠ q2 := fun c9 => by
      have := hK.2.2.1 q2 _ _ hq (c9 ▸ hK.1)
      cases this
    refine np_mono (fun S1 r w => ⟨q2, w.1, w.2, ha3, hh3⟩) (np_28 (h := h) (S0 := S) ha3 hh3 (fun f o _ => by rw [e7]; rfl) (fun f o _ h9 => by rw [e7, k_rr, if_neg h9]) (Or.inl ⟨e1.symm.trans c, by rw [e7, k_rr, if_pos ⟨rfl, rfl⟩]; exact e6, by rw [e7]; rfl, fun f hf => by rw [e7, k_rr, if_neg (fun c9 => by rw [c9.1] at hf; exact absurd hf (by decide))]⟩) (ARS_r ARS_rf e7 (by decide)))
