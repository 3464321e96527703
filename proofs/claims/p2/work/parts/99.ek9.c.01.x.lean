
theorem nd_rev : ∀ {l : List Nat}, l.Nodup → l.reverse.Nodup
  | [], _ => List.nodup_nil
  | a :: r, h => by
    have h1 := List.nodup_cons.mp h
    rw [List.reverse_cons]
    refine List.nodup_append.mpr ⟨nd_rev h1.2, List.nodup_cons.mpr ⟨List.not_mem_nil, List.nodup_nil⟩, fun x hx y hy e => ?_⟩
    rcases List.mem_cons.mp hy with c | c
    · rw [e, c] at hx
      exact h1.1 (List.mem_reverse.mp hx)
    · exact absurd c List.not_mem_nil
def TBK (h a : Nat) (l U : List Nat) (S S1 : kS) : Prop := CH (S1.2.1 24) (S1.2.1 11 h) (l.reverse ++ U) ∧ (∀ x, x ∉ l → S1.2.1 24 x = S.2.1 24 x) ∧ ((∀ x, x ≠ h → S1.2.1 11 x = S.2.1 11 x) ∧ (∀ x, S1.2.1 61 x = if x = a then none else S.2.1 61 x) ∧ (∀ x, S1.2.1 62 x = if x = a then none else S.2.1 62 x) ∧ (∀ x, S1.2.1 63 x = if x = a then none else S.2.1 63 x))
section HTB
variable {S S1 S2 : kS} {h a : Nat} {N T G : Nat → Prop} {U : List Nat} {L : Nat → List Nat} {D : Nat → Nat} {P : Nat → Int32} {zi zr fa fq : List Nat}
theorem HF_tr (f : HF zi zr fa fq S S1) (g : HF zi zr fa fq S1 S2) : HF zi zr fa fq S S2 := ⟨fun x hx => (g.1 x hx).trans (f.1 x hx), fun x hx => (g.2.1 x hx).trans (f.2.1 x hx), fun x hx => (g.2.2.1 x hx).trans (f.2.2.1 x hx), fun x hx => (g.2.2.2.1 x hx).trans (f.2.2.2.1 x hx), g.2.2.2.2.trans f.2.2.2.2⟩
theorem HF_rf : HF zi zr fa fq S S := ⟨fun _ _ => rfl, fun _ _ => rfl, fun _ _ => rfl, fun _ _ => rfl, rfl⟩
theorem HF_r {f o : Nat} {v : Option Nat} (e : S1 = cR S f o v) (hf : f ∉ arrL) : HF [] [f] [] [] S S1 := by
  refine ⟨fun _ _ => by rw [e]; rfl, fun g hg => ?_, fun g _ => ?_, fun g _ => ?_, by rw [e]; rfl⟩
  · funext b
    rw [e, k_rr, if_neg (fun c => hg (by rw [c.1]; exact List.mem_cons_self ..))]
  · funext b j
    exact ar_cr e hf g b j
  · funext b j
    exact qa_cr e hf g b j
theorem PAI_tb (u : PAI S h U L D) (ht : tk S h a) (f : HF [] [11, 24, 61, 62, 63] [] [] S S1) (p : TBK h a (L a) U S S1) : PAI S1 h ((L a).reverse ++ U) (qup L a []) D := by
  obtain ⟨u1, u2, u3, u4, u5, u6, u7, u8, u9⟩ := u
  obtain ⟨p1, p2, p3, p61, p62, p63⟩ := p
  have eq3 := f.2.2.2.1 3 (by decide)
  have e1 := f.1 1 (by decide)
  have mq : ∀ t q, q ∈ qup L a [] t → t ≠ a ∧ q ∈ L t := fun t q hq => by
    rcases Decidable.em (t = a) with c | c
    · rw [c, qup_at] at hq
      exact absurd hq List.not_mem_nil
    · rw [qup_ne c] at hq
      exact ⟨c, hq⟩
  refine ⟨p1, ?_, fun t h9 => ?_, fun t => ?_, fun t q hq hu => ?_, fun t w q hq hw => ?_, fun t q hq => ?_, fun q hq => ?_, fun t q hq => ?_⟩
  · refine List.nodup_append.mpr ⟨nd_rev (u4 a), u2, fun x hx y hy e => ?_⟩
    exact u5 a x (List.mem_reverse.mp hx) (by rw [e]; exact hy)
  · rw [tk_e eq3] at h9
    rw [p61 t, p62 t, p63 t, f.2.1 23 (by decide)]
    rcases Decidable.em (t = a) with c | c
    · rw [if_pos c, if_pos c, if_pos c, c, qup_at]
      exact ⟨rfl, fun q hq => (by cases hq), fun q hq => (by cases hq)⟩
    · rw [if_neg c, if_neg c, if_neg c, qup_ne c]
      obtain ⟨w1, w2, w3⟩ := u3 t h9
      exact ⟨CH_eq (fun q hq => p2 q (fun q9 => c (u6 t a q hq q9))) w1, w2, w3⟩
  · rcases Decidable.em (t = a) with c | c
    · rw [c, qup_at]
      exact List.nodup_nil
    · rw [qup_ne c]
      exact u4 t
  · obtain ⟨c, d⟩ := mq t q hq
    rcases List.mem_append.mp hu with w | w
    · exact c (u6 t a q d (List.mem_reverse.mp w))
    · exact u5 t q d w
  · exact u6 t w q (mq t q hq).2 (mq w q hw).2
  · obtain ⟨c, d⟩ := mq t q hq
    obtain ⟨w1, w2, w3, w4, w5⟩ := u7 t q d
    rw [tl_e e1 eq3, f.2.1 21 (by decide), f.2.1 23 (by decide), p62 t, if_neg c, qup_ne c]
    exact ⟨w1, w2, w3, w4, w5⟩
  · rw [f.2.2.2.2]
    rcases List.mem_append.mp hq with w | w
    · exact u9 a q (List.mem_reverse.mp w)
    · exact u8 q w
  · rw [f.2.2.2.2]
    exact u9 t q (mq t q hq).2
theorem HI_tb (g : HI h N T G U L D P S) (ht : tl S h a) (hc : ∀ p, p ∈ L a → S.1 13 p ≠ 0) (f : HF [] [11, 24, 61, 62, 63] [] [] S S1) (p : TBK h a (L a) U S S1) : HI h N T G ((L a).reverse ++ U) (qup L a []) D P S1 := by
  obtain ⟨g1, g2, g3, g4, g5, g6, g7, g8, g9⟩ := g
  have e1 := f.1 1 (by decide)
  have eq3 := f.2.2.2.1 3 (by decide)
  have e13 := f.1 13 (by decide)
  have mq : ∀ t q, q ∈ qup L a [] t → t ≠ a ∧ q ∈ L t := fun t q hq => by
    rcases Decidable.em (t = a) with c | c
    · rw [c, qup_at] at hq
      exact absurd hq List.not_mem_nil
    · rw [qup_ne c] at hq
      exact ⟨c, hq⟩
  have m2 : ∀ t q, q ∈ L t → S.1 13 q = 0 → q ∈ qup L a [] t := fun t q hq h0 => by
    rcases Decidable.em (t = a) with c | c
    · rw [c] at hq
      exact absurd h0 (hc q hq)
    · rw [qup_ne c]
      exact hq
  refine ⟨TKA_e g1 e1 (f.1 28 (by decide)) eq3, PAI_tb g2 (tl_t g1 ht) f p, ?_, ?_, ?_, RWI_e g6 e1 (f.1 3 (by decide)) (f.1 30 (by decide)) (f.2.2.1 4 (by decide)) eq3, by rw [e1, f.1 5 (by decide), f.2.2.1 10 (by decide)]; exact g7, LSI_e g8 (f.1 0 (by decide)) (f.1 35 (by decide)) e1 (f.2.1 9 (by decide)) eq3 f.2.2.2.2, LTS_e g9 (f.2.2.1 6 (by decide))⟩
  · obtain ⟨Q, c1, c2, c3⟩ := g3
    unfold LNS
    rw [f.2.1 12 (by decide), f.2.1 13 (by decide), f.2.1 25 (by decide), f.2.1 26 (by decide), f.2.1 27 (by decide), e13]
    refine ⟨Q, c1, fun l q hq => ?_, fun t q l hq hl => c3 t q l (mq t q hq).2 hl⟩
    obtain ⟨w1, w2, ⟨t, h9⟩, w4⟩ := c2 l q hq
    have w5 : S.1 13 q = 0 := by
      rcases w4 with w | w
      · exact w
      · cases w
    exact ⟨w1, w2, ⟨t, m2 t q h9 w5⟩, w4⟩
  · intro u hg hu
    rw [tl_e e1 eq3] at hu
    rw [e13, f.1 30 (by decide), f.1 38 (by decide)]
    exact ⟨fun w q hq => (g4 u hg hu).1 w q (mq u q hq).2, (g4 u hg hu).2⟩
  · unfold ASI
    rw [tl_e e1 eq3, f.2.1 57 (by decide), f.2.1 56 (by decide), f.2.1 22 (by decide), e13, f.2.2.2.2]
    refine ⟨fun t q h9 hq => ?_, g5.2.1, fun t q c hq hc9 => g5.2.2 t q c (mq t q hq).2 hc9⟩
    rcases g5.1 t q h9 hq with ⟨w, hw⟩ | w
    · rcases Decidable.em (S.1 13 q = 0) with d | d
      · exact Or.inl ⟨w, m2 w q hw d⟩
      · exact Or.inr ⟨d, g2.2.2.2.2.2.2.2.2 w q hw⟩
    · exact Or.inr w
/-- the hall, opened -/
theorem HI_op {b : Nat} (hT : TKA S h) (hP : PAI S h U L D) (hL : ∀ t, L t = []) (h5 : (S.1 5 h).toInt = 0) (hN : ∀ l, N l → S1.2.1 12 l = none ∧ S1.2.1 13 l = none) (h1 : S1.1 1 h = 0) (h3 : S1.1 3 h = 0) (h6 : ∀ i : Nat, i < 8 → ar S1 6 h i = 0) (f : HF [0, 1, 2, 3, 4] [12, 13] [6] [] S S1) (h9 : S.2.1 9 h = some b) (h0 : S1.1 0 b = 0) (h00 : ∀ o, o ≠ b → S1.1 0 o = S.1 0 o) (hp : ∀ o, (o, Sum.inl 0) ∈ S.2.2.2.2.2 → S.2.1 9 h ≠ some o → S.1 0 o = P o) : HI h N T G U (fun _ => []) D P S1 := by
  have eq3 := f.2.2.2.1 3 (by decide)
  have z : (S1.1 1 h).toInt = 0 := by rw [h1]; rfl
  have z3 : (S1.1 3 h).toInt = 0 := by rw [h3]; rfl
  have nt : ∀ t, ¬ tl S1 h t := fun t w => by
    obtain ⟨i, hi, _⟩ := w
    rw [z] at hi
    omega
  obtain ⟨u1, u2, u3, u4, u5, u6, u7, u8, u9⟩ := hP
  refine ⟨⟨by rw [z]; exact Int.le_refl _, by rw [z]; decide, fun i hi => by rw [z] at hi; omega, by rw [eq3, f.1 28 (by decide)]; exact hT.2.2.2⟩, ⟨?_, u2, fun t w => ?_, fun _ => List.nodup_nil, fun _ _ q => absurd q List.not_mem_nil, fun _ _ _ q => absurd q List.not_mem_nil, fun _ _ q => absurd q List.not_mem_nil, by rw [f.2.2.2.2]; exact u8, fun _ _ q => absurd q List.not_mem_nil⟩, ⟨fun _ => [], fun l hl => ⟨trivial, (hN l hl).1, (hN l hl).2, List.nodup_nil⟩, fun _ _ q => absurd q List.not_mem_nil, fun _ _ _ q => absurd q List.not_mem_nil⟩, fun t _ w => absurd w (nt t), ⟨fun t _ w => absurd w (nt t), fun t _ w => absurd w (nt t), fun _ _ _ q => absurd q List.not_mem_nil⟩, ⟨⟨by rw [z3]; exact Int.le_refl _, by rw [z3]; decide, fun i hi => by rw [z3] at hi; omega⟩, fun i j hi _ => by rw [z3] at hi; omega, fun i t hi => by rw [z3] at hi; omega⟩, ?_, ⟨fun c hc => ?_, fun o hd ho => ?_⟩, fun i hi => by rw [h6 i hi]; decide⟩
  · rw [f.2.1 24 (by decide), f.2.1 11 (by decide)]
    exact u1
  · rw [tk_e eq3] at w
    rw [f.2.1 24 (by decide), f.2.1 61 (by decide), f.2.1 62 (by decide), f.2.1 63 (by decide), f.2.1 23 (by decide)]
    have k := u3 t w
    rw [hL t] at k
    exact k
  · rw [f.1 5 (by decide), h5]
    exact ⟨Int.le_refl _, by decide, fun i hi => by omega⟩
  · rw [f.2.1 9 (by decide), h9] at hc
    rw [← Option.some.inj hc, h0, z]
    exact ⟨by decide, Int.le_refl _⟩
  · rw [f.2.1 9 (by decide)] at ho
    rw [f.2.2.2.2] at hd
    rw [h00 o (fun c => ho (by rw [c]; exact h9))]
    exact hp o hd ho
end HTB
