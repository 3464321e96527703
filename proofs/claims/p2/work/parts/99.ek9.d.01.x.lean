
def ALO (S : kS) (o : Nat) : Prop := ∃ k : cK, (o, k) ∈ S.2.2.2.2.2
def UQK (S : kS) : Prop := ∀ (a : Nat) (k k' : cK), (a, k) ∈ S.2.2.2.2.2 → (a, k') ∈ S.2.2.2.2.2 → k = k'
def ALA (S : kS) : Prop := ∀ (f o b : Nat), f ∈ arrL → S.2.1 f o = some b → ALO S b
/-- object t is made anew or used again: the others are as they were -/
def GRW (t : Nat) (S S1 : kS) : Prop := (∀ f o, ALO S o → o ≠ t → S1.1 f o = S.1 f o ∧ S1.2.1 f o = S.2.1 f o) ∧ (∀ f o j, ALO S o → o ≠ t → ar S1 f o j = ar S f o j ∧ la S1 f o j = la S f o j ∧ qa S1 f o j = qa S f o j) ∧ ((∀ x, x ∈ S.2.2.2.2.2 → x ∈ S1.2.2.2.2.2) ∧ (∀ o, (o, Sum.inl 0) ∈ S1.2.2.2.2.2 → (o, Sum.inl 0) ∈ S.2.2.2.2.2)) ∧ ALA S1 ∧ INJ S1 ∧ UQK S1 ∧ ALO S1 t
section GRs
variable {S S1 S2 : kS} {t q : Nat} {k : cK}
theorem UQ_n (u : UQK S) (hq : ∀ k : cK, (q, k) ∉ S.2.2.2.2.2) (e : S1 = cNw S q k) : UQK S1 := by
  subst e
  intro b k1 k2 hb hb'
  have e9 : (cNw S q k).2.2.2.2.2 = S.2.2.2.2.2 ++ [(q, k)] := rfl
  rw [e9] at hb hb'
  rcases List.mem_append.mp hb with w | w
  · rcases List.mem_append.mp hb' with v | v
    · exact u b k1 k2 w v
    · rcases List.mem_cons.mp v with v | v
      · have v1 : b = q := congrArg Prod.fst v
        exact absurd w (by rw [v1]; exact hq k1)
      · exact absurd v List.not_mem_nil
  · rcases List.mem_cons.mp w with w | w
    · have w1 : b = q := congrArg Prod.fst w
      have w2 : k1 = k := congrArg Prod.snd w
      rcases List.mem_append.mp hb' with v | v
      · exact absurd v (by rw [w1]; exact hq k2)
      · rcases List.mem_cons.mp v with v | v
        · have v2 : k2 = k := congrArg Prod.snd v
          rw [w2, v2]
        · exact absurd v List.not_mem_nil
    · exact absurd w List.not_mem_nil
theorem d_n (e : S1 = cNw S q k) : (∀ x, x ∈ S.2.2.2.2.2 → x ∈ S1.2.2.2.2.2) ∧ (q, k) ∈ S1.2.2.2.2.2 := by
  subst e
  exact ⟨fun x hx => List.mem_append_left _ hx, List.mem_append_right _ (List.mem_cons_self ..)⟩
theorem b_n (hk : k ≠ Sum.inl 0) (e : S1 = cNw S q k) : ∀ o, (o, Sum.inl 0) ∈ S1.2.2.2.2.2 → (o, Sum.inl 0) ∈ S.2.2.2.2.2 := fun o ho => by
  subst e
  rcases List.mem_append.mp ho with w | w
  · exact w
  · rcases List.mem_cons.mp w with w | w
    · have w2 : (Sum.inl 0 : cK) = k := congrArg Prod.snd w
      exact absurd w2.symm hk
    · exact absurd w List.not_mem_nil
theorem ALA_n (u : ALA S) (e : S1 = cNw S q k) : ALA S1 := fun f o b hf h => by
  have d := d_n e
  rw [e, k_nr] at h
  rcases Decidable.em (o = q) with c | c
  · rw [if_pos c] at h
    cases h
  · rw [if_neg c] at h
    obtain ⟨k9, h9⟩ := u f o b hf h
    exact ⟨k9, d.1 _ h9⟩
theorem INJ_n (u : INJ S) (e : S1 = cNw S q k) : INJ S1 := fun f g a b w hf hg e1 e2 => by
  rw [e, k_nr] at e1 e2
  rcases Decidable.em (a = q) with c | c
  · rw [if_pos c] at e1
    cases e1
  · rw [if_neg c] at e1
    rcases Decidable.em (b = q) with d | d
    · rw [if_pos d] at e2
      cases e2
    · rw [if_neg d] at e2
      exact u f g a b w hf hg e1 e2
theorem GR_0 (hk : k ≠ Sum.inl 0) (hA : ALA S) (hI : INJ S) (hU : UQK S) (hq : ∀ k : cK, (t, k) ∉ S.2.2.2.2.2) (e : S1 = cNw S t k) : GRW t S S1 := by
  have d := d_n e
  refine ⟨fun f o _ hn => ?_, fun f o j _ hn => ?_, ⟨d.1, b_n hk e⟩, ALA_n hA e, INJ_n hI e, UQ_n hU hq e, ⟨k, d.2⟩⟩
  · rw [e, k_ni, k_nr, if_neg hn, if_neg hn]
    exact ⟨rfl, rfl⟩
  · rw [e]
    exact ar_n hA hq hn
theorem GR_rf (hA : ALA S) (hI : INJ S) (hU : UQK S) (ht : ALO S t) : GRW t S S := ⟨fun _ _ _ _ => ⟨rfl, rfl⟩, fun _ _ _ _ _ => ⟨rfl, rfl, rfl⟩, ⟨fun _ h => h, fun _ h => h⟩, hA, hI, hU, ht⟩
theorem GR_n (hk : k ≠ Sum.inl 0) (g : GRW t S S1) (hq : ∀ k : cK, (q, k) ∉ S1.2.2.2.2.2) (e : S2 = cNw S1 q k) : GRW t S S2 := by
  obtain ⟨g1, g2, g3, g4, g5, g6, g7⟩ := g
  have d := d_n e
  have qn : ∀ o, ALO S o → o ≠ q := fun o ho c => by
    obtain ⟨k9, h9⟩ := ho
    exact hq k9 (c ▸ g3.1 _ h9)
  refine ⟨fun f o ho hn => ?_, fun f o j ho hn => ?_, ⟨fun x hx => d.1 x (g3.1 x hx), fun o ho => g3.2 o (b_n hk e o ho)⟩, ALA_n g4 e, INJ_n g5 e, UQ_n g6 hq e, ?_⟩
  · rw [e, k_ni, k_nr, if_neg (qn o ho), if_neg (qn o ho)]
    exact g1 f o ho hn
  · have w := ar_n (k := k) (f := f) (j := j) g4 hq (qn o ho)
    rw [e, w.1, w.2.1, w.2.2]
    exact g2 f o j ho hn
  · obtain ⟨k9, h9⟩ := g7
    exact ⟨k9, d.1 _ h9⟩
/-- a final field of t gets a new array -/
theorem GR_a {f : Nat} (g : GRW t S S1) (hq : ALO S1 q) (hn : ∀ g o, g ∈ arrL → S1.2.1 g o ≠ some q) (e : S2 = cR S1 f t (some q)) : GRW t S S2 := by
  obtain ⟨g1, g2, g3, g4, g5, g6, g7⟩ := g
  have d : S2.2.2.2.2.2 = S1.2.2.2.2.2 := by rw [e]; rfl
  have r : ∀ g o, o ≠ t → S2.2.1 g o = S1.2.1 g o := fun g o ho => by rw [e, k_rr, if_neg (fun c => ho c.2)]
  refine ⟨fun x o ho h9 => ?_, fun x o j ho h9 => ?_, by rw [d]; exact g3, fun x o b hx h => ?_, fun x y a b w hx hy e1 e2 => ?_, fun a k k' h1 h2 => ?_, ?_⟩
  · rw [r x o h9]
    exact ⟨by rw [e]; exact (g1 x o ho h9).1, (g1 x o ho h9).2⟩
  · have w := g2 x o j ho h9
    unfold ar la qa at w ⊢
    rw [r x o h9]
    rw [e]
    exact w
  · have k9 : ALO S1 b := by
      rw [e, k_rr] at h
      rcases Decidable.em (x = f ∧ o = t) with c | c
      · rw [if_pos c] at h
        rw [← Option.some.inj h]
        exact hq
      · rw [if_neg c] at h
        exact g4 x o b hx h
    obtain ⟨k, hk⟩ := k9
    exact ⟨k, by rw [d]; exact hk⟩
  · rw [e, k_rr] at e1 e2
    rcases Decidable.em (x = f ∧ a = t) with c | c
    · rw [if_pos c] at e1
      rcases Decidable.em (y = f ∧ b = t) with c2 | c2
      · rw [c.1, c.2, c2.1, c2.2]
        exact ⟨rfl, rfl⟩
      · rw [if_neg c2] at e2
        rw [← Option.some.inj e1] at e2
        exact absurd e2 (hn y b hy)
    · rw [if_neg c] at e1
      rcases Decidable.em (y = f ∧ b = t) with c2 | c2
      · rw [if_pos c2] at e2
        rw [← Option.some.inj e2] at e1
        exact absurd e1 (hn x a hx)
      · rw [if_neg c2] at e2
        exact g5 x y a b w hx hy e1 e2
  · rw [d] at h1 h2
    exact g6 a k k' h1 h2
  · obtain ⟨k, hk⟩ := g7
    exact ⟨k, by rw [d]; exact hk⟩
theorem GR_i {f : Nat} {v : Int32} (g : GRW t S S1) (e : S2 = cI S1 f t v) : GRW t S S2 := by
  obtain ⟨g1, g2, g3, g4, g5, g6, g7⟩ := g
  refine ⟨fun x o ho h9 => ?_, by rw [e]; exact g2, by rw [e]; exact g3, by rw [e]; exact g4, by rw [e]; exact g5, by rw [e]; exact g6, by rw [e]; exact g7⟩
  rw [e, k_ii, if_neg (fun c => h9 c.2)]
  exact g1 x o ho h9
theorem fresh_n (hA : ALA S) (hq : ∀ k : cK, (q, k) ∉ S.2.2.2.2.2) (e : S1 = cNw S q k) : ALO S1 q ∧ ∀ g o, g ∈ arrL → S1.2.1 g o ≠ some q := by
  refine ⟨⟨k, (d_n e).2⟩, fun g o hg h => ?_⟩
  rw [e, k_nr] at h
  rcases Decidable.em (o = q) with c | c
  · rw [if_pos c] at h
    cases h
  · rw [if_neg c] at h
    obtain ⟨k9, h9⟩ := hA g o q hg h
    exact hq k9 h9
end GRs
/-- a new task's own arrays -/
theorem sk_X9_init {t : Nat} {v : Int32} {S0 S : kS} (g : GRW t S0 S) : wT_X9_init t v S (fun S1 => GRW t S0 S1 ∧ S1.1 28 t = v ∧ (∀ f, f ≠ 58 → f ≠ 59 → f ≠ 60 → S1.2.1 f t = S.2.1 f t) ∧ cnt S1 = cnt S + 3 ∧ (∀ x, x ∈ S.2.2.2.2.2 → x ∈ S1.2.2.2.2.2)) := by
  unfold wT_X9_init
  intro q1 h1 S2 e2 S3 e3 q4 h4 S5 e5 S6 e6 q7 h7 S8 e8 S9 e9 S10 e10
  have tn : ∀ {q : Nat} {W : kS}, GRW t S0 W → (∀ k : cK, (q, k) ∉ W.2.2.2.2.2) → t ≠ q := fun gw hq c => by
    obtain ⟨k9, h9⟩ := gw.2.2.2.2.2.2
    exact hq k9 (c ▸ h9)
  have g2 := GR_n (fun c => by cases c) g h1 e2
  have w2 := fresh_n g.2.2.2.1 h1 e2
  have g3 := GR_a g2 w2.1 w2.2 e3
  have g5 := GR_n (fun c => by cases c) g3 h4 e5
  have w5 := fresh_n g3.2.2.2.1 h4 e5
  have g6 := GR_a g5 w5.1 w5.2 e6
  have g8 := GR_n (fun c => by cases c) g6 h7 e8
  have w8 := fresh_n g6.2.2.2.1 h7 e8
  have g9 := GR_a g8 w8.1 w8.2 e9
  have d2 : S2.2.2.2.2.2 = S.2.2.2.2.2 ++ [(q1, .inr (12, 0))] := by rw [e2]; rfl
  have d3 : S3.2.2.2.2.2 = S2.2.2.2.2.2 := by rw [e3]; rfl
  have d5 : S5.2.2.2.2.2 = S3.2.2.2.2.2 ++ [(q4, .inr (10, 0))] := by rw [e5]; rfl
  have d6 : S6.2.2.2.2.2 = S5.2.2.2.2.2 := by rw [e6]; rfl
  have d8 : S8.2.2.2.2.2 = S6.2.2.2.2.2 ++ [(q7, .inr (10, 0))] := by rw [e8]; rfl
  have d9 : S9.2.2.2.2.2 = S8.2.2.2.2.2 := by rw [e9]; rfl
  have d10 : S10.2.2.2.2.2 = S9.2.2.2.2.2 := by rw [e10]; rfl
  refine ⟨GR_i g9 e10, by rw [e10, k_ii, if_pos ⟨rfl, rfl⟩], fun f h58 h59 h60 => ?_, ?_, fun x hx => ?_⟩
  · rw [e10, k_ir, e9, k_rr, if_neg (fun c => h60 c.1), e8, k_nr, if_neg (tn g6 h7), e6, k_rr, if_neg (fun c => h59 c.1), e5, k_nr, if_neg (tn g3 h4), e3, k_rr, if_neg (fun c => h58 c.1), e2, k_nr, if_neg (tn g h1)]
  · unfold cnt
    rw [d10, d9, d8, d6, d5, d3, d2]
    simp
  · rw [d10, d9, d8, d6, d5, d3, d2]
    exact List.mem_append_left _ (List.mem_append_left _ (List.mem_append_left _ hx))
theorem x9_mono {t : Nat} {v : Int32} {S : kS} {K K1 : kS → Prop} (hk : ∀ S1, K S1 → K1 S1) (w : wT_X9_init t v S K) : wT_X9_init t v S K1 := by
  unfold wT_X9_init at w ⊢
  intro q1 h1 S2 e2 S3 e3 q4 h4 S5 e5 S6 e6 q7 h7 S8 e8 S9 e9 S10 e10
  exact hk _ (w q1 h1 S2 e2 S3 e3 q4 h4 S5 e5 S6 e6 q7 h7 S8 e8 S9 e9 S10 e10)
def NTB (h t : Nat) (S S1 : kS) : Prop := (∀ f o, ALO S o → o ≠ t → S1.1 f o = S.1 f o ∧ S1.2.1 f o = S.2.1 f o) ∧ (∀ f o j, ALO S o → o ≠ t → ar S1 f o j = ar S f o j ∧ la S1 f o j = la S f o j ∧ (¬ (o = h ∧ f = 3) → qa S1 f o j = qa S f o j)) ∧ (∀ i, qa S1 3 h i = if i = ix (S.1 1 h) then some t else qa S 3 h i) ∧ (S1.1 28 t).toInt = (S.1 1 h).toInt ∧ (((∀ x, x ∈ S.2.2.2.2.2 → x ∈ S1.2.2.2.2.2) ∧ (∀ o, (o, Sum.inl 0) ∈ S1.2.2.2.2.2 → (o, Sum.inl 0) ∈ S.2.2.2.2.2)) ∧ ALA S1 ∧ INJ S1 ∧ UQK S1 ∧ (t, Sum.inl 9) ∈ S1.2.2.2.2.2) ∧ ((qa S 3 h (ix (S.1 1 h)) = some t ∧ S1.2.2.2.2.2 = S.2.2.2.2.2 ∧ ∀ f, S1.2.1 f t = S.2.1 f t) ∨ (qa S 3 h (ix (S.1 1 h)) = none ∧ ¬ ALO S t ∧ cnt S1 = cnt S + 4 ∧ ∀ f, f ≠ 58 → f ≠ 59 → f ≠ 60 → S1.2.1 f t = none))
/-- a task is begun -/
def NTW (h t : Nat) (rt : Int32) (pa : Option Nat) (pc : Int32) (S S1 : kS) : Prop := (∀ f o, ALO S o → o ≠ t → f ≠ 1 → f ≠ 3 → S1.1 f o = S.1 f o) ∧ (∀ f o, ALO S o → o ≠ t → S1.2.1 f o = S.2.1 f o) ∧ (∀ f o j, ALO S o → o ≠ t → (f ≠ 4 → ar S1 f o j = ar S f o j) ∧ (¬ (o = h ∧ f = 3) → qa S1 f o j = qa S f o j)) ∧ (∀ i, qa S1 3 h i = if i = ix (S.1 1 h) then some t else qa S 3 h i) ∧ (S1.1 1 h).toInt = (S.1 1 h).toInt + 1 ∧ (((S.1 3 h).toInt < 200 ∧ (S1.1 3 h).toInt = (S.1 3 h).toInt + 1 ∧ ∀ i, ar S1 4 h i = if i = ix (S.1 3 h) then S1.1 28 t else ar S 4 h i) ∨ (S1.1 3 h = S.1 3 h ∧ ∀ i, ar S1 4 h i = ar S 4 h i)) ∧ ((S1.1 28 t).toInt = (S.1 1 h).toInt ∧ S1.1 30 t = 0 ∧ S1.1 34 t = 0 ∧ S1.1 35 t = 0 ∧ S1.1 38 t = 0 ∧ S1.1 36 t = pc ∧ S1.1 29 t = rt) ∧ (S1.2.1 56 t = pa ∧ S1.2.1 57 t = none) ∧ (((∀ x, x ∈ S.2.2.2.2.2 → x ∈ S1.2.2.2.2.2) ∧ (∀ o, (o, Sum.inl 0) ∈ S1.2.2.2.2.2 → (o, Sum.inl 0) ∈ S.2.2.2.2.2)) ∧ ALA S1 ∧ INJ S1 ∧ UQK S1 ∧ (t, Sum.inl 9) ∈ S1.2.2.2.2.2) ∧ ((qa S 3 h (ix (S.1 1 h)) = some t ∧ S1.2.2.2.2.2 = S.2.2.2.2.2 ∧ ∀ f, f ≠ 56 → f ≠ 57 → S1.2.1 f t = S.2.1 f t) ∨ (qa S 3 h (ix (S.1 1 h)) = none ∧ ¬ ALO S t ∧ cnt S1 = cnt S + 4 ∧ ∀ f, f ≠ 56 → f ≠ 57 → f ≠ 58 → f ≠ 59 → f ≠ 60 → S1.2.1 f t = none))
theorem INJ_h {S S1 : kS} (u : INJ S) (h : ∀ f, f ∈ arrL → S1.2.1 f = S.2.1 f) : INJ S1 := fun f g a b q hf hg e1 e2 => by
  rw [h f hf] at e1
  rw [h g hg] at e2
  exact u f g a b q hf hg e1 e2
theorem nt_48 {h t pg : Nat} {rt : Int32} {pa : Option Nat} {S0 S : kS} (b : NTB h t S0 S) (hh : ALO S0 h) (ht : h ≠ t) (hp : S0.2.1 2 h = some pg) (hg : ALO S0 pg) (hgt : pg ≠ t) (hr : 0 ≤ rt.toInt ∧ rt.toInt < 12) (hc : 0 ≤ (S0.1 1 h).toInt ∧ (S0.1 1 h).toInt < 200) (hw : 0 ≤ (S0.1 3 h).toInt ∧ (S0.1 3 h).toInt ≤ 200) {K : kS → Option Nat → Prop} (hK : ∀ S1, NTW h t rt pa (ar S0 32 pg (ix rt)) S0 S1 → K S1 (some t)) : wT_X1_newTask_48 K h rt pa t S := by
  obtain ⟨b1, b3, b4, b7, b9, b10⟩ := b
  unfold wT_X1_newTask_48
  intro z16 e16 z17 e17 S18 e18 S19 e19 S20 e20 S21 e21 S22 e22 S23 e23 S24 e24 S25 e25 S26 e26 z27 e27
  have f18 := HF_i e18
  have i26 : ∀ f o, o ≠ t → ¬ (f = 1 ∧ o = h) → S26.1 f o = S.1 f o := fun f o ho h1 => by
    rw [e26, k_ii, if_neg (fun c => ho c.2), e25, k_ii, if_neg (fun c => ho c.2), e24, k_ii, if_neg (fun c => ho c.2), e23, k_ii, if_neg (fun c => ho c.2), e22, k_ii, if_neg (fun c => ho c.2), e21, k_ri, e20, k_ri, e19, k_ii, if_neg (fun c => ho c.2), e18, k_ii, if_neg h1]
  have r26 : ∀ f o, o ≠ t → S26.2.1 f o = S.2.1 f o := fun f o ho => by
    rw [e26, k_ir, e25, k_ir, e24, k_ir, e23, k_ir, e22, k_ir, e21, k_rr, if_neg (fun c => ho c.2), e20, k_rr, if_neg (fun c => ho c.2), e19, k_ir, e18, k_ir]
  have t26 : ∀ f, f ≠ 56 → f ≠ 57 → S26.2.1 f t = S.2.1 f t := fun f h1 h2 => by
    rw [e26, k_ir, e25, k_ir, e24, k_ir, e23, k_ir, e22, k_ir, e21, k_rr, if_neg (fun c => h2 c.1), e20, k_rr, if_neg (fun c => h1 c.1), e19, k_ir, e18, k_ir]
  have a26 : ∀ f, ar S26 f = ar S f ∧ la S26 f = la S f ∧ qa S26 f = qa S f := fun f => by
    have x21 : ∀ g c j, ar S21 g c j = ar S20 g c j := ar_cr e21 (by decide)
    have x20 : ∀ g c j, ar S20 g c j = ar S19 g c j := ar_cr e20 (by decide)
    have y21 : ∀ g c j, la S21 g c j = la S20 g c j := la_cr e21 (by decide)
    have y20 : ∀ g c j, la S20 g c j = la S19 g c j := la_cr e20 (by decide)
    have w21 : ∀ g c j, qa S21 g c j = qa S20 g c j := qa_cr e21 (by decide)
    have w20 : ∀ g c j, qa S20 g c j = qa S19 g c j := qa_cr e20 (by decide)
    refine ⟨?_, ?_, ?_⟩
    · funext c j
      rw [show ar S26 f c j = ar S21 f c j by rw [e26, e25, e24, e23, e22]; rfl, x21, x20, e19, e18]
      rfl
    · funext c j
      rw [show la S26 f c j = la S21 f c j by rw [e26, e25, e24, e23, e22]; rfl, y21, y20, e19, e18]
      rfl
    · funext c j
      rw [show qa S26 f c j = qa S21 f c j by rw [e26, e25, e24, e23, e22]; rfl, w21, w20, e19, e18]
      rfl
  have d26 : S26.2.2.2.2.2 = S.2.2.2.2.2 := by rw [e26, e25, e24, e23, e22, e21, e20, e19, e18]; rfl
  have c26 : S26.1 1 h = z17 := by rw [e26, k_ii, if_neg (fun c => ht c.2), e25, k_ii, if_neg (fun c => ht c.2), e24, k_ii, if_neg (fun c => ht c.2), e23, k_ii, if_neg (fun c => ht c.2), e22, k_ii, if_neg (fun c => ht c.2), e21, k_ri, e20, k_ri, e19, k_ii, if_neg (fun c => ht c.2), e18, k_ii, if_pos ⟨rfl, rfl⟩]
  have NF : ∀ {a b : Nat} {o : Nat}, a ≠ b → ¬ (a = b ∧ o = t) := fun hab c => hab c.1
  have m28 : S26.1 28 t = S.1 28 t := by rw [e26, k_ii, if_neg (NF (by decide)), e25, k_ii, if_neg (NF (by decide)), e24, k_ii, if_neg (NF (by decide)), e23, k_ii, if_neg (NF (by decide)), e22, k_ii, if_neg (NF (by decide)), e21, k_ri, e20, k_ri, e19, k_ii, if_neg (NF (by decide)), e18, k_ii, if_neg (fun c => absurd c.1 (by decide))]
  have m34 : S26.1 34 t = 0 := by rw [e26, k_ii, if_neg (NF (by decide)), e25, k_ii, if_pos ⟨rfl, rfl⟩]
  have m35 : S26.1 35 t = 0 := by rw [e26, k_ii, if_pos ⟨rfl, rfl⟩]
  have m29 : S26.1 29 t = rt := by rw [e26, k_ii, if_neg (NF (by decide)), e25, k_ii, if_neg (NF (by decide)), e24, k_ii, if_neg (NF (by decide)), e23, k_ii, if_neg (NF (by decide)), e22, k_ii, if_neg (NF (by decide)), e21, k_ri, e20, k_ri, e19, k_ii, if_pos ⟨rfl, rfl⟩]
  have m56 : S26.2.1 56 t = pa := by rw [e26, k_ir, e25, k_ir, e24, k_ir, e23, k_ir, e22, k_ir, e21, k_rr, if_neg (NF (by decide)), e20, k_rr, if_pos ⟨rfl, rfl⟩]
  have m57 : S26.2.1 57 t = none := by rw [e26, k_ir, e25, k_ir, e24, k_ir, e23, k_ir, e22, k_ir, e21, k_rr, if_pos ⟨rfl, rfl⟩]
  have z17e : z17.toInt = (S0.1 1 h).toInt + 1 := by
    have w : z16.toInt = (S0.1 1 h).toInt := by rw [e16, (b1 1 h hh ht).1]
    rw [w_add e17 (by rw [w]; show -2147483648 ≤ (S0.1 1 h).toInt + (1 : Int32).toInt ∧ (S0.1 1 h).toInt + (1 : Int32).toInt < 2147483648; rw [show (1 : Int32).toInt = 1 from rfl]; omega), w]
    rfl
  have hp26 : S26.2.1 2 h = some pg := by rw [r26 2 h ht, (b1 2 h hh ht).2]; exact hp
  refine ⟨pg, e27.trans hp26, ?_⟩
  intro z29 e29 q30 e30
  refine ⟨⟨hr.1, hr.2⟩, ?_⟩
  intro z31 e31 S32 e32
  have hI26 : INJ S26 := INJ_h b9.2.2.1 (fun f hf => by
    funext o
    rcases Decidable.em (o = t) with c | c
    · rw [c]
      exact t26 f (fun c9 => by rw [c9] at hf; exact absurd hf (by decide)) (fun c9 => by rw [c9] at hf; exact absurd hf (by decide))
    · exact r26 f o c)
  have pc31 : z31 = ar S0 32 pg (ix rt) := by
    rw [e31, ar_rd (Z := []) (S0 := S26) FX_rf (by decide) (by decide) (e29.symm.trans e30), (a26 32).1, (b3 32 pg (ix rt) hg hgt).1]
  have hI32 : INJ S32 := by rw [e32]; exact hI26
  refine it_rule (fun u : Nat × Nat × Int32 × kS => h = u.1 ∧ t = u.2.1 ∧ HF [] [] [58] [] S32 u.2.2.2 ∧ (∀ o j, o ≠ t → ar u.2.2.2 58 o j = ar S32 58 o j) ∧ (∀ f, la u.2.2.2 f = la S32 f) ∧ 0 ≤ u.2.2.1.toInt ∧ u.2.2.1.toInt ≤ 12) (fun u => (12 - u.2.2.1.toInt).toNat) ?_ ⟨rfl, rfl, HF_rf, fun _ _ _ => rfl, fun _ => rfl, (show (0 : Int) ≤ (0 : Int32).toInt by decide), (show (0 : Int32).toInt ≤ 12 by decide)⟩
  rintro ⟨x0, x3, x4, Sx⟩ k114 hI hk
  obtain ⟨rfl, rfl, hf, ho, hl, h0, h1⟩ := hI
  replace hf : HF [] [] [58] [] S32 Sx := hf
  replace ho : ∀ o j, o ≠ t → ar Sx 58 o j = ar S32 58 o j := ho
  replace hl : ∀ f, la Sx f = la S32 f := hl
  replace h0 : 0 ≤ x4.toInt := h0
  replace h1 : x4.toInt ≤ 12 := h1
  show wT_X1_newTask_114 _ k114 h t x4 Sx
  unfold wT_X1_newTask_114
  refine ⟨fun c => ?_, fun c => ?_⟩
  · intro S34 e34 S35 e35
    have hI35 : INJ S35 := INJ_h hI32 (fun f _ => by rw [e35, e34]; exact hf.2.1 f (fun q => absurd q List.not_mem_nil))
    have i35 : ∀ f o, o ≠ t → ¬ (f = 1 ∧ o = h) → S35.1 f o = S.1 f o := fun f o ho9 h9 => by
      rw [e35, k_ii, if_neg (fun c => ho9 c.2), e34, k_ii, if_neg (fun c => ho9 c.2), hf.1 f (fun q => absurd q List.not_mem_nil), e32, k_ii, if_neg (fun c => ho9 c.2), i26 f o ho9 h9]
    have c35 : S35.1 1 h = z17 := by rw [e35, k_ii, if_neg (fun c => ht c.2), e34, k_ii, if_neg (fun c => ht c.2), hf.1 1 (fun q => absurd q List.not_mem_nil), e32, k_ii, if_neg (fun c => ht c.2), c26]
    have n35 : ∀ f, f ≠ 36 → f ≠ 37 → f ≠ 38 → S35.1 f t = S26.1 f t := fun f h6 h7 h8 => by
      rw [e35, k_ii, if_neg (fun c => h8 c.1), e34, k_ii, if_neg (fun c => h7 c.1), hf.1 f (fun q => absurd q List.not_mem_nil), e32, k_ii, if_neg (fun c => h6 c.1)]
    have p35 : S35.1 36 t = z31 := by rw [e35, k_ii, if_neg (NF (by decide)), e34, k_ii, if_neg (NF (by decide)), hf.1 36 (fun q => absurd q List.not_mem_nil), e32, k_ii, if_pos ⟨rfl, rfl⟩]
    have o35 : S35.1 38 t = 0 := by rw [e35, k_ii, if_pos ⟨rfl, rfl⟩]
    have r35 : ∀ f, S35.2.1 f = S26.2.1 f := fun f => by rw [e35, e34]; exact (hf.2.1 f (fun q => absurd q List.not_mem_nil)).trans (by rw [e32]; rfl)
    have d35 : S35.2.2.2.2.2 = S.2.2.2.2.2 := by rw [e35, e34]; exact hf.2.2.2.2.trans (by rw [e32]; exact d26)
    have a35 : ∀ f o j, o ≠ t → ar S35 f o j = ar S f o j := fun f o j ho9 => by
      rw [show ar S35 f o j = ar Sx f o j by rw [e35, e34]; rfl]
      rcases Decidable.em (f = 58) with c9 | c9
      · rw [c9, ho o j ho9, e32, show ar (cI S26 36 t z31) 58 o j = ar S26 58 o j from rfl, (a26 58).1]
      · rw [hf.2.2.1 f (fun q => by rcases List.mem_cons.mp q with q | q; exact c9 q; exact absurd q List.not_mem_nil), e32, show ar (cI S26 36 t z31) f o j = ar S26 f o j from rfl, (a26 f).1]
    have q35 : ∀ f, qa S35 f = qa S f := fun f => by
      rw [show qa S35 f = qa Sx f by rw [e35, e34]; rfl, hf.2.2.2.1 f (fun q => absurd q List.not_mem_nil), e32, show qa (cI S26 36 t z31) f = qa S26 f from rfl, (a26 f).2.2]
    have w3 : S35.1 3 h = S0.1 3 h := by rw [i35 3 h ht (fun c => absurd c.1 (by decide)), (b1 3 h hh ht).1]
    refine kmT_X1_enterRow _ _ _ _ _ (fun S36 hF p => ?_) (sk_X1_enterRow h t hI35 (by rw [w3]; exact hw))
    have f36 := HF_k hF hI35 (by decide) (by decide) (by decide)
    apply hK
    refine ⟨fun f o ho9 hn h91 h93 => ?_, fun f o ho9 hn => ?_, fun f o j ho9 hn => ⟨fun h9 => ?_, fun h9 => ?_⟩, fun i => ?_, ?_, ?_, ⟨?_, ?_, ?_, ?_, ?_, ?_, ?_⟩, ⟨?_, ?_⟩, ⟨?_, ?_, ?_, ?_, ?_⟩, ?_⟩
    · have h1 : ¬ (f = 1 ∧ o = h) := fun c9 => h91 c9.1
      have key : S36.1 f o = S35.1 f o := by
        rcases Decidable.em (f = 30) with c9 | c9
        · rw [c9, p.1 o, if_neg hn]
        · rw [f36.1 f (fun q => by rcases List.mem_cons.mp q with q | q; exact h93 q; rcases List.mem_cons.mp q with q | q; exact c9 q; exact absurd q List.not_mem_nil)]
      rw [key, i35 f o hn h1, (b1 f o ho9 hn).1]
    · rw [f36.2.1 f (fun q => absurd q List.not_mem_nil), r35, r26 f o hn, (b1 f o ho9 hn).2]
    · have key : ar S36 f o j = ar S35 f o j := by rw [f36.2.2.1 f (fun q => by rcases List.mem_cons.mp q with q | q; exact h9 q; exact absurd q List.not_mem_nil)]
      rw [key, a35 f o j hn, (b3 f o j ho9 hn).1]
    · rw [f36.2.2.2.1 f (fun q => absurd q List.not_mem_nil), q35]
      exact (b3 f o j ho9 hn).2.2 h9
    · rw [f36.2.2.2.1 3 (fun q => absurd q List.not_mem_nil), q35]
      exact b4 i
    · rw [f36.1 1 (by decide), c35]
      exact z17e
    · have a4 : ∀ i, ar S35 4 h i = ar S0 4 h i := fun i => by rw [a35 4 h i ht, (b3 4 h i hh ht).1]
      have m36 : S36.1 28 t = S35.1 28 t := by rw [f36.1 28 (by decide)]
      have p2 := p.2
      rw [w3] at p2
      rcases p2 with ⟨x1, x2, x3⟩ | ⟨x1, x2⟩
      · exact Or.inl ⟨x1, x2, fun i => by rw [x3 i, a4 i, m36]⟩
      · exact Or.inr ⟨x1, fun i => by rw [x2 i, a4 i]⟩
    · rw [f36.1 28 (by decide), n35 28 (by decide) (by decide) (by decide), m28]
      exact b7
    · rw [p.1 t, if_pos rfl]
    · rw [f36.1 34 (by decide), n35 34 (by decide) (by decide) (by decide), m34]
    · rw [f36.1 35 (by decide), n35 35 (by decide) (by decide) (by decide), m35]
    · rw [f36.1 38 (by decide), o35]
    · rw [f36.1 36 (by decide), p35, pc31]
    · rw [f36.1 29 (by decide), n35 29 (by decide) (by decide) (by decide), m29]
    · rw [f36.2.1 56 (fun q => absurd q List.not_mem_nil), r35, m56]
    · rw [f36.2.1 57 (fun q => absurd q List.not_mem_nil), r35, m57]
    · rw [f36.2.2.2.2, d35]
      exact b9.1
    · intro f o c hf9 e
      rw [f36.2.1 f (fun q => absurd q List.not_mem_nil), r35] at e
      have e2 : S.2.1 f o = some c := by
        rcases Decidable.em (o = t) with d | d
        · rw [d] at e ⊢
          rw [← t26 f (fun c9 => by rw [c9] at hf9; exact absurd hf9 (by decide)) (fun c9 => by rw [c9] at hf9; exact absurd hf9 (by decide))]
          exact e
        · rw [← r26 f o d]
          exact e
      obtain ⟨k, hk9⟩ := b9.2.1 f o c hf9 e2
      exact ⟨k, by rw [f36.2.2.2.2, d35]; exact hk9⟩
    · exact INJ_h hI35 (fun f _ => f36.2.1 f (fun q => absurd q List.not_mem_nil))
    · intro a k k' h1 h2
      rw [f36.2.2.2.2, d35] at h1 h2
      exact b9.2.2.2.1 a k k' h1 h2
    · rw [f36.2.2.2.2, d35]
      exact b9.2.2.2.2
    · rcases b10 with ⟨x1, x2, x3⟩ | ⟨x1, x2, x3, x4⟩
      · exact Or.inl ⟨x1, by rw [f36.2.2.2.2, d35]; exact x2, fun f h1 h2 => by rw [f36.2.1 f (fun q => absurd q List.not_mem_nil), r35, t26 f h1 h2]; exact x3 f⟩
      · exact Or.inr ⟨x1, x2, by unfold cnt at x3 ⊢; rw [f36.2.2.2.2, d35]; exact x3, fun f h1 h2 h3 h4 h5 => by rw [f36.2.1 f (fun q => absurd q List.not_mem_nil), r35, t26 f h1 h2]; exact x4 f h3 h4 h5⟩
  · intro z37 e37 q38 e38
    have x12 : x4.toInt < 12 := by
      rcases Int.lt_or_le x4.toInt 12 with q | q
      · exact q
      · exact absurd (show (12 : Int32) ≤ x4 from Int32.le_iff_toInt_le.mpr (by rw [show (12 : Int32).toInt = 12 from rfl]; exact q)) c
    refine ⟨⟨h0, x12⟩, ?_⟩
    intro S39 e39 z40 e40
    have wr := ar_wr (Z := []) (INJ_h hI32 (fun f _ => hf.2.1 f (fun q => absurd q List.not_mem_nil))) FX_rf (by decide) (by decide) (e37.symm.trans e38) e39
    have z40e : z40.toInt = x4.toInt + 1 := by
      rw [w_add e40 (by show -2147483648 ≤ x4.toInt + (1 : Int32).toInt ∧ x4.toInt + (1 : Int32).toInt < 2147483648; rw [show (1 : Int32).toInt = 1 from rfl]; omega)]
      rfl
    refine hk (h, t, z40, S39) ⟨rfl, rfl, HF_tr hf (HF_a e39 wr), fun o j ho9 => ?_, fun f => by show la S39 f = la S32 f; rw [e39]; exact hl f, by show 0 ≤ z40.toInt; omega, by show z40.toInt ≤ 12; omega⟩ (by show (12 - z40.toInt).toNat < (12 - x4.toInt).toNat; omega)
    show ar S39 58 o j = _
    rw [wr 58 o j, if_neg (fun c9 => ho9 c9.2.1)]
    exact ho o j ho9
theorem sk_X1_newTask {h pg : Nat} {rt : Int32} {pa : Option Nat} {S : kS} {N : Nat → Prop} (hI : INJ S) (hK : KDI S h N) (hT : TKA S h) (hp : S.2.1 2 h = some pg) (hg : (pg, Sum.inl 5) ∈ S.2.2.2.2.2) (hr : 0 ≤ rt.toInt ∧ rt.toInt < 12) (hw : 0 ≤ (S.1 3 h).toInt ∧ (S.1 3 h).toInt ≤ 200) : wT_X1_newTask h rt pa S (fun S1 r => (r = none ∧ S1 = S) ∨ ∃ t, r = some t ∧ NTW h t rt pa (ar S 32 pg (ix rt)) S S1 ∧ h ≠ t ∧ (S.1 1 h).toInt < 200) := by
  unfold wT_X1_newTask
  intro z1 e1
  refine ⟨fun c => ?_, fun c => Or.inl ⟨rfl, rfl⟩⟩
  have tc : (S.1 1 h).toInt < 200 := by
    have := w_lt c
    rw [e1] at this
    exact this
  have hc := hT.1
  intro z3 e3 z4 e4 q5 e5
  refine ⟨⟨by rw [e4]; exact hT.1, by rw [e4]; exact tc⟩, ?_⟩
  intro z6 e6
  have ez6 : z6 = qa S 3 h (ix (S.1 1 h)) := by rw [e6, qa_rd (Z := []) (S0 := S) FX_rf (by decide) (by decide) (e3.symm.trans e5), e4]
  have i200 : ix (S.1 1 h) < 200 := jix_lt (n := 200) hc tc
  refine ⟨fun c6 => ?_, fun q7 c7 => ?_⟩
  · intro q8 h8 S9 e9 z10 e10
    have hq : h ≠ q8 := fun c9 => h8 _ (c9 ▸ hK.1)
    have gq : pg ≠ q8 := fun c9 => h8 _ (c9 ▸ hg)
    have g9 : GRW q8 S S9 := GR_0 (fun c => by cases c) hK.2.2.2.1 hI hK.2.2.1 h8 e9
    have n9 : ∀ f, S9.2.1 f q8 = none := fun f => by rw [e9, k_nr, if_pos rfl]
    have x10 := sk_X9_init (v := z10) g9
    refine x9_mono (fun S11 p => ?_) x10
    obtain ⟨g11, m28, r11, c11, ds⟩ := p
    intro z12 e12 z13 e13 q14 e14
    have hh : ALO S h := ⟨_, hK.1⟩
    have t11 : S11.1 1 h = S.1 1 h := (g11.1 1 h hh hq).1
    refine ⟨⟨by rw [e13, t11]; exact hT.1, by rw [e13, t11]; exact tc⟩, ?_⟩
    intro S15 e15
    have wr := qa_wr (Z := []) g11.2.2.2.2.1 FX_rf (by decide) (by decide) (e12.symm.trans e14) e15
    have d15 : S15.2.2.2.2.2 = S11.2.2.2.2.2 := by rw [e15]; rfl
    have r15 : ∀ f, S15.2.1 f = S11.2.1 f := fun f => by rw [e15]; rfl
    have i15 : ∀ f, S15.1 f = S11.1 f := fun f => by rw [e15]; rfl
    refine nt_48 (pg := pg) (S0 := S) ⟨fun f o ho hn => ?_, fun f o j ho hn => ⟨?_, ?_, fun h9 => ?_⟩, fun i => ?_, ?_, ⟨by rw [d15]; exact g11.2.2.1, fun f o b hf e => ?_, ?_, ?_, ?_⟩, Or.inr ⟨ez6.symm.trans c6, fun w => by obtain ⟨k, hk⟩ := w; exact h8 k hk, ?_, fun f h1 h2 h3 => ?_⟩⟩ hh hq hp ⟨_, hg⟩ gq hr ⟨hc, tc⟩ hw (fun S1 w => Or.inr ⟨q8, rfl, w, hq, tc⟩)
    · rw [i15, r15]
      exact g11.1 f o ho hn
    · rw [show ar S15 f o j = ar S11 f o j by rw [e15]; rfl]
      exact (g11.2.1 f o j ho hn).1
    · rw [show la S15 f o j = la S11 f o j by rw [e15]; rfl]
      exact (g11.2.1 f o j ho hn).2.1
    · rw [wr f o j, if_neg (fun c9 => h9 ⟨c9.2.1, c9.1⟩)]
      exact (g11.2.1 f o j ho hn).2.2
    · rw [wr 3 h i, e13, t11]
      rcases Decidable.em (i = ix (S.1 1 h)) with c9 | c9
      · rw [if_pos ⟨rfl, rfl, c9⟩, if_pos c9]
      · rw [if_neg (fun w => c9 w.2.2), if_neg c9]
        exact (g11.2.1 3 h i hh hq).2.2
    · rw [i15, m28, e10, (g9.1 1 h hh hq).1]
    · rw [r15] at e
      obtain ⟨k, hk⟩ := g11.2.2.2.1 f o b hf e
      exact ⟨k, by rw [d15]; exact hk⟩
    · exact INJ_h g11.2.2.2.2.1 (fun f _ => r15 f)
    · intro a k k' h1 h2
      rw [d15] at h1 h2
      exact g11.2.2.2.2.2.1 a k k' h1 h2
    · rw [d15]
      exact ds _ (d_n e9).2
    · unfold cnt at c11 ⊢
      rw [d15, c11, e9]
      show (S.2.2.2.2.2 ++ [(q8, Sum.inl 9)]).length + 3 = _
      simp
    · rw [r15, r11 f h1 h2 h3]
      exact n9 f
  · have hq7 : qa S 3 h (ix (S.1 1 h)) = some q7 := ez6.symm.trans c7
    have k9 := hK.2.1 (ix (S.1 1 h)) q7 i200 hq7
    have hq : h ≠ q7 := fun c9 => by
      have := hK.2.2.1 q7 _ _ k9 (c9 ▸ hK.1)
      cases this
    have gq : pg ≠ q7 := fun c9 => by
      have := hK.2.2.1 q7 _ _ k9 (c9 ▸ hg)
      cases this
    have hh : ALO S h := ⟨_, hK.1⟩
    refine nt_48 (pg := pg) (S0 := S) ⟨fun _ _ _ _ => ⟨rfl, rfl⟩, fun _ _ _ _ _ => ⟨rfl, rfl, fun _ => rfl⟩, fun i => ?_, ?_, ⟨⟨fun _ hx => hx, fun _ hx => hx⟩, hK.2.2.2.1, hI, hK.2.2.1, k9⟩, Or.inl ⟨hq7, rfl, fun _ => rfl⟩⟩ hh hq hp ⟨_, hg⟩ gq hr ⟨hc, tc⟩ hw (fun S1 w => Or.inr ⟨q7, rfl, w, hq, tc⟩)
    · rcases Decidable.em (i = ix (S.1 1 h)) with c9 | c9
      · rw [if_pos c9, c9]; exact hq7
      · rw [if_neg c9]
    · rw [hT.2.2.2 (ix (S.1 1 h)) q7 i200 hq7, kx_int _ hc]
section HTK
variable {S S1 : kS} {h t : Nat} {N T G : Nat → Prop} {U : List Nat} {L : Nat → List Nat} {D : Nat → Nat} {P : Nat → Int32} {rt pc : Int32} {pa : Option Nat}
theorem AEV_m {n m e : Int} (h : AEV n e) (hm : n ≤ m) : AEV m e := by
  rcases h with w | w
  · exact Or.inl ⟨w.1, by omega⟩
  · exact Or.inr ⟨w.1, by omega⟩
theorem HI_tk (g : HI h N T G U L D P S) (hK : KDI S h N) (hht : h ≠ t) (htc : (S.1 1 h).toInt < 200) (w : NTW h t rt pa pc S S1) (hpa : ∀ u, pa = some u → tl S h u) : HI h N (fun u => u = t ∨ T u) G U L D P S1 ∧ KDI S1 h N ∧ tl S1 h t ∧ L t = [] ∧ ∀ u, tl S1 h u ↔ u = t ∨ tl S h u := by
  obtain ⟨g1, g2, g3, g4, g5, g6, g7, g8, g9⟩ := g
  obtain ⟨k1, k2, k3, k4, k5, k6⟩ := hK
  obtain ⟨w1, w2, w3, w4, w5, w6, ⟨w28, w30, w34, w35, w38, w36, w29⟩, ⟨w56, w57⟩, ⟨w9, wA, wI, wU, w99⟩, wx⟩ := w
  obtain ⟨u1, u2, u3, u4, u5, u6, u7, u8, u9⟩ := g2
  have c0 := g1.1
  have ic := kx_int (S.1 1 h) c0
  have hh : ALO S h := ⟨_, k1⟩
  -- t is no other thing
  have pk : ∀ (o : Nat) (c : Nat), c ≠ 9 → (o, Sum.inl c) ∈ S.2.2.2.2.2 → o ≠ t := fun o c hc ho e => by
    have v := wU t _ _ w99 (e ▸ w9.1 _ ho)
    have e9 : (9 : Nat) = c := by injection v
    exact hc e9.symm
  have i200 : ix (S.1 1 h) < 200 := jix_lt (n := 200) c0 htc
  have qt : ∀ i : Nat, i < 200 → i ≠ ix (S.1 1 h) → qa S 3 h i ≠ some t := fun i hi hn e => by
    rcases wx with ⟨x1, _⟩ | ⟨_, x2, _⟩
    · have a1 := g1.2.2.2 i t hi e
      have a2 := g1.2.2.2 (ix (S.1 1 h)) t i200 x1
      omega
    · exact x2 ⟨_, k2 i t hi e⟩
  have nl : ¬ tl S h t := fun v => by
    obtain ⟨i, hi, e⟩ := v
    exact qt i (by omega) (by omega) e
  have Lt : L t = [] := by
    cases hz : L t with
    | nil => rfl
    | cons p r => exact absurd (u7 t p (by rw [hz]; exact List.mem_cons_self ..)).1 nl
  have tle : ∀ u, tl S1 h u ↔ u = t ∨ tl S h u := fun u => by
    constructor
    · intro v
      obtain ⟨i, hi, e⟩ := v
      rw [w5] at hi
      rw [w4 i] at e
      rcases Decidable.em (i = ix (S.1 1 h)) with c | c
      · rw [if_pos c] at e
        exact Or.inl (Option.some.inj e).symm
      · rw [if_neg c] at e
        exact Or.inr ⟨i, by omega, e⟩
    · intro v
      rcases v with v | ⟨i, hi, e⟩
      · exact ⟨ix (S.1 1 h), by omega, by rw [w4, if_pos rfl, v]⟩
      · exact ⟨i, by omega, by rw [w4, if_neg (fun c => by omega)]; exact e⟩
  have tn : ∀ u, tl S h u → u ≠ t ∧ ALO S u := fun u v => ⟨fun c => nl (c ▸ v), by
    obtain ⟨i, hi, e⟩ := v
    exact ⟨_, k2 i u (by omega) e⟩⟩
  have Ln : ∀ u q, q ∈ L u → q ≠ t ∧ ALO S q := fun u q hq => ⟨pk q 4 (by decide) (u9 u q hq), _, u9 u q hq⟩
  have Un : ∀ q, q ∈ U → q ≠ t ∧ ALO S q := fun q hq => ⟨pk q 4 (by decide) (u8 q hq), _, u8 q hq⟩
  have Nn : ∀ l, N l → l ≠ t ∧ ALO S l := fun l hl => ⟨pk l 2 (by decide) (k6 l hl), _, k6 l hl⟩
  have rr : ∀ f o, o ≠ t ∧ ALO S o → S1.2.1 f o = S.2.1 f o := fun f o ho => w2 f o ho.2 ho.1
  have ii : ∀ f o, o ≠ t ∧ ALO S o → f ≠ 1 → f ≠ 3 → S1.1 f o = S.1 f o := fun f o ho h1 h3 => w1 f o ho.2 ho.1 h1 h3
  have ea : ∀ f, f ≠ 4 → ar S1 f h = ar S f h := fun f hf => funext (fun i => (w3 f h i hh hht).1 hf)
  refine ⟨⟨?_, ?_, ?_, ?_, ?_, ?_, ?_, ?_, ?_⟩, ?_, (tle t).mpr (Or.inl rfl), Lt, tle⟩
  · refine ⟨by omega, by omega, fun i hi => ?_, fun i u hi e => ?_⟩
    · rw [w5] at hi
      rw [w4 i]
      rcases Decidable.em (i = ix (S.1 1 h)) with c | c
      · exact ⟨t, by rw [if_pos c]⟩
      · obtain ⟨u, hu⟩ := g1.2.2.1 i (by omega)
        exact ⟨u, by rw [if_neg c]; exact hu⟩
    · rw [w4 i] at e
      rcases Decidable.em (i = ix (S.1 1 h)) with c | c
      · rw [if_pos c] at e
        rw [← Option.some.inj e, w28, c, ic]
      · rw [if_neg c] at e
        rw [ii 28 u ⟨fun c9 => qt i hi c (c9 ▸ e), _, k2 i u hi e⟩ (by decide) (by decide)]
        exact g1.2.2.2 i u hi e
  · refine ⟨?_, u2, fun u v => ?_, u4, u5, u6, fun u q hq => ?_, fun q hq => w9.1 _ (u8 q hq), fun u q hq => w9.1 _ (u9 u q hq)⟩
    · rw [rr 11 h ⟨hht, hh⟩]
      exact CH_eq (fun q hq => rr 24 q (Un q hq)) u1
    · obtain ⟨i, hi, e⟩ := v
      rw [w4 i] at e
      rcases Decidable.em (i = ix (S.1 1 h)) with c | c
      · rw [if_pos c] at e
        rw [← Option.some.inj e, Lt]
        rcases wx with ⟨x1, _, x3⟩ | ⟨_, _, _, x4⟩
        · have v := u3 t ⟨_, i200, x1⟩
          rw [Lt] at v
          rw [x3 61 (by decide) (by decide), x3 62 (by decide) (by decide), x3 63 (by decide) (by decide)]
          exact ⟨v.1, fun q hq => absurd (v.2.1 q hq).1 List.not_mem_nil, v.2.2⟩
        · rw [x4 61 (by decide) (by decide) (by decide) (by decide) (by decide), x4 62 (by decide) (by decide) (by decide) (by decide) (by decide), x4 63 (by decide) (by decide) (by decide) (by decide) (by decide)]
          exact ⟨rfl, fun q hq => (by cases hq), fun q hq => (by cases hq)⟩
      · rw [if_neg c] at e
        have ut : u ≠ t ∧ ALO S u := ⟨fun c9 => qt i hi c (c9 ▸ e), _, k2 i u hi e⟩
        obtain ⟨v1, v2, v3⟩ := u3 u ⟨i, hi, e⟩
        rw [rr 61 u ut, rr 62 u ut, rr 63 u ut]
        exact ⟨CH_eq (fun q hq => rr 24 q (Ln u q hq)) v1, fun q hq => ⟨(v2 q hq).1, by rw [rr 23 q (Ln u q (v2 q hq).1)]; exact (v2 q hq).2⟩, v3⟩
    · obtain ⟨v1, v2, v3, v4, v5⟩ := u7 u q hq
      rw [rr 21 q (Ln u q hq), rr 23 q (Ln u q hq), rr 62 u (tn u v1)]
      exact ⟨(tle u).mpr (Or.inr v1), v2, v3, v4, v5⟩
  · obtain ⟨Q, c1, c2, c3⟩ := g3
    refine ⟨Q, fun l hl => ?_, fun l q hq => ?_, fun u q l hq hl => ?_⟩
    · obtain ⟨v1, v2, v3, v4⟩ := c1 l hl
      rw [rr 12 l (Nn l hl), rr 13 l (Nn l hl)]
      refine ⟨DL_eq (fun q hq => ?_) v1, v2, v3, v4⟩
      obtain ⟨u, hu⟩ := (c2 l q hq).2.2.1
      exact ⟨rr 26 q (Ln u q hu), rr 27 q (Ln u q hu)⟩
    · obtain ⟨v1, v2, ⟨u, hu⟩, v4⟩ := c2 l q hq
      rw [rr 25 q (Ln u q hu), ii 13 q (Ln u q hu) (by decide) (by decide)]
      exact ⟨v1, v2, ⟨u, hu⟩, v4⟩
    · rw [rr 25 q (Ln u q hq)] at hl
      exact c3 u q l hq hl
  · intro u hg hu
    rcases (tle u).mp hu with c | c
    · rw [c]
      exact ⟨fun _ q hq => by rw [Lt] at hq; exact absurd hq List.not_mem_nil, fun _ _ => Or.inl rfl⟩
    · rw [ii 30 u (tn u c) (by decide) (by decide), ii 38 u (tn u c) (by decide) (by decide)]
      exact ⟨fun v q hq => by rw [ii 13 q (Ln u q hq) (by decide) (by decide)]; exact (g4 u hg c).1 v q hq, fun v v2 => Or.inr ((g4 u hg c).2 v v2)⟩
  · refine ⟨fun u q hu hq => ?_, fun u v hu hv => ?_, fun u q c hq hc => ?_⟩
    · rcases (tle u).mp hu with c | c
      · rw [c, w57] at hq
        cases hq
      · rw [rr 57 u (tn u c)] at hq
        rcases g5.1 u q c hq with ⟨v, hv⟩ | v
        · exact Or.inl ⟨v, hv⟩
        · exact Or.inr ⟨by rw [ii 13 q ⟨pk q 4 (by decide) v.2, _, v.2⟩ (by decide) (by decide)]; exact v.1, w9.1 _ v.2⟩
    · rcases (tle u).mp hu with c | c
      · rw [c, w56] at hv
        exact (tle v).mpr (Or.inr (hpa v hv))
      · rw [rr 56 u (tn u c)] at hv
        exact (tle v).mpr (Or.inr (g5.2.1 u v c hv))
    · rw [rr 22 q (Ln u q hq)] at hc
      exact (tle c).mpr (Or.inr (g5.2.2 u q c hq hc))
  · obtain ⟨r1, r2, r3⟩ := g6
    have rc0 := r1.1
    have irc := kx_int (S.1 3 h) rc0
    have old : ∀ i : Nat, (i : Int) < (S.1 3 h).toInt → ∀ u, qa S1 3 h (ix (ar S 4 h i)) = some u → S1.1 30 u = 0 := fun i hi u hu => by
      have b := r1.2.2 i hi
      have ib := kx_int (ar S 4 h i) b.1
      rw [w4, if_neg (fun c => by omega)] at hu
      have ul : tl S h u := ⟨_, by omega, hu⟩
      rw [ii 30 u (tn u ul) (by decide) (by decide)]
      exact r3 i u hi hu
    rcases w6 with ⟨x1, x2, x3⟩ | ⟨x1, x2⟩
    · refine ⟨⟨by omega, by omega, fun i hi => ?_⟩, fun i j hi hj e => ?_, fun i u hi hu => ?_⟩
      · rw [x3 i]
        rcases Decidable.em (i = ix (S.1 3 h)) with c | c
        · rw [if_pos c, w28, w5]
          omega
        · rw [if_neg c, w5]
          have := r1.2.2 i (by omega)
          omega
      · rw [x3 i, x3 j] at e
        rcases Decidable.em (i = ix (S.1 3 h)) with c | c
        · rcases Decidable.em (j = ix (S.1 3 h)) with d | d
          · rw [c, d]
          · rw [if_pos c, if_neg d] at e
            have b := r1.2.2 j (by omega)
            rw [← e, w28] at b
            omega
        · rcases Decidable.em (j = ix (S.1 3 h)) with d | d
          · rw [if_neg c, if_pos d] at e
            have b := r1.2.2 i (by omega)
            rw [e, w28] at b
            omega
          · rw [if_neg c, if_neg d] at e
            exact r2 i j (by omega) (by omega) e
      · rw [x3 i] at hu
        rcases Decidable.em (i = ix (S.1 3 h)) with c | c
        · rw [if_pos c, show ix (S1.1 28 t) = ix (S.1 1 h) from ix_of (by rw [w28, ic]), w4, if_pos rfl] at hu
          rw [← Option.some.inj hu]
          exact w30
        · rw [if_neg c] at hu
          exact old i (by omega) u hu
    · have e4 : ar S1 4 h = ar S 4 h := funext x2
      unfold RWI
      rw [x1, e4, w5]
      exact ⟨⟨rc0, r1.2.1, fun i hi => by have := r1.2.2 i hi; omega⟩, r2, fun i u hi hu => old i hi u hu⟩
  · rw [ii 5 h ⟨hht, hh⟩ (by decide) (by decide), ea 10 (by decide), w5]
    exact ⟨g7.1, g7.2.1, fun i hi => AEV_m (g7.2.2 i hi) (by omega)⟩
  · refine ⟨fun b hb => ?_, fun o hd ho => ?_⟩
    · rw [rr 9 h ⟨hht, hh⟩] at hb
      have bn : b ≠ t ∧ ALO S b := ⟨pk b 0 (by decide) (k5 b hb), _, k5 b hb⟩
      have v := g8.1 b hb
      rw [ii 0 b bn (by decide) (by decide)]
      have e1 : (S1.1 1 h).toInt.toNat = (S.1 1 h).toInt.toNat + 1 := by rw [w5]; omega
      have e2 : lcn (cnc S1 h) ((S.1 1 h).toInt.toNat + 1) = lcn (cnc S h) (S.1 1 h).toInt.toNat := by
        show lcn (cnc S1 h) (S.1 1 h).toInt.toNat + (if cnc S1 h (S.1 1 h).toInt.toNat = 0 then 0 else 1) = _
        have z : cnc S1 h (S.1 1 h).toInt.toNat = 0 := by
          unfold cnc
          rw [w4, if_pos (show (S.1 1 h).toInt.toNat = ix (S.1 1 h) from rfl)]
          exact w35
        rw [if_pos z, Int.add_zero]
        refine lcn_c (fun i hi => ?_)
        unfold cnc
        rw [w4, if_neg (fun c => by omega)]
        cases hc : qa S 3 h i with
        | none => rfl
        | some u =>
          have ul : tl S h u := ⟨i, by omega, hc⟩
          exact ii 35 u (tn u ul) (by decide) (by decide)
      rw [e1, e2]
      exact v
    · rw [rr 9 h ⟨hht, hh⟩] at ho
      have od := w9.2 o hd
      rw [ii 0 o ⟨pk o 0 (by decide) od, _, od⟩ (by decide) (by decide)]
      exact g8.2 o od ho
  · unfold LTS
    rw [ea 6 (by decide)]
    exact g9
  · refine ⟨w9.1 _ k1, fun i u hi e => ?_, wU, wA, fun b hb => ?_, fun l hl => w9.1 _ (k6 l hl)⟩
    · rw [w4 i] at e
      rcases Decidable.em (i = ix (S.1 1 h)) with c | c
      · rw [if_pos c] at e
        rw [← Option.some.inj e]
        exact w99
      · rw [if_neg c] at e
        exact w9.1 _ (k2 i u hi e)
    · rw [rr 9 h ⟨hht, hh⟩] at hb
      exact w9.1 _ (k5 b hb)
end HTK
