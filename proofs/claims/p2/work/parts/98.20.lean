
def wT_X9_init (t0 : Nat) (a0 : Int32) (S : kS) (K : kS → Prop) : Prop := ∀ q1 : Nat, (∀ k : cK, (q1, k) ∉ S.2.2.2.2.2) → ∀ S2 : kS, S2 = cNw S q1 (.inr (12, 0)) → ∀ S3 : kS, S3 = cR S2 58 t0 (some q1) → ∀ q4 : Nat, (∀ k : cK, (q4, k) ∉ S3.2.2.2.2.2) → ∀ S5 : kS, S5 = cNw S3 q4 (.inr (10, 0)) → ∀ S6 : kS, S6 = cR S5 59 t0 (some q4) → ∀ q7 : Nat, (∀ k : cK, (q7, k) ∉ S6.2.2.2.2.2) → ∀ S8 : kS, S8 = cNw S6 q7 (.inr (10, 0)) → ∀ S9 : kS, S9 = cR S8 60 t0 (some q7) → ∀ S10 : kS, S10 = cI S9 28 t0 a0 → K S10
theorem WT_new {d : List (Nat × cK)} {S S1 : kS} {q ci : Nat} (hW : WT d S) (hf : ∀ k : cK, (q, k) ∉ S.2.2.2.2.2) (e : S1 = cNw S q (.inl ci)) (hn : ∀ f, f ∈ finL → (fTy f).1 ≠ ci) : WT (d ++ [(q, Sum.inl ci)]) S1 := by
  subst e
  rw [hW.1] at hf
  have hne : ∀ a k, (a, k) ∈ d → a ≠ q := fun a k h hq => hf k (hq ▸ h)
  have key : ∀ g x, (cNw S q (.inl ci)).2.1 g x = if x = q then none else S.2.1 g x := fun g x => rfl
  have keq : ∀ x, (cNw S q (.inl ci)).2.2.2.2.1 x = if x = q then (fun _ => none) else S.2.2.2.2.1 x := fun x => rfl
  have hin : ∀ {x : Nat} {k : cK}, (x, k) ∈ d ++ [(q, Sum.inl ci)] → (x, k) ∈ d ∨ (x = q ∧ k = Sum.inl ci) := fun {x k} h => by
    rcases List.mem_append.mp h with h | h
    · exact Or.inl h
    · cases List.mem_singleton.mp h; exact Or.inr ⟨rfl, rfl⟩
  refine ⟨?_, fun f a b ha h => ?_, fun f a hfi ha h => ?_, fun a i b ha h => ?_, fun a i ha hi => ?_, fun a k k' h h' => ?_⟩
  · show S.2.2.2.2.2 ++ _ = _
    rw [hW.1]
  · rw [key] at h
    split at h
    · cases h
    · rename_i hq
      rcases hin ha with h1 | ⟨h1, -⟩
      · exact List.mem_append_left _ (hW.2.1 f a b h1 h)
      · exact absurd h1 hq
  · rcases hin ha with h1 | ⟨h1, h2⟩
    · rw [key, if_neg (hne a _ h1)] at h
      exact hW.2.2.1 f a hfi h1 h
    · exact hn f hfi (Sum.inl.inj h2)
  · rcases hin ha with h1 | ⟨-, h2⟩
    · rw [keq, if_neg (hne a _ h1)] at h
      exact List.mem_append_left _ (hW.2.2.2.1 a i b h1 h)
    · cases h2
  · rcases hin ha with h1 | ⟨-, h2⟩
    · rw [keq, if_neg (hne a _ h1)]
      obtain ⟨b, q1, q2⟩ := hW.2.2.2.2.1 a i h1 hi
      exact ⟨b, q1, List.mem_append_left _ q2⟩
    · cases h2
  · rcases hin h with h1 | ⟨h1, h2⟩
    · rcases hin h' with h3 | ⟨h3, h4⟩
      · exact hW.2.2.2.2.2 a k k' h1 h3
      · exact absurd h3 (hne a k h1)
    · rcases hin h' with h3 | ⟨h3, h4⟩
      · exact absurd h1 (hne a k' h3)
      · rw [h2, h4]
def WTe (x : Nat) (d : List (Nat × cK)) (S : kS) : Prop := S.2.2.2.2.2 = d ∧ (∀ f a b, (a, Sum.inl (fTy f).1) ∈ d → S.2.1 f a = some b → (b, (fTy f).2) ∈ d) ∧ (∀ f a, a ≠ x → f ∈ finL → (a, Sum.inl (fTy f).1) ∈ d → S.2.1 f a ≠ none) ∧ (∀ a i b, (a, Sum.inr (200, 2)) ∈ d → S.2.2.2.2.1 a i = some b → (b, Sum.inl 9) ∈ d) ∧ (∀ a i, (a, Sum.inr (8, 4)) ∈ d → i < 8 → ∃ b, S.2.2.2.2.1 a i = some b ∧ (b, Sum.inl 2) ∈ d) ∧ (∀ (a : Nat) (k k' : cK), (a, k) ∈ d → (a, k') ∈ d → k = k')
theorem WTe_new {x : Nat} {d : List (Nat × cK)} {S S1 : kS} {q : Nat} {kd : cK} (hW : WTe x d S) (hf : ∀ k : cK, (q, k) ∉ S.2.2.2.2.2) (e : S1 = cNw S q kd) (hn : kd = Sum.inl 9 ∧ q = x ∨ ∃ n, kd = Sum.inr (n, 0)) : WTe x (d ++ [(q, kd)]) S1 := by
  subst e
  rw [hW.1] at hf
  have hne : ∀ a k, (a, k) ∈ d → a ≠ q := fun a k h hq => hf k (hq ▸ h)
  have key : ∀ g x, (cNw S q kd).2.1 g x = if x = q then none else S.2.1 g x := fun g x => rfl
  have keq : ∀ x, (cNw S q kd).2.2.2.2.1 x = if x = q then (fun _ => none) else S.2.2.2.2.1 x := fun x => rfl
  have hin : ∀ {x : Nat} {k : cK}, (x, k) ∈ d ++ [(q, kd)] → (x, k) ∈ d ∨ (x = q ∧ k = kd) := fun {x k} h => by
    rcases List.mem_append.mp h with h | h
    · exact Or.inl h
    · cases List.mem_singleton.mp h; exact Or.inr ⟨rfl, rfl⟩
  refine ⟨?_, fun f a b ha h => ?_, fun f a hx hfi ha h => ?_, fun a i b ha h => ?_, fun a i ha hi => ?_, fun a k k' h h' => ?_⟩
  · show S.2.2.2.2.2 ++ _ = _
    rw [hW.1]
  · rw [key] at h
    split at h
    · cases h
    · rename_i hq
      rcases hin ha with h1 | ⟨h1, -⟩
      · exact List.mem_append_left _ (hW.2.1 f a b h1 h)
      · exact absurd h1 hq
  · rcases hin ha with h1 | ⟨h1, h2⟩
    · rw [key, if_neg (hne a _ h1)] at h
      exact hW.2.2.1 f a hx hfi h1 h
    · rcases hn with ⟨-, h3⟩ | ⟨n, h3⟩
      · exact hx (h1.trans h3)
      · rw [h3] at h2; cases h2
  · rcases hin ha with h1 | ⟨-, h2⟩
    · rw [keq, if_neg (hne a _ h1)] at h
      exact List.mem_append_left _ (hW.2.2.2.1 a i b h1 h)
    · rcases hn with ⟨h3, -⟩ | ⟨n, h3⟩
      · rw [h3] at h2; cases h2
      · rw [h3] at h2; cases h2
  · rcases hin ha with h1 | ⟨-, h2⟩
    · rw [keq, if_neg (hne a _ h1)]
      obtain ⟨b, q1, q2⟩ := hW.2.2.2.2.1 a i h1 hi
      exact ⟨b, q1, List.mem_append_left _ q2⟩
    · rcases hn with ⟨h3, -⟩ | ⟨n, h3⟩
      · rw [h3] at h2; cases h2
      · rw [h3] at h2; cases h2
  · rcases hin h with h1 | ⟨h1, h2⟩
    · rcases hin h' with h3 | ⟨h3, h4⟩
      · exact hW.2.2.2.2.2 a k k' h1 h3
      · exact absurd h3 (hne a k h1)
    · rcases hin h' with h3 | ⟨h3, h4⟩
      · exact absurd h1 (hne a k' h3)
      · rw [h2, h4]
theorem cR_key {S : kS} {f a : Nat} {v : Option Nat} (g y : Nat) : (cR S f a v).2.1 g y = if y = a then (if g = f then v else S.2.1 g a) else S.2.1 g y := rfl
theorem WTe_r {x f : Nat} {d : List (Nat × cK)} {S S1 : kS} {b : Nat} (hW : WTe x d S) (e : S1 = cR S f x (some b)) (hv : (b, (fTy f).2) ∈ d) : WTe x d S1 := by
  subst e
  refine ⟨hW.1, fun g y b' hx h => ?_, fun g y hyx hg hx h => ?_, hW.2.2.2⟩
  · rw [cR_key] at h
    split at h
    · rename_i hxa
      split at h
      · rename_i hgf; subst hgf; cases h; exact hv
      · subst hxa; exact hW.2.1 g y b' hx h
    · exact hW.2.1 g y b' hx h
  · rw [cR_key, if_neg hyx] at h
    exact hW.2.2.1 g y hyx hg hx h
theorem ty_X9_new {d : List (Nat × cK)} {S S1 : kS} {q : Nat} {n : Int32} {K K' : kS → Prop} (hW : WT d S) (hf : ∀ k : cK, (q, k) ∉ S.2.2.2.2.2) (e : S1 = cNw S q (.inl 9)) (hk : ∀ (d1 : List (Nat × cK)) (S2 : kS), (∀ y, y ∈ d → y ∈ d1) → WT d1 S2 → (q, Sum.inl 9) ∈ d1 → K S2 → K' S2) (h : wT_X9_init q n S1 K) : wp_X9_init q n S1 K' := by
  have h0 : WTe q d S := ⟨hW.1, hW.2.1, fun f a _ => hW.2.2.1 f a, hW.2.2.2⟩
  have h1 := WTe_new h0 hf e (Or.inl ⟨rfl, rfl⟩)
  unfold wT_X9_init at h
  unfold wp_X9_init
  intro q1 f1 S2 e2
  replace h := h q1 f1 S2 e2
  have h2 := WTe_new h1 f1 e2 (Or.inr ⟨12, rfl⟩)
  have m0 : (q, Sum.inl 9) ∈ d ++ [(q, (Sum.inl 9 : cK))] := List.mem_append_right _ (List.mem_singleton.mpr rfl)
  refine ⟨by unfold hasO; rw [h2.1]; exact List.mem_append_left _ m0, fun S3 e3 => ?_⟩
  replace h := h S3 e3
  have h3 := WTe_r (f := 58) h2 e3 (List.mem_append_right _ (List.mem_singleton.mpr rfl))
  intro q4 f4 S5 e5
  replace h := h q4 f4 S5 e5
  have h5 := WTe_new h3 f4 e5 (Or.inr ⟨10, rfl⟩)
  refine ⟨by unfold hasO; rw [h5.1]; exact List.mem_append_left _ (List.mem_append_left _ m0), fun S6 e6 => ?_⟩
  replace h := h S6 e6
  have h6 := WTe_r (f := 59) h5 e6 (List.mem_append_right _ (List.mem_singleton.mpr rfl))
  intro q7 f7 S8 e8
  replace h := h q7 f7 S8 e8
  have h8 := WTe_new h6 f7 e8 (Or.inr ⟨10, rfl⟩)
  refine ⟨by unfold hasO; rw [h8.1]; exact List.mem_append_left _ (List.mem_append_left _ (List.mem_append_left _ m0)), fun S9 e9 => ?_⟩
  replace h := h S9 e9
  have h9 := WTe_r (f := 60) h8 e9 (List.mem_append_right _ (List.mem_singleton.mpr rfl))
  have mq : (q, Sum.inl 9) ∈ d ++ [(q, (Sum.inl 9 : cK))] ++ [(q1, (Sum.inr (12, 0) : cK))] ++ [(q4, (Sum.inr (10, 0) : cK))] ++ [(q7, (Sum.inr (10, 0) : cK))] := List.mem_append_left _ (List.mem_append_left _ (List.mem_append_left _ m0))
  refine ⟨by unfold hasO; rw [h9.1]; exact mq, fun S10 e10 => ?_⟩
  replace h := h S10 e10
  have n7 : q ≠ q7 := fun hq => f7 (Sum.inl 9) (by rw [← hq, h6.1]; exact List.mem_append_left _ (List.mem_append_left _ m0))
  have n4 : q ≠ q4 := fun hq => f4 (Sum.inl 9) (by rw [← hq, h3.1]; exact List.mem_append_left _ m0)
  have k60 : S9.2.1 60 q = some q7 := by rw [e9, cR_key, if_pos rfl, if_pos rfl]
  have k59 : S9.2.1 59 q = some q4 := by
    rw [e9, cR_key, if_pos rfl, if_neg (by decide), e8]
    show (if q = q7 then none else S6.2.1 59 q) = _
    rw [if_neg n7, e6, cR_key, if_pos rfl, if_pos rfl]
  have k58 : S9.2.1 58 q = some q1 := by
    rw [e9, cR_key, if_pos rfl, if_neg (by decide), e8]
    show (if q = q7 then none else S6.2.1 58 q) = _
    rw [if_neg n7, e6, cR_key, if_pos rfl, if_neg (by decide), e5]
    show (if q = q4 then none else S3.2.1 58 q) = _
    rw [if_neg n4, e3, cR_key, if_pos rfl, if_pos rfl]
  have hw9 : WT _ S9 := ⟨h9.1, h9.2.1, fun f a hfi ha hz => by
    by_cases hq : a = q
    · subst hq
      have hc : (fTy f).1 = 9 := Sum.inl.inj (h9.2.2.2.2.2 a _ _ ha mq)
      have hall : ∀ g ∈ finL, (fTy g).1 = 9 → g = 58 ∨ g = 59 ∨ g = 60 := by decide
      rcases hall f hfi hc with rfl | rfl | rfl
      · rw [k58] at hz; cases hz
      · rw [k59] at hz; cases hz
      · rw [k60] at hz; cases hz
    · exact h9.2.2.1 f a hq hfi ha hz, h9.2.2.2⟩
  exact hk _ S10 (fun y hy => List.mem_append_left _ (List.mem_append_left _ (List.mem_append_left _ (List.mem_append_left _ hy)))) (WT_i hw9 e10) mq h
