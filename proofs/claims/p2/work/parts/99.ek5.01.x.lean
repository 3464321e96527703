
def qup (Q : Nat → List Nat) (l : Nat) (v : List Nat) : Nat → List Nat := fun y => if y = l then v else Q y
theorem qup_at {Q : Nat → List Nat} {l : Nat} {v : List Nat} : qup Q l v l = v := if_pos rfl
theorem qup_ne {Q : Nat → List Nat} {l y : Nat} {v : List Nat} (h : y ≠ l) : qup Q l v y = Q y := if_neg h
theorem mem_sp {a : Nat} : ∀ {l : List Nat}, a ∈ l → ∃ l1 l2, l = l1 ++ a :: l2
  | [], h => absurd h List.not_mem_nil
  | b :: r, h => by
    rcases List.mem_cons.mp h with e | e
    · exact ⟨[], r, by rw [e]; rfl⟩
    · obtain ⟨l1, l2, e2⟩ := mem_sp e
      exact ⟨b :: l1, l2, by rw [e2]; rfl⟩
theorem rmA_x {ah be : Nat → Option Nat} {p y : Nat} : rmA ah be p y = if be p = some y then ah p else ah y := by
  unfold rmA
  cases hb : be p with
  | none => rw [if_neg (fun h => by cases h)]
  | some c =>
    show fu ah c (ah p) y = _
    rw [fu_x]
    rcases Decidable.em (y = c) with h | h
    · rw [if_pos h, if_pos (by rw [h])]
    · rw [if_neg h, if_neg (fun q => h (Option.some.inj q).symm)]
theorem rmB_x {ah be : Nat → Option Nat} {p y : Nat} : rmB ah be p y = if ah p = some y then be p else be y := by
  unfold rmB
  cases hb : ah p with
  | none => rw [if_neg (fun h => by cases h)]
  | some c =>
    show fu be c (be p) y = _
    rw [fu_x]
    rcases Decidable.em (y = c) with h | h
    · rw [if_pos h, if_pos (by rw [h])]
    · rw [if_neg h, if_neg (fun q => h (Option.some.inj q).symm)]
theorem hdo_mem {l : List Nat} {q : Nat} (h : hdo l none = some q) : q ∈ l := by
  obtain ⟨r, e⟩ := hdo_some h
  rw [e]
  exact List.mem_cons_self ..
theorem lso_mem {l : List Nat} {q : Nat} (h : lso l none = some q) : q ∈ l := by
  obtain ⟨r, e⟩ := lso_end h
  rw [e]
  exact List.mem_append_right _ (List.mem_cons_self ..)
/-- the lines: N l, l is one; Q l its parts, each of which lies in L of a task and is pending (but x) -/
def LNI (N : Nat → Prop) (L Q : Nat → List Nat) (fi la ln ah be : Nat → Option Nat) (st : Nat → Int32) (x : Option Nat) : Prop :=
  (∀ l, N l → DL ah be none (Q l) none ∧ fi l = hdo (Q l) none ∧ la l = lso (Q l) none ∧ (Q l).Nodup) ∧ (∀ l p, p ∈ Q l → N l ∧ ln p = some l ∧ (∃ t, p ∈ L t) ∧ (st p = 0 ∨ x = some p)) ∧ (∀ t p l, p ∈ L t → ln p = some l → p ∈ Q l)
theorem LNI_st {N : Nat → Prop} {L Q : Nat → List Nat} {fi la ln ah be : Nat → Option Nat} {st st1 : Nat → Int32} {p : Nat} (h : LNI N L Q fi la ln ah be st none) (e : ∀ q, q ≠ p → st1 q = st q) : LNI N L Q fi la ln ah be st1 (some p) := by
  refine ⟨h.1, fun l q hq => ?_, h.2.2⟩
  obtain ⟨h1, h2, h3, h4⟩ := h.2.1 l q hq
  refine ⟨h1, h2, h3, ?_⟩
  rcases Decidable.em (q = p) with c | c
  · exact Or.inr (by rw [c])
  · rcases h4 with h4 | h4
    · exact Or.inl (by rw [e q c]; exact h4)
    · cases h4
theorem LNI_no {N : Nat → Prop} {L Q : Nat → List Nat} {fi la ln ah be : Nat → Option Nat} {st : Nat → Int32} {p : Nat} (h : LNI N L Q fi la ln ah be st (some p)) (e : ln p = none) : LNI N L Q fi la ln ah be st none := by
  refine ⟨h.1, fun l q hq => ?_, h.2.2⟩
  obtain ⟨h1, h2, h3, h4⟩ := h.2.1 l q hq
  refine ⟨h1, h2, h3, ?_⟩
  rcases h4 with h4 | h4
  · exact Or.inl h4
  · have e2 : p = q := Option.some.inj h4
    rw [← e2, e] at h2
    cases h2
theorem LNI_z {N : Nat → Prop} {L Q : Nat → List Nat} {fi la ln ah be : Nat → Option Nat} {st : Nat → Int32} {x : Option Nat} (h : LNI N L Q fi la ln ah be st x) (e : ∀ p, x = some p → st p = 0) : LNI N L Q fi la ln ah be st none := by
  refine ⟨h.1, fun l q hq => ?_, h.2.2⟩
  obtain ⟨h1, h2, h3, h4⟩ := h.2.1 l q hq
  refine ⟨h1, h2, h3, ?_⟩
  rcases h4 with h4 | h4
  · exact Or.inl h4
  · exact Or.inl (e q h4)
theorem LNI_rm {N : Nat → Prop} {L Q : Nat → List Nat} {fi la ln ah be fi1 la1 ln1 ah1 be1 : Nat → Option Nat} {st : Nat → Int32} {p l t : Nat} (h : LNI N L Q fi la ln ah be st (some p)) (hp : p ∈ L t) (hl : ln p = some l)
    (e27 : ∀ x, be1 x = if x = p then none else if ah p = some x then be p else be x) (e26 : ∀ x, ah1 x = if x = p then none else if be p = some x then ah p else ah x) (e25 : ∀ x, ln1 x = if x = p then none else ln x) (e12 : ∀ x, fi1 x = if x = l ∧ ah p = none then be p else fi x) (e13 : ∀ x, la1 x = if x = l ∧ be p = none then ah p else la x) : ∃ Q1, LNI N L Q1 fi1 la1 ln1 ah1 be1 st none := by
  have hpq := h.2.2 t p l hp hl
  obtain ⟨l1, l2, e⟩ := mem_sp hpq
  have hN := (h.2.1 l p hpq).1
  obtain ⟨hD, hf, hla, hn⟩ := h.1 l hN
  rw [e] at hD hf hla hn
  obtain ⟨r1, ra, rb⟩ := DL_rm hD hn
  have hn2 := List.nodup_append.mp hn
  have hn3 := List.nodup_cons.mp hn2.2.1
  have pn : p ∉ l1 ++ l2 := fun q => by
    rcases List.mem_append.mp q with q | q
    · exact hn2.2.2 p q p (List.mem_cons_self ..) rfl
    · exact hn3.1 q
  have inl : ∀ q, q ∈ l1 ++ l2 → q ∈ Q l := fun q hq => by
    rw [e]
    rcases List.mem_append.mp hq with hq | hq
    · exact List.mem_append_left _ hq
    · exact List.mem_append_right _ (List.mem_cons_of_mem _ hq)
  have lq : ∀ y q, q ∈ Q y → ln q = some y := fun y q hq => (h.2.1 y q hq).2.1
  have am : ∀ q, ah p = some q → q ∈ Q l := fun q hq => inl q (List.mem_append_left _ (lso_mem (ra.symm.trans hq)))
  have bm : ∀ q, be p = some q → q ∈ Q l := fun q hq => inl q (List.mem_append_right _ (hdo_mem (rb.symm.trans hq)))
  refine ⟨qup Q l (l1 ++ l2), fun y hy => ?_, fun y q hq => ?_, fun u q y hq hy => ?_⟩
  · rcases Decidable.em (y = l) with c | c
    · rw [c, qup_at]
      refine ⟨DL_eq (fun q hq => ?_) r1, ?_, ?_, ?_⟩
      · have qp : q ≠ p := fun c => pn (c ▸ hq)
        rw [e26 q, e27 q, if_neg qp, if_neg qp, rmA_x, rmB_x]
        exact ⟨rfl, rfl⟩
      · rw [e12 l, hf, ra, rb]
        cases l1 with
        | nil => rw [if_pos ⟨rfl, rfl⟩]; rfl
        | cons a r =>
          rw [if_neg (fun c => by
            have c2 : lso (a :: r) none = none := c.2
            have c3 := lso_nil c2
            cases c3)]
          rfl
      · rw [e13 l, hla, ra, rb]
        cases l2 with
        | nil => rw [if_pos ⟨rfl, rfl⟩, List.append_nil]
        | cons b r =>
          rw [if_neg (fun c => by
            have c2 : some b = none := c.2
            cases c2), lso_app, lso_app]
          rfl
      · refine List.nodup_append.mpr ⟨hn2.1, hn3.2, fun a ha b hb => hn2.2.2 a ha b (List.mem_cons_of_mem _ hb)⟩
    · rw [qup_ne c]
      obtain ⟨g1, g2, g3, g4⟩ := h.1 y hy
      refine ⟨DL_eq (fun q hq => ?_) g1, ?_, ?_, g4⟩
      · have ly := lq y q hq
        have qp : q ≠ p := fun c9 => by
          rw [c9, hl] at ly
          exact c (Option.some.inj ly).symm
        have qa9 : ah p ≠ some q := fun c9 => c (Option.some.inj (ly.symm.trans (lq l q (am q c9))))
        have qb9 : be p ≠ some q := fun c9 => c (Option.some.inj (ly.symm.trans (lq l q (bm q c9))))
        rw [e26 q, e27 q, if_neg qp, if_neg qp, if_neg qa9, if_neg qb9]
        exact ⟨rfl, rfl⟩
      · rw [e12 y, if_neg (fun c9 => c c9.1)]
        exact g2
      · rw [e13 y, if_neg (fun c9 => c c9.1)]
        exact g3
  · have key : q ∈ Q y ∧ q ≠ p := by
      rcases Decidable.em (y = l) with c | c
      · rw [c, qup_at] at hq
        rw [c]
        exact ⟨inl q hq, fun c9 => pn (c9 ▸ hq)⟩
      · rw [qup_ne c] at hq
        refine ⟨hq, fun c9 => ?_⟩
        have ly := lq y q hq
        rw [c9, hl] at ly
        exact c (Option.some.inj ly).symm
    obtain ⟨h1, h2, h3, h4⟩ := h.2.1 y q key.1
    refine ⟨h1, by rw [e25 q, if_neg key.2]; exact h2, h3, ?_⟩
    rcases h4 with h4 | h4
    · exact Or.inl h4
    · exact absurd (Option.some.inj h4).symm key.2
  · have qp : q ≠ p := fun c9 => by
      rw [e25 q, if_pos c9] at hy
      cases hy
    rw [e25 q, if_neg qp] at hy
    have hm := h.2.2 u q y hq hy
    rcases Decidable.em (y = l) with c | c
    · rw [c, qup_at]
      rw [c, e] at hm
      rcases List.mem_append.mp hm with hm | hm
      · exact List.mem_append_left _ hm
      · rcases List.mem_cons.mp hm with hm | hm
        · exact absurd hm qp
        · exact List.mem_append_right _ hm
    · rw [qup_ne c]
      exact hm
theorem LNI_self {N : Nat → Prop} {L Q : Nat → List Nat} {fi la ln ah be : Nat → Option Nat} {st : Nat → Int32} {x : Option Nat} {p l t : Nat} (h : LNI N L Q fi la ln ah be st x) (hp : p ∈ L t) (hl : ln p = some l) : ah p ≠ some p ∧ be p ≠ some p := by
  have hpq := h.2.2 t p l hp hl
  obtain ⟨l1, l2, e⟩ := mem_sp hpq
  have hN := (h.2.1 l p hpq).1
  obtain ⟨hD, hf, hla, hn⟩ := h.1 l hN
  rw [e] at hD hn
  obtain ⟨r1, ra, rb⟩ := DL_rm hD hn
  have hn2 := List.nodup_append.mp hn
  have hn3 := List.nodup_cons.mp hn2.2.1
  exact ⟨fun c => hn2.2.2 p (lso_mem (ra.symm.trans c)) p (List.mem_cons_self ..) rfl, fun c => hn3.1 (hdo_mem (rb.symm.trans c))⟩
theorem LNI_ad {N : Nat → Prop} {L Q : Nat → List Nat} {fi la ln ah be fi1 la1 ln1 ah1 be1 : Nat → Option Nat} {st : Nat → Int32} {p l t : Nat} {l1 l2 : List Nat} (h : LNI N L Q fi la ln ah be st none) (hN : N l) (hp : p ∈ L t) (hl : ln p = none) (hs : st p = 0) (e : Q l = l1 ++ l2)
    (e26 : ∀ x, ah1 x = adA (fu ah p (lso l1 none)) (hdo l2 none) p x) (e27 : ∀ x, be1 x = adB (fu be p (hdo l2 none)) (lso l1 none) p x) (e25 : ∀ x, ln1 x = if x = p then some l else ln x) (e12 : ∀ x, fi1 x = if x = l ∧ lso l1 none = none then some p else fi x) (e13 : ∀ x, la1 x = if x = l ∧ hdo l2 none = none then some p else la x) : ∃ Q1, LNI N L Q1 fi1 la1 ln1 ah1 be1 st none := by
  obtain ⟨hD, hf, hla, hn⟩ := h.1 l hN
  rw [e] at hD hf hla hn
  have lq : ∀ y q, q ∈ Q y → ln q = some y := fun y q hq => (h.2.1 y q hq).2.1
  have pq : ∀ y, p ∉ Q y := fun y hq => by
    have := lq y p hq
    rw [hl] at this
    cases this
  have pn : p ∉ l1 ++ l2 := by rw [← e]; exact pq l
  have hn2 := List.nodup_append.mp hn
  have d := DL_ad hD hn pn
  refine ⟨qup Q l (l1 ++ p :: l2), fun y hy => ?_, fun y q hq => ?_, fun u q y hq hy => ?_⟩
  · rcases Decidable.em (y = l) with c | c
    · rw [c, qup_at]
      refine ⟨DL_eq (fun q hq => ⟨e26 q, e27 q⟩) d, ?_, ?_, ?_⟩
      · rw [e12 l, hf]
        cases l1 with
        | nil => rw [if_pos ⟨rfl, rfl⟩]; rfl
        | cons a r =>
          rw [if_neg (fun c => by
            have c2 : lso (a :: r) none = none := c.2
            have c3 := lso_nil c2
            cases c3)]
          rfl
      · rw [e13 l, hla]
        cases l2 with
        | nil =>
          rw [if_pos ⟨rfl, rfl⟩, lso_app]
          rfl
        | cons b r =>
          rw [if_neg (fun c => by
            have c2 : some b = none := c.2
            cases c2), lso_app, lso_app]
          rfl
      · refine List.nodup_append.mpr ⟨hn2.1, List.nodup_cons.mpr ⟨fun q => pn (List.mem_append_right _ q), hn2.2.1⟩, fun a ha b hb c9 => ?_⟩
        rcases List.mem_cons.mp hb with hb | hb
        · exact pn (List.mem_append_left _ (by rw [← hb, ← c9]; exact ha))
        · exact hn2.2.2 a ha b hb c9
    · rw [qup_ne c]
      obtain ⟨g1, g2, g3, g4⟩ := h.1 y hy
      refine ⟨DL_eq (fun q hq => ?_) g1, ?_, ?_, g4⟩
      · have ly := lq y q hq
        have qp : q ≠ p := fun c9 => pq y (c9 ▸ hq)
        have ql : ∀ w, w ∈ l1 ++ l2 → w ≠ q := fun w hw c9 => by
          rw [← e, c9] at hw
          exact c (Option.some.inj (ly.symm.trans (lq l q hw)))
        have qa9 : hdo l2 none ≠ some q := fun c9 => ql q (List.mem_append_right _ (hdo_mem c9)) rfl
        have qb9 : lso l1 none ≠ some q := fun c9 => ql q (List.mem_append_left _ (lso_mem c9)) rfl
        rw [e26 q, e27 q, adA_x, adB_x, if_neg qa9, if_neg qb9, fu_ne qp, fu_ne qp]
        exact ⟨rfl, rfl⟩
      · rw [e12 y, if_neg (fun c9 => c c9.1)]
        exact g2
      · rw [e13 y, if_neg (fun c9 => c c9.1)]
        exact g3
  · rcases Decidable.em (q = p) with c9 | c9
    · have yl : y = l := by
        rcases Decidable.em (y = l) with c | c
        · exact c
        · rw [qup_ne c, c9] at hq
          exact absurd hq (pq y)
      rw [yl, c9]
      exact ⟨hN, by rw [e25 p, if_pos rfl], ⟨t, hp⟩, Or.inl hs⟩
    · have key : q ∈ Q y := by
        rcases Decidable.em (y = l) with c | c
        · rw [c, qup_at] at hq
          rw [c, e]
          rcases List.mem_append.mp hq with hq | hq
          · exact List.mem_append_left _ hq
          · rcases List.mem_cons.mp hq with hq | hq
            · exact absurd hq c9
            · exact List.mem_append_right _ hq
        · rw [qup_ne c] at hq
          exact hq
      obtain ⟨h1, h2, h3, h4⟩ := h.2.1 y q key
      exact ⟨h1, by rw [e25 q, if_neg c9]; exact h2, h3, h4⟩
  · rcases Decidable.em (q = p) with c9 | c9
    · rw [e25 q, if_pos c9] at hy
      rw [← Option.some.inj hy, qup_at, c9]
      exact List.mem_append_right _ (List.mem_cons_self ..)
    · rw [e25 q, if_neg c9] at hy
      have hm := h.2.2 u q y hq hy
      rcases Decidable.em (y = l) with c | c
      · rw [c, qup_at]
        rw [c, e] at hm
        rcases List.mem_append.mp hm with hm | hm
        · exact List.mem_append_left _ hm
        · exact List.mem_append_right _ (List.mem_cons_of_mem _ hm)
      · rw [qup_ne c]
        exact hm
