
theorem w_not {x z : Int32} (e : z = x ^^^ (-1)) (h : -100000 ≤ x.toInt ∧ x.toInt ≤ 100000) : z.toInt = -1 - x.toInt := by
  rw [e, Int32.xor_neg_one, Int32.toInt_not, ti_bm ⟨by omega, by omega⟩]
  omega
theorem on_none {x : Option Nat} (h : ∀ p, x = some p → False) : x = none := by
  cases hx : x with
  | none => rfl
  | some p => exact absurd (h p hx) (fun q => q)
theorem AGE_c {n c c1 : Int} {f f1 : Nat → Int32} (h : AGE n c f) (hc : c1 = c) (e : ∀ i, f1 i = f i) : AGE n c1 f1 := by
  subst hc
  exact ⟨h.1, h.2.1, fun i hi => by rw [e i]; exact h.2.2 i hi⟩
/-- the lines of a state -/
def LNS (N : Nat → Prop) (LL : Nat → List Nat) (S : kS) (x : Option Nat) : Prop := ∃ Q, LNI N LL Q (S.2.1 12) (S.2.1 13) (S.2.1 25) (S.2.1 26) (S.2.1 27) (S.1 13) x
/-- the statuses: what comes or is let go does not pend again; only those of a -/
def STM (l : List Nat) (S S1 : kS) : Prop := ∀ p, S1.1 13 p = S.1 13 p ∨ (p ∈ l ∧ S1.1 13 p ≠ 0)
theorem STM_rf {l : List Nat} {S : kS} : STM l S S := fun _ => Or.inl rfl
theorem STM_tr {l : List Nat} {S S1 S2 : kS} (h : STM l S S1) (h1 : STM l S1 S2) : STM l S S2 := fun p => by
  rcases h1 p with e | e
  · rcases h p with e2 | e2
    · exact Or.inl (e.trans e2)
    · exact Or.inr ⟨e2.1, by rw [e]; exact e2.2⟩
  · exact Or.inr e
theorem STM_n {l : List Nat} {S S1 : kS} (h : STM l S S1) {p : Nat} (hp : S.1 13 p ≠ 0) : S1.1 13 p ≠ 0 := by
  rcases h p with e | e
  · rw [e]; exact hp
  · exact e.2
theorem STM_w {l : List Nat} {S S1 : kS} {p : Nat} {v : Int32} (hp : p ∈ l) (hv : v ≠ 0) (e : S1 = cI S 13 p v) : STM l S S1 := fun q => by
  rw [e, k_ii]
  rcases Decidable.em (q = p) with c | c
  · rw [if_pos ⟨rfl, c⟩, c]
    exact Or.inr ⟨hp, hv⟩
  · rw [if_neg (fun h => c h.2)]
    exact Or.inl rfl
theorem STM_e {l : List Nat} {S S1 S2 : kS} (h : STM l S S1) (e : ∀ o, S2.1 13 o = S1.1 13 o) : STM l S S2 := fun q => by rw [e q]; exact h q
theorem LNS_e {N : Nat → Prop} {LL : Nat → List Nat} {S S1 : kS} {x : Option Nat} (h : LNS N LL S x) (e12 : S1.2.1 12 = S.2.1 12) (e13 : S1.2.1 13 = S.2.1 13) (e25 : S1.2.1 25 = S.2.1 25) (e26 : S1.2.1 26 = S.2.1 26) (e27 : S1.2.1 27 = S.2.1 27) (e : S1.1 13 = S.1 13) : LNS N LL S1 x := by
  unfold LNS
  rw [e12, e13, e25, e26, e27, e]
  exact h
theorem LNS_i {N : Nat → Prop} {LL : Nat → List Nat} {S S1 : kS} {x : Option Nat} {f o : Nat} {v : Int32} (h : LNS N LL S x) (hf : f ≠ 13) (e : S1 = cI S f o v) : LNS N LL S1 x := by
  subst e
  refine LNS_e h rfl rfl rfl rfl rfl ?_
  funext q
  rw [k_ii, if_neg (fun c => hf c.1.symm)]
theorem LNS_w {N : Nat → Prop} {LL : Nat → List Nat} {S S1 : kS} {p : Nat} {v : Int32} (h : LNS N LL S none) (e : S1 = cI S 13 p v) : LNS N LL S1 (some p) := by
  subst e
  obtain ⟨Q, h⟩ := h
  exact ⟨Q, LNI_st h (fun q hq => by rw [k_ii, if_neg (fun c => hq c.2)])⟩
theorem LNS_h {N : Nat → Prop} {LL : Nat → List Nat} {S S1 : kS} {p : Nat} (h : LNS N LL S none) (e12 : S1.2.1 12 = S.2.1 12) (e13 : S1.2.1 13 = S.2.1 13) (e25 : S1.2.1 25 = S.2.1 25) (e26 : S1.2.1 26 = S.2.1 26) (e27 : S1.2.1 27 = S.2.1 27) (e : ∀ o, o ≠ p → S1.1 13 o = S.1 13 o) : LNS N LL S1 (some p) := by
  obtain ⟨Q, h⟩ := h
  unfold LNS
  rw [e12, e13, e25, e26, e27]
  exact ⟨Q, LNI_st h e⟩
theorem LNS_no {N : Nat → Prop} {LL : Nat → List Nat} {S : kS} {p : Nat} (h : LNS N LL S (some p)) (e : S.2.1 25 p = none) : LNS N LL S none := by
  obtain ⟨Q, h⟩ := h
  exact ⟨Q, LNI_no h e⟩
theorem LNS_self {N : Nat → Prop} {LL : Nat → List Nat} {S : kS} {x : Option Nat} {p l t : Nat} (h : LNS N LL S x) (hp : p ∈ LL t) (hl : S.2.1 25 p = some l) : S.2.1 26 p ≠ some p ∧ S.2.1 27 p ≠ some p := by
  obtain ⟨Q, h⟩ := h
  exact LNI_self h hp hl
def RMV (l p : Nat) (S S1 : kS) : Prop := (∀ x, S1.2.1 27 x = if x = p then none else if S.2.1 26 p = some x then S.2.1 27 p else S.2.1 27 x) ∧ (∀ x, S1.2.1 26 x = if x = p then none else if S.2.1 27 p = some x then S.2.1 26 p else S.2.1 26 x) ∧ (∀ x, S1.2.1 25 x = if x = p then none else S.2.1 25 x) ∧ (∀ x, S1.2.1 12 x = if x = l ∧ S.2.1 26 p = none then S.2.1 27 p else S.2.1 12 x) ∧ (∀ x, S1.2.1 13 x = if x = l ∧ S.2.1 27 p = none then S.2.1 26 p else S.2.1 13 x)
theorem LNS_rm {N : Nat → Prop} {LL : Nat → List Nat} {S S1 : kS} {p l t : Nat} (h : LNS N LL S (some p)) (hp : p ∈ LL t) (hl : S.2.1 25 p = some l) (r : RMV l p S S1) (e : S1.1 13 = S.1 13) : LNS N LL S1 none := by
  obtain ⟨Q, h⟩ := h
  obtain ⟨e27, e26, e25, e12, e13⟩ := r
  obtain ⟨Q1, h1⟩ := LNI_rm h hp hl e27 e26 e25 e12 e13
  exact ⟨Q1, by rw [e]; exact h1⟩
/-- what drop has done behind d -/
def DST (n : Int) (N : Nat → Prop) (LL : Nat → List Nat) (h a : Nat) (P A : Prop) (d : List Nat) (S Sx : kS) : Prop := LNS N LL Sx none ∧ AGE n (Sx.1 5 h).toInt (ar Sx 10 h) ∧ (S.1 5 h).toInt ≤ (Sx.1 5 h).toInt ∧ STM (LL a) S Sx ∧ (P → ∀ p, p ∈ d → Sx.1 13 p ≠ 0) ∧ (∀ o, Sx.1 28 o = S.1 28 o) ∧ (A → ∀ p, S.2.1 23 p = none → Sx.1 13 p = S.1 13 p)
theorem DST_0 {n : Int} {N : Nat → Prop} {LL : Nat → List Nat} {h a : Nat} {P A : Prop} {S : kS} (hL : LNS N LL S none) (hG : AGE n (S.1 5 h).toInt (ar S 10 h)) : DST n N LL h a P A [] S S := ⟨hL, hG, Int.le_refl _, STM_rf, fun _ _ hp => absurd hp List.not_mem_nil, fun _ => rfl, fun _ _ _ => rfl⟩
theorem DST_e {n : Int} {N : Nat → Prop} {LL : Nat → List Nat} {h a x : Nat} {P A : Prop} {d : List Nat} {S Sx : kS} (g : DST n N LL h a P A d S Sx) (hx : P → Sx.1 13 x ≠ 0) : DST n N LL h a P A (d ++ [x]) S Sx := ⟨g.1, g.2.1, g.2.2.1, g.2.2.2.1, fun hP p hp => by
  rcases List.mem_append.mp hp with hp | hp
  · exact g.2.2.2.2.1 hP p hp
  · rcases List.mem_cons.mp hp with hp | hp
    · rw [hp]; exact hx hP
    · exact absurd hp List.not_mem_nil, g.2.2.2.2.2⟩
/-- one more status is set, and the part is out of its line -/
theorem DST_w {n : Int} {N : Nat → Prop} {LL : Nat → List Nat} {h a x : Nat} {P A : Prop} {d : List Nat} {v : Int32} {S Sx S8 S9 : kS} (g : DST n N LL h a P A d S Sx) (hx : x ∈ LL a) (hA : A → S.2.1 23 x ≠ none) (hv : v ≠ 0) (e8 : S8 = cI Sx 13 x v) (hL : LNS N LL S9 none) (e5 : S9.1 5 = S8.1 5) (e13 : S9.1 13 = S8.1 13) (e28 : S9.1 28 = S8.1 28) (e10 : ∀ j, ar S9 10 h j = ar S8 10 h j) : DST n N LL h a P A d S S9 ∧ S9.1 13 x ≠ 0 := by
  have s8 : STM (LL a) Sx S8 := STM_w hx hv e8
  have s9 : STM (LL a) Sx S9 := STM_e s8 (fun o => congrFun e13 o)
  have c5 : S9.1 5 h = Sx.1 5 h := by rw [e5, e8, k_ii, if_neg (fun c => by cases c.1)]
  have a10 : ∀ j, ar S9 10 h j = ar Sx 10 h j := fun j => by rw [e10 j, e8]; rfl
  refine ⟨⟨hL, AGE_c g.2.1 (by rw [c5]) a10, by rw [c5]; exact g.2.2.1, STM_tr g.2.2.2.1 s9, fun hP p hp => STM_n s9 (g.2.2.2.2.1 hP p hp), fun o => by rw [e28, e8, k_ii, if_neg (fun c => by cases c.1)]; exact g.2.2.2.2.2.1 o, fun hA9 p hp => by rw [e13, e8, k_ii, if_neg (fun c => hA hA9 (by rw [← c.2]; exact hp))]; exact g.2.2.2.2.2.2 hA9 p hp⟩, ?_⟩
  rw [e13, e8, k_ii, if_pos ⟨rfl, rfl⟩]
  exact hv
theorem DST_p {n : Int} {N : Nat → Prop} {LL : Nat → List Nat} {h a : Nat} {P A : Prop} {d : List Nat} {S Sx S9 : kS} (g : DST n N LL h a P A d S Sx) (hG : AGE n (S9.1 5 h).toInt (ar S9 10 h) ∧ (Sx.1 5 h).toInt ≤ (S9.1 5 h).toInt) (e12 : S9.2.1 12 = Sx.2.1 12) (e13 : S9.2.1 13 = Sx.2.1 13) (e25 : S9.2.1 25 = Sx.2.1 25) (e26 : S9.2.1 26 = Sx.2.1 26) (e27 : S9.2.1 27 = Sx.2.1 27) (e : S9.1 13 = Sx.1 13) (e28 : S9.1 28 = Sx.1 28) : DST n N LL h a P A d S S9 := ⟨LNS_e g.1 e12 e13 e25 e26 e27 e, hG.1, Int.le_trans g.2.2.1 hG.2, STM_e g.2.2.2.1 (fun o => congrFun e o), fun hP p hp => by rw [e]; exact g.2.2.2.2.1 hP p hp, fun o => by rw [e28]; exact g.2.2.2.2.2.1 o, fun hA9 p hp => by rw [e]; exact g.2.2.2.2.2.2 hA9 p hp⟩
