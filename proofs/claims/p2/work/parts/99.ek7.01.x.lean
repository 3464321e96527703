
/-- what two states share, by fields -/
def HF (zi zr fa fq : List Nat) (S S1 : kS) : Prop := (∀ f, f ∉ zi → S1.1 f = S.1 f) ∧ (∀ f, f ∉ zr → S1.2.1 f = S.2.1 f) ∧ (∀ f, f ∉ fa → ar S1 f = ar S f) ∧ (∀ f, f ∉ fq → qa S1 f = qa S f) ∧ S1.2.2.2.2.2 = S.2.2.2.2.2
theorem HF_k {zi zr fa fl fq : List Nat} {S S1 : kS} (hF : KF zi zr fa fl fq S S1) (hI : INJ S) (hz : dis9 arrL zr = true) (ha : sub9 fa arrL = true) (hq : sub9 fq arrL = true) : HF zi zr fa fq S S1 := ⟨hF.1, hF.2.1, fun f hf => by
  funext a j
  exact KF_ar hF hI hz ha hf a j, fun f hf => by
  funext a j
  exact KF_qa hF hI hz hq hf a j, hF.2.2.2.2.2⟩
theorem HF_i {S S1 : kS} {f o : Nat} {v : Int32} (e : S1 = cI S f o v) : HF [f] [] [] [] S S1 := by
  subst e
  refine ⟨fun g hg => ?_, fun _ _ => rfl, fun _ _ => rfl, fun _ _ => rfl, rfl⟩
  funext b
  rw [k_ii, if_neg (fun c => hg (by rw [c.1]; exact List.mem_cons_self ..))]
section HGs
variable {S S1 : kS} {h t : Nat} {N T G : Nat → Prop} {U : List Nat} {L : Nat → List Nat} {D : Nat → Nat} {P : Nat → Int32}
/-- t is one of the tasks; a task that the program has begun -/
def tk (S : kS) (h t : Nat) : Prop := ∃ i : Nat, i < 200 ∧ qa S 3 h i = some t
def tl (S : kS) (h t : Nat) : Prop := ∃ i : Nat, (i : Int) < (S.1 1 h).toInt ∧ qa S 3 h i = some t
theorem tk_e (e3 : qa S1 3 = qa S 3) : tk S1 h = tk S h := by unfold tk; rw [e3]
theorem tl_e (e1 : S1.1 1 = S.1 1) (e3 : qa S1 3 = qa S 3) : tl S1 h = tl S h := by unfold tl; rw [e1, e3]
def TKA (S : kS) (h : Nat) : Prop := 0 ≤ (S.1 1 h).toInt ∧ (S.1 1 h).toInt ≤ 200 ∧ (∀ i : Nat, (i : Int) < (S.1 1 h).toInt → ∃ t, qa S 3 h i = some t) ∧ ∀ (i t : Nat), i < 200 → qa S 3 h i = some t → (S.1 28 t).toInt = i
theorem TKA_e (g : TKA S h) (e1 : S1.1 1 = S.1 1) (e28 : S1.1 28 = S.1 28) (e3 : qa S1 3 = qa S 3) : TKA S1 h := by unfold TKA; rw [e1, e28, e3]; exact g
def PAI (S : kS) (h : Nat) (U : List Nat) (L : Nat → List Nat) (D : Nat → Nat) : Prop := CH (S.2.1 24) (S.2.1 11 h) U ∧ U.Nodup ∧ (∀ t, tk S h t → CH (S.2.1 24) (S.2.1 61 t) (L t) ∧ (∀ q, S.2.1 62 t = some q → q ∈ L t ∧ S.2.1 23 q = none) ∧ (∀ q, S.2.1 63 t = some q → q ∈ L t)) ∧ (∀ t, (L t).Nodup) ∧ (∀ t p, p ∈ L t → p ∉ U) ∧ (∀ t u p, p ∈ L t → p ∈ L u → t = u) ∧ (∀ t p, p ∈ L t → tl S h t ∧ S.2.1 21 p = some t ∧ D p ≤ 10 ∧ (∀ q, S.2.1 23 p = some q → q ∈ L t ∧ D p = D q + 1) ∧ (S.2.1 23 p = none → S.2.1 62 t = some p)) ∧ (∀ p, p ∈ U → (p, Sum.inl 4) ∈ S.2.2.2.2.2) ∧ (∀ t p, p ∈ L t → (p, Sum.inl 4) ∈ S.2.2.2.2.2)
theorem PAI_e (g : PAI S h U L D) (e11 : S1.2.1 11 = S.2.1 11) (e21 : S1.2.1 21 = S.2.1 21) (e23 : S1.2.1 23 = S.2.1 23) (e24 : S1.2.1 24 = S.2.1 24) (e61 : S1.2.1 61 = S.2.1 61) (e62 : S1.2.1 62 = S.2.1 62) (e63 : S1.2.1 63 = S.2.1 63) (e1 : S1.1 1 = S.1 1) (e3 : qa S1 3 = qa S 3) (ed : S1.2.2.2.2.2 = S.2.2.2.2.2) : PAI S1 h U L D := by
  unfold PAI
  rw [e11, e21, e23, e24, e61, e62, e63, ed, tk_e e3, tl_e e1 e3]
  exact g
/-- the states of tasks: who is in the row, waits for children or has got its wait's outcome has no pending part; T: it stands at a STAND or has not begun -/
def SGI (S : kS) (h : Nat) (T G : Nat → Prop) (L : Nat → List Nat) : Prop := ∀ t, G t → tl S h t → ((S.1 30 t = 0 ∨ S.1 30 t = 2 ∨ (S.1 30 t = 1 ∧ S.1 38 t ≠ 0)) → ∀ p, p ∈ L t → S.1 13 p ≠ 0) ∧ ((S.1 30 t = 0 ∨ S.1 30 t = 1 ∨ S.1 30 t = 2) → (S.1 38 t = 0 ∨ S.1 38 t = 1) → T t)
def ASI (S : kS) (h : Nat) (L : Nat → List Nat) : Prop := (∀ t p, tl S h t → S.2.1 57 t = some p → (∃ u, p ∈ L u) ∨ (S.1 13 p ≠ 0 ∧ (p, Sum.inl 4) ∈ S.2.2.2.2.2)) ∧ (∀ t u, tl S h t → S.2.1 56 t = some u → tl S h u) ∧ (∀ t p c, p ∈ L t → S.2.1 22 p = some c → tl S h c)
def RWN (c : Int) (f : Nat → Int32) : Prop := ∀ i j : Nat, (i : Int) < c → (j : Int) < c → f i = f j → i = j
def RWI (S : kS) (h : Nat) : Prop := ROE (S.1 1 h).toInt (S.1 3 h).toInt (ar S 4 h) ∧ RWN (S.1 3 h).toInt (ar S 4 h) ∧ ∀ (i t : Nat), (i : Int) < (S.1 3 h).toInt → qa S 3 h (ix (ar S 4 h i)) = some t → S.1 30 t = 0
def lcn (g : Nat → Int32) : Nat → Int
  | 0 => 0
  | n + 1 => lcn g n + (if g n = 0 then 0 else 1)
def cnc (S : kS) (h i : Nat) : Int32 := match qa S 3 h i with
  | some t => S.1 35 t
  | none => 0
def LSI (S : kS) (h : Nat) (P : Nat → Int32) : Prop := (∀ b, S.2.1 9 h = some b → 0 ≤ (S.1 0 b).toInt ∧ (S.1 0 b).toInt ≤ lcn (cnc S h) (S.1 1 h).toInt.toNat) ∧ ∀ o, (o, Sum.inl 0) ∈ S.2.2.2.2.2 → S.2.1 9 h ≠ some o → S.1 0 o = P o
def LTS (S : kS) (h : Nat) : Prop := ∀ b : Nat, b < 8 → 0 ≤ (ar S 6 h b).toInt ∧ (ar S 6 h b).toInt ≤ 50
def HI (h : Nat) (N T G : Nat → Prop) (U : List Nat) (L : Nat → List Nat) (D : Nat → Nat) (P : Nat → Int32) (S : kS) : Prop := TKA S h ∧ PAI S h U L D ∧ LNS N L S none ∧ SGI S h T G L ∧ ASI S h L ∧ RWI S h ∧ AGE (S.1 1 h).toInt (S.1 5 h).toInt (ar S 10 h) ∧ LSI S h P ∧ LTS S h
theorem SGI_m {l : List Nat} (g : SGI S h T G L) (m : STM l S S1) (e30 : S1.1 30 = S.1 30) (e38 : S1.1 38 = S.1 38) (e1 : S1.1 1 = S.1 1) (e3 : qa S1 3 = qa S 3) : SGI S1 h T G L := by
  unfold SGI
  rw [e30, e38, tl_e e1 e3]
  exact fun t hg ht => ⟨fun c p hp => STM_n m ((g t hg ht).1 c p hp), (g t hg ht).2⟩
theorem ASI_m {l : List Nat} (g : ASI S h L) (m : STM l S S1) (e57 : S1.2.1 57 = S.2.1 57) (e56 : S1.2.1 56 = S.2.1 56) (e22 : S1.2.1 22 = S.2.1 22) (e1 : S1.1 1 = S.1 1) (e3 : qa S1 3 = qa S 3) (ed : S1.2.2.2.2.2 = S.2.2.2.2.2) : ASI S1 h L := by
  unfold ASI
  rw [e57, e56, e22, tl_e e1 e3, ed]
  refine ⟨fun t p ht hp => ?_, g.2⟩
  rcases g.1 t p ht hp with c | c
  · exact Or.inl c
  · exact Or.inr ⟨STM_n m c.1, c.2⟩
theorem RWI_e (g : RWI S h) (e1 : S1.1 1 = S.1 1) (e3 : S1.1 3 = S.1 3) (e30 : S1.1 30 = S.1 30) (e4 : ar S1 4 = ar S 4) (eq3 : qa S1 3 = qa S 3) : RWI S1 h := by unfold RWI; rw [e1, e3, e30, e4, eq3]; exact g
theorem LSI_e (g : LSI S h P) (e0 : S1.1 0 = S.1 0) (e35 : S1.1 35 = S.1 35) (e1 : S1.1 1 = S.1 1) (e9 : S1.2.1 9 = S.2.1 9) (eq3 : qa S1 3 = qa S 3) (ed : S1.2.2.2.2.2 = S.2.2.2.2.2) : LSI S1 h P := by unfold LSI; unfold cnc; rw [e0, e35, e1, e9, eq3, ed]; exact g
theorem LTS_e (g : LTS S h) (e6 : ar S1 6 = ar S 6) : LTS S1 h := by unfold LTS; rw [e6]; exact g
/-- the live task of a number -/
theorem tl_n (g : TKA S h) (ht : tl S h t) : 0 ≤ (S.1 28 t).toInt ∧ (S.1 28 t).toInt < (S.1 1 h).toInt ∧ qa S 3 h (ix (S.1 28 t)) = some t := by
  obtain ⟨i, hi, hq⟩ := ht
  have g2 := g.2.1
  have e := g.2.2.2 i t (by omega) hq
  rw [ix_of e]
  exact ⟨by omega, by omega, hq⟩
theorem tl_i (g : TKA S h) {z : Int32} (h0 : 0 ≤ z.toInt) (h1 : z.toInt < (S.1 1 h).toInt) : ∃ t, qa S 3 h (ix z) = some t ∧ tl S h t ∧ S.1 28 t = z := by
  have ei := kx_int z h0
  obtain ⟨t, e⟩ := g.2.2.1 (ix z) (by omega)
  have g2 := g.2.1
  have e2 := g.2.2.2 (ix z) t (by omega) e
  exact ⟨t, e, ⟨ix z, by omega, e⟩, Int32.toInt_inj.mp (by omega)⟩
theorem tl_t (g : TKA S h) (ht : tl S h t) : tk S h t := by
  obtain ⟨i, hi, hq⟩ := ht
  have g2 := g.2.1
  exact ⟨i, by omega, hq⟩
/-- the row when a task enters it -/
def ENT (h a : Nat) (S S1 : kS) : Prop := (∀ o, S1.1 30 o = if o = a then 0 else S.1 30 o) ∧ (((S.1 3 h).toInt < 200 ∧ (S1.1 3 h).toInt = (S.1 3 h).toInt + 1 ∧ ∀ i, ar S1 4 h i = if i = ix (S.1 3 h) then S.1 28 a else ar S 4 h i) ∨ (S1.1 3 h = S.1 3 h ∧ ∀ i, ar S1 4 h i = ar S 4 h i))
theorem RWI_in (g : RWI S h) (gt : TKA S h) (ht : tl S h t) (hr : ∀ i : Nat, (i : Int) < (S.1 3 h).toInt → ar S 4 h i ≠ S.1 28 t) (p : ENT h t S S1) (e1 : S1.1 1 = S.1 1) (eq3 : qa S1 3 = qa S 3) : RWI S1 h := by
  obtain ⟨n0, n1, n2⟩ := tl_n gt ht
  obtain ⟨g1, g2, g3⟩ := g
  have c0 := g1.1
  have c1 := g1.2.1
  obtain ⟨p1, p2 | p2⟩ := p
  · obtain ⟨q0, q1, q2⟩ := p2
    have ei := kx_int (S.1 3 h) c0
    unfold RWI
    rw [e1, eq3]
    refine ⟨⟨by omega, by omega, fun i hi => ?_⟩, fun i j hi hj e => ?_, fun i u hi hu => ?_⟩
    · rw [q2 i]
      rcases Decidable.em (i = ix (S.1 3 h)) with c | c
      · rw [if_pos c]; exact ⟨n0, n1⟩
      · rw [if_neg c]; exact g1.2.2 i (by omega)
    · rw [q2 i, q2 j] at e
      rcases Decidable.em (i = ix (S.1 3 h)) with c | c
      · rcases Decidable.em (j = ix (S.1 3 h)) with d | d
        · rw [c, d]
        · rw [if_pos c, if_neg d] at e
          exact absurd e.symm (hr j (by omega))
      · rcases Decidable.em (j = ix (S.1 3 h)) with d | d
        · rw [if_neg c, if_pos d] at e
          exact absurd e (hr i (by omega))
        · rw [if_neg c, if_neg d] at e
          exact g2 i j (by omega) (by omega) e
    · rw [q2 i] at hu
      rw [p1 u]
      rcases Decidable.em (u = t) with d | d
      · rw [if_pos d]
      · rw [if_neg d]
        rcases Decidable.em (i = ix (S.1 3 h)) with c | c
        · rw [if_pos c, n2] at hu
          exact absurd (Option.some.inj hu).symm d
        · rw [if_neg c] at hu
          exact g3 i u (by omega) hu
  · obtain ⟨q1, q2⟩ := p2
    have e4 : ar S1 4 h = ar S 4 h := funext q2
    unfold RWI
    rw [e1, q1, e4, eq3]
    refine ⟨g1, g2, fun i u hi hu => ?_⟩
    rw [p1 u]
    rcases Decidable.em (u = t) with d | d
    · rw [if_pos d]
    · rw [if_neg d]; exact g3 i u hi hu
/-- who is not in the row by its state -/
theorem nr_s (g : RWI S h) (gt : TKA S h) (ht : tl S h t) (hs : S.1 30 t ≠ 0) : ∀ i : Nat, (i : Int) < (S.1 3 h).toInt → ar S 4 h i ≠ S.1 28 t := fun i hi e => by
  obtain ⟨n0, n1, n2⟩ := tl_n gt ht
  exact hs (g.2.2 i t hi (by rw [e]; exact n2))
/-- the row when the k-th leaves it -/
def LVE (h : Nat) (k : Int32) (S S1 : kS) (r : Option Nat) : Prop := (r = none ∧ ¬ (0 ≤ k.toInt ∧ k.toInt < (S.1 3 h).toInt) ∧ S1.1 3 h = S.1 3 h ∧ ∀ i, ar S1 4 h i = ar S 4 h i) ∨ (0 ≤ k.toInt ∧ k.toInt < (S.1 3 h).toInt ∧ r = qa S 3 h (ix (ar S 4 h (ix k))) ∧ (S1.1 3 h).toInt = (S.1 3 h).toInt - 1 ∧ ∀ i : Nat, (i : Int) < (S.1 3 h).toInt - 1 → ar S1 4 h i = ar S 4 h (if (i : Int) < k.toInt then i else i + 1))
theorem RWI_out {k : Int32} {r : Option Nat} (g : RWI S h) (p : LVE h k S S1 r) (e1 : S1.1 1 = S.1 1) (e30 : S1.1 30 = S.1 30) (eq3 : qa S1 3 = qa S 3) : RWI S1 h ∧ ∀ i : Nat, (i : Int) < (S1.1 3 h).toInt → (0 ≤ k.toInt ∧ k.toInt < (S.1 3 h).toInt → ar S1 4 h i ≠ ar S 4 h (ix k)) ∧ ∃ j : Nat, (j : Int) < (S.1 3 h).toInt ∧ ar S1 4 h i = ar S 4 h j := by
  obtain ⟨g1, g2, g3⟩ := g
  have c0 := g1.1
  have c1 := g1.2.1
  rcases p with ⟨_, k0, q1, q2⟩ | ⟨k0, k1, _, q1, q2⟩
  · have e4 : ar S1 4 h = ar S 4 h := funext q2
    refine ⟨by unfold RWI; rw [e1, q1, e4, eq3, e30]; exact ⟨g1, g2, g3⟩, fun i hi => ⟨fun c => absurd c k0, i, by rw [q1] at hi; exact hi, by rw [e4]⟩⟩
  · have ek := kx_int k k0
    have key : ∀ i : Nat, (i : Int) < (S1.1 3 h).toInt → ∃ j : Nat, (j : Int) < (S.1 3 h).toInt ∧ j ≠ ix k ∧ ar S1 4 h i = ar S 4 h j ∧ j = (if (i : Int) < k.toInt then i else i + 1) := fun i hi => by
      refine ⟨if (i : Int) < k.toInt then i else i + 1, ?_, ?_, q2 i (by omega), rfl⟩
      · split <;> omega
      · split <;> omega
    refine ⟨?_, fun i hi => ?_⟩
    · unfold RWI
      rw [e1, eq3, e30]
      refine ⟨⟨by omega, by omega, fun i hi => ?_⟩, fun i j hi hj e => ?_, fun i u hi hu => ?_⟩
      · obtain ⟨j, j0, _, j1, _⟩ := key i hi
        rw [j1]
        exact g1.2.2 j j0
      · obtain ⟨a, a0, _, a1, a2⟩ := key i hi
        obtain ⟨b, b0, _, b1, b2⟩ := key j hj
        have e9 := g2 a b a0 b0 (by rw [← a1, ← b1]; exact e)
        rw [a2, b2] at e9
        split at e9 <;> split at e9 <;> omega
      · obtain ⟨j, j0, _, j1, _⟩ := key i hi
        rw [j1] at hu
        exact g3 j u j0 hu
    · obtain ⟨j, j0, j2, j1, _⟩ := key i hi
      refine ⟨fun _ e => j2 (g2 j (ix k) j0 (by omega) (by rw [← j1]; exact e)), j, j0, j1⟩
theorem RWI_st {v : Int32} (g : RWI S h) (gt : TKA S h) (hr : v ≠ 0 → ∀ i : Nat, (i : Int) < (S.1 3 h).toInt → qa S 3 h (ix (ar S 4 h i)) ≠ some t) (e : S1 = cI S 30 t v) : RWI S1 h := by
  have f := HF_i e
  unfold RWI
  rw [f.1 1 (by decide), f.1 3 (by decide), f.2.2.1 4 (by decide), f.2.2.2.1 3 (by decide)]
  refine ⟨g.1, g.2.1, fun i u hi hu => ?_⟩
  rw [e, k_ii]
  rcases Decidable.em (u = t) with d | d
  · rw [if_pos ⟨rfl, d⟩]
    rcases Decidable.em (v = 0) with c | c
    · exact c
    · rw [d] at hu
      exact absurd hu (hr c i hi)
  · rw [if_neg (fun c => d c.2)]
    exact g.2.2 i u hi hu
theorem lcn_u {g g1 : Nat → Int32} {k : Nat} (ho : ∀ i, i ≠ k → g1 i = g i) (h0 : g k = 0) (h1 : g1 k ≠ 0) : ∀ n, lcn g1 n = lcn g n + if k < n then 1 else 0
  | 0 => by
    rw [if_neg (Nat.not_lt_zero k)]
    rfl
  | n + 1 => by
    show lcn g1 n + (if g1 n = 0 then 0 else 1) = lcn g n + (if g n = 0 then 0 else 1) + _
    rw [lcn_u ho h0 h1 n]
    rcases Decidable.em (n = k) with c | c
    · rw [c, if_neg h1, if_pos h0, if_neg (Nat.lt_irrefl k), if_pos (Nat.lt_succ_self k)]
    · rw [ho n c]
      rcases Decidable.em (k < n) with d | d
      · rw [if_pos d, if_pos (show k < n + 1 by omega)]
        omega
      · rw [if_neg d, if_neg (show ¬ k < n + 1 by omega)]
        omega
theorem lcn_b {g : Nat → Int32} : ∀ n, 0 ≤ lcn g n ∧ lcn g n ≤ n
  | 0 => ⟨Int.le_refl _, Int.le_refl _⟩
  | n + 1 => by
    have := lcn_b (g := g) n
    show 0 ≤ lcn g n + (if g n = 0 then 0 else 1) ∧ lcn g n + (if g n = 0 then 0 else 1) ≤ ((n + 1 : Nat) : Int)
    split <;> omega
theorem lcn_l {g : Nat → Int32} : ∀ {n : Nat}, n ≤ 200 → lcn (fun j => if j < 200 then g j else (0 : Int32)) n = lcn g n
  | 0, _ => rfl
  | n + 1, hn => by
    show lcn (fun j => if j < 200 then g j else (0 : Int32)) n + (if (if n < 200 then g n else (0 : Int32)) = 0 then 0 else 1) = lcn g n + (if g n = 0 then 0 else 1)
    rw [lcn_l (by omega), if_pos (show n < 200 by omega)]
/-- a task is cancelled: one more may be lost -/
theorem LSI_c (g : LSI S h P) (gt : TKA S h) (ht : tl S h t) (h0 : S.1 35 t = 0) (e : S1 = cI S 35 t 1) : (∀ b, S.2.1 9 h = some b → (S1.1 0 b).toInt + 1 ≤ lcn (cnc S1 h) (S1.1 1 h).toInt.toNat) ∧ LSI S1 h P := by
  have e0 : ∀ o, S1.1 0 o = S.1 0 o := fun o => by rw [e, k_ii, if_neg (fun c => by cases c.1)]
  have e1 : ∀ o, S1.1 1 o = S.1 1 o := fun o => by rw [e, k_ii, if_neg (fun c => by cases c.1)]
  have e9 : S1.2.1 9 h = S.2.1 9 h := by rw [e]; rfl
  have e3 : ∀ i, qa S1 3 h i = qa S 3 h i := fun i => by rw [e]; rfl
  obtain ⟨i, hi, hq⟩ := ht
  have g2 := gt.2.1
  have c1 : ∀ j, j ≠ i → j < 200 → cnc S1 h j = cnc S h j := fun j hj h9 => by
    unfold cnc
    rw [e3 j]
    cases hc : qa S 3 h j with
    | none => rfl
    | some u =>
      show S1.1 35 u = S.1 35 u
      rw [e, k_ii, if_neg (fun c => by
        have c2 : u = t := c.2
        rw [c2] at hc
        have x1 := gt.2.2.2 j t h9 hc
        have x2 := gt.2.2.2 i t (by omega) hq
        omega)]
  have c2 : cnc S h i = 0 := by
    unfold cnc
    rw [hq]
    exact h0
  have c3 : cnc S1 h i ≠ 0 := by
    unfold cnc
    rw [e3 i, hq]
    show S1.1 35 t ≠ 0
    rw [e, k_ii, if_pos ⟨rfl, rfl⟩]
    decide
  have key : lcn (cnc S1 h) (S.1 1 h).toInt.toNat = lcn (cnc S h) (S.1 1 h).toInt.toNat + 1 := by
    have c4 : ∀ j, j ≠ i → (fun j => if j < 200 then cnc S1 h j else (0 : Int32)) j = (fun j => if j < 200 then cnc S h j else (0 : Int32)) j := fun j hj => by
      show (if j < 200 then cnc S1 h j else (0 : Int32)) = (if j < 200 then cnc S h j else (0 : Int32))
      rcases Decidable.em (j < 200) with c | c
      · rw [if_pos c, if_pos c]; exact c1 j hj c
      · rw [if_neg c, if_neg c]
    have i2 : i < 200 := by omega
    have c5 := lcn_u (k := i) c4 (by show (if i < 200 then cnc S h i else (0 : Int32)) = 0; rw [if_pos i2]; exact c2) (by show (if i < 200 then cnc S1 h i else (0 : Int32)) ≠ 0; rw [if_pos i2]; exact c3) (S.1 1 h).toInt.toNat
    rw [if_pos (by omega), lcn_l (by omega), lcn_l (by omega)] at c5
    exact c5
  refine ⟨fun b hb => ?_, fun b hb => ?_, fun o hd ho => ?_⟩
  · rw [e0 b, e1 h, key]
    have := (g.1 b hb).2
    omega
  · rw [e9] at hb
    rw [e0 b, e1 h, key]
    have := g.1 b hb
    omega
  · rw [e9] at ho
    rw [e0 o]
    exact g.2 o (by rw [← show S1.2.2.2.2.2 = S.2.2.2.2.2 by rw [e]; rfl]; exact hd) ho
theorem LSI_k (gt : TKA S h) (ht : tl S h t) (h0 : S.1 35 t = 0) (e : S1 = cI S 35 t 1) : lcn (cnc S1 h) (S.1 1 h).toInt.toNat = lcn (cnc S h) (S.1 1 h).toInt.toNat + 1 := by
  have e3 : ∀ i, qa S1 3 h i = qa S 3 h i := fun i => by rw [e]; rfl
  obtain ⟨i, hi, hq⟩ := ht
  have g2 := gt.2.1
  have c1 : ∀ j, j ≠ i → j < 200 → cnc S1 h j = cnc S h j := fun j hj h9 => by
    unfold cnc
    rw [e3 j]
    cases hc : qa S 3 h j with
    | none => rfl
    | some u =>
      show S1.1 35 u = S.1 35 u
      rw [e, k_ii, if_neg (fun c => by
        have c2 : u = t := c.2
        rw [c2] at hc
        have x1 := gt.2.2.2 j t h9 hc
        have x2 := gt.2.2.2 i t (by omega) hq
        omega)]
  have c2 : cnc S h i = 0 := by
    unfold cnc
    rw [hq]
    exact h0
  have c3 : cnc S1 h i ≠ 0 := by
    unfold cnc
    rw [e3 i, hq]
    show S1.1 35 t ≠ 0
    rw [e, k_ii, if_pos ⟨rfl, rfl⟩]
    decide
  have key : lcn (cnc S1 h) (S.1 1 h).toInt.toNat = lcn (cnc S h) (S.1 1 h).toInt.toNat + 1 := by
    have c4 : ∀ j, j ≠ i → (fun j => if j < 200 then cnc S1 h j else (0 : Int32)) j = (fun j => if j < 200 then cnc S h j else (0 : Int32)) j := fun j hj => by
      show (if j < 200 then cnc S1 h j else (0 : Int32)) = (if j < 200 then cnc S h j else (0 : Int32))
      rcases Decidable.em (j < 200) with c | c
      · rw [if_pos c, if_pos c]; exact c1 j hj c
      · rw [if_neg c, if_neg c]
    have i2 : i < 200 := by omega
    have c5 := lcn_u (k := i) c4 (by show (if i < 200 then cnc S h i else (0 : Int32)) = 0; rw [if_pos i2]; exact c2) (by show (if i < 200 then cnc S1 h i else (0 : Int32)) ≠ 0; rw [if_pos i2]; exact c3) (S.1 1 h).toInt.toNat
    rw [if_pos (by omega), lcn_l (by omega), lcn_l (by omega)] at c5
    exact c5
  exact key
end HGs
