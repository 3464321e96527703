
/-- scope s and those about it are there; the finish blocks among them have been entered: W has their depths -/
def GVN (V : PV) (W : Int → Prop) : Nat → Int → Prop
  | 0, s => s < 0
  | n + 1, s => s < 0 ∨ (s / 3 < V.1 24 ∧ (s % 3 = 2 → W (V.2 44 (s / 3).toNat)) ∧ GVN V W n (V.2 43 (s / 3).toNat))
def GV (V : PV) (W : Int → Prop) (s : Int) : Prop := ∃ n, GVN V W n s
section GVs
variable {V : PV} {W W1 : Int → Prop} {s a b : Int}
theorem GV_n (h : s < 0) : GV V W s := ⟨0, h⟩
theorem GV_i (h : GV V W s) (h0 : 0 ≤ s) : s / 3 < V.1 24 ∧ (s % 3 = 2 → W (V.2 44 (s / 3).toNat)) ∧ GV V W (V.2 43 (s / 3).toNat) := by
  obtain ⟨n, h⟩ := h
  cases n with
  | zero =>
    have h9 : s < 0 := h
    omega
  | succ n =>
    rcases h with h | ⟨h1, h2, h3⟩
    · omega
    · exact ⟨h1, h2, n, h3⟩
theorem GV_k (h1 : s / 3 < V.1 24) (h2 : s % 3 = 2 → W (V.2 44 (s / 3).toNat)) (h3 : GV V W (V.2 43 (s / 3).toNat)) : GV V W s := by
  obtain ⟨n, h3⟩ := h3
  exact ⟨n + 1, Or.inr ⟨h1, h2, h3⟩⟩
theorem GV_m (h : GV V W s) (hw : ∀ d, W d → W1 d) : GV V W1 s := by
  obtain ⟨n, h⟩ := h
  induction n generalizing s with
  | zero => exact ⟨0, h⟩
  | succ n ih =>
    rcases h with h | ⟨h1, h2, h3⟩
    · exact GV_n h
    · exact GV_k h1 (fun q => hw _ (h2 q)) (ih h3)
theorem GV_o (h : GV V W a) (ho : onc (V.1 24) (V.2 43) a b) : GV V W b := by
  obtain ⟨n, ho⟩ := ho
  induction n generalizing a with
  | zero =>
    have e : a = b := ho
    rw [← e]
    exact h
  | succ n ih =>
    rcases ho with e | ⟨h2, _, h4⟩
    · rw [← e]
      exact h
    · exact ih (GV_i h h2).2.2 h4
theorem GV_c (h : GV V W s) (hc : CP V a s) : GV V W a := by
  rcases hc with e | ⟨h0, h1, h2, h3⟩
  · rw [e]
    exact h
  · exact GV_k h2 (fun q => by omega) (by rw [h3]; exact h)
/-- another block of the same try -/
theorem GV_b (h : GV V W a) (h0 : 0 ≤ a) (e : b / 3 = a / 3) (hb : b % 3 = 2 → W (V.2 44 (b / 3).toNat)) : GV V W b := by
  have k := GV_i h h0
  exact GV_k (by rw [e]; exact k.1) hb (by rw [e]; exact k.2.2)
/-- place q may be gone to -/
def PCG (V : PV) (W : Int → Prop) (q : Int) : Prop := 0 ≤ q ∧ q ≤ V.1 17 ∧ tyf (V.2 28) q.toNat = -2 ∧ (q < V.1 17 → GV V W (V.2 30 q.toNat))
theorem PCG_t {q : Int} (h : TGr V q s) (hg : GV V W s) : PCG V W q := ⟨h.1, h.2.1, h.2.2.1, fun c => GV_c hg (h.2.2.2 c)⟩
/-- what the entered finish blocks were left with -/
def FRS (V : PV) (W : Int → Prop) (lb lw : Nat → Int32) : Prop := ∀ d : Nat, d < 10 → W d → (lb d = 1 ∨ lb d = 2) → 0 ≤ (lw d).toInt ∧ (lw d).toInt < V.1 25 ∧ GV V W (V.2 50 (lw d).toInt.toNat)
theorem FRS_u {lb lw lb1 lw1 : Nat → Int32} {k : Nat} {x y : Int32} (h : FRS V W lb lw) (e1 : ∀ j, lb1 j = if j = k then x else lb j) (e2 : ∀ j, lw1 j = if j = k then y else lw j) (hx : (x = 1 ∨ x = 2) → 0 ≤ y.toInt ∧ y.toInt < V.1 25 ∧ GV V W (V.2 50 y.toInt.toNat)) : FRS V (fun d => W d ∨ d = k) lb1 lw1 := fun d hd hw hb => by
  have hm : ∀ d, W d → W d ∨ d = (k : Int) := fun d h => Or.inl h
  rw [e1 d] at hb
  rw [e2 d]
  rcases Decidable.em (d = k) with c | c
  · rw [if_pos c] at hb ⊢
    have q := hx hb
    exact ⟨q.1, q.2.1, GV_m q.2.2 hm⟩
  · rw [if_neg c] at hb ⊢
    have w : W d := by
      rcases hw with w | w
      · exact w
      · omega
    have q := h d hd w hb
    exact ⟨q.1, q.2.1, GV_m q.2.2 hm⟩
/-- a program that may be run: ranges, and what the parser gives -/
def PGM (V : PV) : Prop := (0 ≤ V.1 17 ∧ V.1 17 ≤ 8064) ∧ (0 ≤ V.1 18 ∧ V.1 18 ≤ 12) ∧ (0 ≤ V.1 24 ∧ V.1 24 ≤ 460) ∧ (0 ≤ V.1 25 ∧ V.1 25 ≤ 460) ∧ AR 0 12 (V.2 35) ∧ AR (-1) 1379 (V.2 43) ∧ AR (-1) 1379 (V.2 30) ∧ AR 0 9 (V.2 44) ∧ WFP V
end GVs
/-- the program pg with its scopes sc, as the runner reads it -/
def pv (pg sc : Nat) (S : kS) : PV := (fun f => if f = 17 then (S.1 17 pg).toInt else if f = 18 then (S.1 18 pg).toInt else if f = 24 then (S.1 24 sc).toInt else if f = 25 then (S.1 25 sc).toInt else 0, fun f i => if f = 149 then (ar S 49 sc i &&& 3).toInt else if f ≤ 39 then (if 28 ≤ f then (ar S f pg i).toInt else 0) else if f ≤ 52 then (if 43 ≤ f then (ar S f sc i).toInt else 0) else 0)
theorem pv_f {pg sc : Nat} {S S1 : kS} {zi zr fa fq : List Nat} (h : HF zi zr fa fq S S1) (hz : dis9 [17, 18, 24, 25] zi = true) (ha : dis9 [28, 29, 30, 31, 32, 33, 34, 35, 36, 37, 38, 39, 43, 44, 45, 46, 47, 48, 49, 50, 51, 52] fa = true) : pv pg sc S1 = pv pg sc S := by
  have a : ∀ f, f ∈ [28, 29, 30, 31, 32, 33, 34, 35, 36, 37, 38, 39, 43, 44, 45, 46, 47, 48, 49, 50, 51, 52] → ar S1 f = ar S f := fun f hf => h.2.2.1 f (dis9_m ha hf)
  unfold pv
  rw [h.1 17 (dis9_m hz (by decide)), h.1 18 (dis9_m hz (by decide)), h.1 24 (dis9_m hz (by decide)), h.1 25 (dis9_m hz (by decide)), a 49 (by decide)]
  refine Prod.ext rfl ?_
  funext f i
  dsimp only
  rcases Decidable.em (28 ≤ f ∧ f ≤ 39 ∨ 43 ≤ f ∧ f ≤ 52) with c | c
  · rw [a f (by
      have m : f = 28 ∨ f = 29 ∨ f = 30 ∨ f = 31 ∨ f = 32 ∨ f = 33 ∨ f = 34 ∨ f = 35 ∨ f = 36 ∨ f = 37 ∨ f = 38 ∨ f = 39 ∨ f = 43 ∨ f = 44 ∨ f = 45 ∨ f = 46 ∨ f = 47 ∨ f = 48 ∨ f = 49 ∨ f = 50 ∨ f = 51 ∨ f = 52 := by omega
      rcases m with m | m | m | m | m | m | m | m | m | m | m | m | m | m | m | m | m | m | m | m | m | m <;> (rw [m]; decide))]
  · split
    · rfl
    · split
      · rw [if_neg (fun w => c (Or.inl ⟨w, by assumption⟩)), if_neg (fun w => c (Or.inl ⟨w, by assumption⟩))]
      · split
        · rw [if_neg (fun w => c (Or.inr ⟨w, by assumption⟩)), if_neg (fun w => c (Or.inr ⟨w, by assumption⟩))]
        · rfl
theorem md3b {x z : Int32} (e : z = x - x / 3 * 3) (h0 : 0 ≤ x.toInt) (h1 : x.toInt < 1380) : z.toInt = x.toInt % 3 := by
  have d := dv3 h0 h1
  have m := w_mc (z := x / 3 * 3) (c := 3) (k := 3) rfl rfl (by decide) ⟨by omega, by omega⟩
  have s := w_sub e (by rw [m]; omega)
  rw [m] at s
  omega
theorem an_3 {x y : Int32} (h : x &&& 3 = y) : x &&& 1 = y &&& 1 ∧ x &&& 2 = y &&& 2 := by
  rw [← h, Int32.and_assoc, Int32.and_assoc]
  exact ⟨rfl, rfl⟩
theorem an_r {x : Int32} : x &&& 3 = 0 ∨ x &&& 3 = 1 ∨ x &&& 3 = 2 ∨ x &&& 3 = 3 := by
  have n : (x &&& 3).toBitVec.toNat ≤ 3 := by
    rw [Int32.toBitVec_and, BitVec.toNat_and]
    exact Nat.and_le_right
  have k : ∀ y : Int32, (x &&& 3).toBitVec.toNat = y.toBitVec.toNat → x &&& 3 = y := fun y h => Int32.toBitVec_inj.mp (BitVec.eq_of_toNat_eq h)
  have n2 : (x &&& 3).toBitVec.toNat = 0 ∨ (x &&& 3).toBitVec.toNat = 1 ∨ (x &&& 3).toBitVec.toNat = 2 ∨ (x &&& 3).toBitVec.toNat = 3 := by omega
  rcases n2 with h | h | h | h
  · exact Or.inl (k 0 (h.trans rfl))
  · exact Or.inr (Or.inl (k 1 (h.trans rfl)))
  · exact Or.inr (Or.inr (Or.inl (k 2 (h.trans rfl))))
  · exact Or.inr (Or.inr (Or.inr (k 3 (h.trans rfl))))
theorem an_1 {x : Int32} (h : x &&& 1 ≠ 0) : (x &&& 3).toInt % 2 = 1 := by
  rcases an_r (x := x) with e | e | e | e
  · exact absurd ((an_3 e).1.trans rfl) h
  · rw [e]; rfl
  · exact absurd ((an_3 e).1.trans rfl) h
  · rw [e]; rfl
theorem an_2 {x : Int32} (h : x &&& 2 ≠ 0) : 2 ≤ (x &&& 3).toInt := by
  rcases an_r (x := x) with e | e | e | e
  · exact absurd ((an_3 e).2.trans rfl) h
  · exact absurd ((an_3 e).2.trans rfl) h
  · rw [e]; decide
  · rw [e]; decide
/-- the other tasks' places and finish blocks are as they were -/
def OTH (a : Nat) (S S1 : kS) : Prop := ∀ o, o ≠ a → S1.1 36 o = S.1 36 o ∧ (∀ j, ar S1 59 o j = ar S 59 o j) ∧ ∀ j, ar S1 60 o j = ar S 60 o j
def LVQ (V : PV) (W : Int → Prop) (r a : Nat) (S S1 : kS) : Prop := ∃ W1 : Int → Prop, (∀ d, W d → W1 d) ∧ FRS V W1 (ar S1 59 a) (ar S1 60 a) ∧ OTH a S S1 ∧ (S1.1 22 r = 3 ∨ (S1.1 22 r = S.1 22 r ∧ PCG V W1 (S1.1 36 a).toInt))
theorem LVQ_p {V : PV} {W : Int → Prop} {r a : Nat} {S S0 S1 : kS} {zi zr fa fq : List Nat} (f : HF zi zr fa fq S S0) (hz : dis9 [22, 36] zi = true) (ha : dis9 [59, 60] fa = true) (g : LVQ V W r a S0 S1) : LVQ V W r a S S1 := by
  obtain ⟨W1, g1, g2, g3, g4⟩ := g
  refine ⟨W1, g1, g2, fun o ho => ?_, ?_⟩
  · have k := g3 o ho
    rw [f.1 36 (dis9_m hz (by decide)), f.2.2.1 59 (dis9_m ha (by decide)), f.2.2.1 60 (dis9_m ha (by decide))] at k
    exact k
  · rw [← f.1 22 (dis9_m hz (by decide))]
    exact g4
/-- nothing is left: the place is the next -/
theorem LVQ_0 {V : PV} {W : Int → Prop} {r a : Nat} {S S1 : kS} {zi zr fa fq : List Nat} (f : HF zi zr fa fq S S1) (hz : dis9 [22, 36] zi = true) (ha : dis9 [59, 60] fa = true) (hf : FRS V W (ar S 59 a) (ar S 60 a)) (hq : PCG V W (S.1 36 a).toInt) : LVQ V W r a S S1 := by
  refine ⟨W, fun _ h => h, ?_, fun o _ => ?_, Or.inr ⟨?_, ?_⟩⟩
  · rw [f.2.2.1 59 (dis9_m ha (by decide)), f.2.2.1 60 (dis9_m ha (by decide))]
    exact hf
  · rw [f.1 36 (dis9_m hz (by decide)), f.2.2.1 59 (dis9_m ha (by decide)), f.2.2.1 60 (dis9_m ha (by decide))]
    exact ⟨rfl, fun _ => rfl, fun _ => rfl⟩
  · rw [f.1 22 (dis9_m hz (by decide))]
  · rw [f.1 36 (dis9_m hz (by decide))]
    exact hq
/-- a place is gone to -/
theorem LVQ_w {V : PV} {W : Int → Prop} {r a : Nat} {S S1 : kS} {v : Int32} (e : S1 = cI S 36 a v) (hf : FRS V W (ar S 59 a) (ar S 60 a)) (hq : PCG V W v.toInt) : LVQ V W r a S S1 := by
  refine ⟨W, fun _ h => h, ?_, fun o ho => ?_, Or.inr ⟨?_, ?_⟩⟩
  · rw [e]
    exact hf
  · rw [e, k_ii, if_neg (fun c => ho c.2)]
    exact ⟨rfl, fun _ => rfl, fun _ => rfl⟩
  · rw [e, k_ii, if_neg (fun c => absurd c.1 (by decide))]
  · rw [e, k_ii, if_pos ⟨rfl, rfl⟩]
    exact hq
/-- the task is over -/
theorem LVQ_3 {V : PV} {W : Int → Prop} {r a : Nat} {S S1 : kS} {zi zr fa fq : List Nat} (f : HF zi zr fa fq S S1) (hz : dis9 [36] zi = true) (ha : dis9 [59, 60] fa = true) (hf : FRS V W (ar S 59 a) (ar S 60 a)) (h3 : S1.1 22 r = 3) : LVQ V W r a S S1 := by
  refine ⟨W, fun _ h => h, ?_, fun o _ => ?_, Or.inl h3⟩
  · rw [f.2.2.1 59 (dis9_m ha (by decide)), f.2.2.1 60 (dis9_m ha (by decide))]
    exact hf
  · rw [f.1 36 (dis9_m hz (by decide)), f.2.2.1 59 (dis9_m ha (by decide)), f.2.2.1 60 (dis9_m ha (by decide))]
    exact ⟨rfl, fun _ => rfl, fun _ => rfl⟩
