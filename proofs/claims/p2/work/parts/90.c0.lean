
abbrev cK : Type := Nat ⊕ (Nat × Nat)
abbrev kS : Type := (Nat → Nat → Int32) × (Nat → Nat → Option Nat) × (Nat → Nat → Int32) × (Nat → Nat → Int64) × (Nat → Nat → Option Nat) × List (Nat × cK)
abbrev kE : Type := va_G × (Nat → ClassId) × (Nat × Nat × Nat × List Int32)
def cO (ci : Nat) (z : Nat → Int32) (r : Nat → Option Nat) : List Value := match ci with
  | 0 => [.int (z 0), va_rf (r 0), va_rf (r 1)]
  | 1 => [va_rf (r 2), va_rf (r 3), .int (z 1), .int (z 2), va_rf (r 4), .int (z 3), .int (z 4), va_rf (r 5), va_rf (r 6), va_rf (r 7), va_rf (r 8), va_rf (r 9), va_rf (r 10), .int (z 5), va_rf (r 11)]
  | 2 => [va_rf (r 12), va_rf (r 13)]
  | 3 => [va_rf (r 14), va_rf (r 15), va_rf (r 16), .int (z 6), .int (z 7), .int (z 8), .int (z 9), .int (z 10), .int (z 11), va_rf (r 17), va_rf (r 18), va_rf (r 19), va_rf (r 20)]
  | 4 => [va_rf (r 21), .int (z 12), .int (z 13), .int (z 14), .int (z 15), .int (z 16), va_rf (r 22), va_rf (r 23), va_rf (r 24), va_rf (r 25), va_rf (r 26), va_rf (r 27)]
  | 5 => [.int (z 17), va_rf (r 28), va_rf (r 29), va_rf (r 30), va_rf (r 31), .int (z 18), va_rf (r 32), va_rf (r 33), va_rf (r 34), va_rf (r 35), va_rf (r 36), va_rf (r 37), va_rf (r 38), va_rf (r 39)]
  | 6 => [.int (z 19), .int (z 20), va_rf (r 40), va_rf (r 41), va_rf (r 42), .int (z 21), .int (z 22), .int (z 23)]
  | 7 => [.int (z 24), va_rf (r 43), va_rf (r 44), va_rf (r 45), va_rf (r 46), va_rf (r 47), va_rf (r 48), va_rf (r 49), .int (z 25), va_rf (r 50), va_rf (r 51), va_rf (r 52)]
  | 8 => [va_rf (r 53), va_rf (r 54), .int (z 26), .int (z 27), va_rf (r 55)]
  | 9 => [.int (z 28), .int (z 29), va_rf (r 56), va_rf (r 57), .int (z 30), .int (z 31), .int (z 32), .int (z 33), .int (z 34), .int (z 35), .int (z 36), va_rf (r 58), va_rf (r 59), va_rf (r 60), va_rf (r 61), va_rf (r 62), va_rf (r 63), .int (z 37), .int (z 38), .int (z 39)]
  | 10 => [va_rf (r 64), va_rf (r 65), va_rf (r 66), .int (z 40), .int (z 41), va_rf (r 67), va_rf (r 68)]
  | 11 => [va_rf (r 69), va_rf (r 70), va_rf (r 71), va_rf (r 72), va_rf (r 73), va_rf (r 74), va_rf (r 75)]
  | _ => []
def cY (S : kS) (a k : Nat) : (Nat → Int32) ⊕ (Nat → Int64) ⊕ (Nat → UInt32) ⊕ (Nat → UInt64) ⊕ (Nat → Option Nat) := match k with
  | 1 => .inr (.inl (S.2.2.2.1 a))
  | 2 => .inr (.inr (.inr (.inr (S.2.2.2.2.1 a))))
  | 4 => .inr (.inr (.inr (.inr (S.2.2.2.2.1 a))))
  | _ => .inl (S.2.2.1 a)
def cC (E : kE) (S : kS) (q : Nat × cK) : Nat × va_E := match q.2 with
  | .inl ci => (q.1, .inr (ci, cO ci (fun f => S.1 f q.1) (fun f => S.2.1 f q.1)))
  | .inr b => (q.1, .inl (E.2.1 b.2, b.1, cY S q.1 b.2))
def cW (E : kE) (S : kS) : va_W := S.2.2.2.2.2.map (cC E S)
def cT (E : kE) : List (ClassId × FieldType) := [(E.2.1 0, .int), (E.2.1 1, .long), (E.2.1 2, .object RX9), (E.2.1 3, .char), (E.2.1 4, .object RX2)]
def hasO (S : kS) (a ci : Nat) : Prop := (a, Sum.inl ci) ∈ S.2.2.2.2.2
def hasA (S : kS) (a n k : Nat) : Prop := (a, Sum.inr (n, k)) ∈ S.2.2.2.2.2
def cI (S : kS) (f a : Nat) (v : Int32) : kS := (fun g b => if b = a then upd (fun h => S.1 h a) f v g else S.1 g b, S.2)
def cR (S : kS) (f a : Nat) (v : Option Nat) : kS := (S.1, fun g b => if b = a then va_up (fun h => S.2.1 h a) f v g else S.2.1 g b, S.2.2)
def cA (S : kS) (a i : Nat) (v : Int32) : kS := (S.1, S.2.1, va_up S.2.2.1 a (upd (S.2.2.1 a) i v), S.2.2.2)
def cL (S : kS) (a i : Nat) (v : Int64) : kS := (S.1, S.2.1, S.2.2.1, va_up S.2.2.2.1 a (vp_updL (S.2.2.2.1 a) i v), S.2.2.2.2)
def cQ (S : kS) (a i : Nat) (v : Option Nat) : kS := (S.1, S.2.1, S.2.2.1, S.2.2.2.1, va_up S.2.2.2.2.1 a (va_up (S.2.2.2.2.1 a) i v), S.2.2.2.2.2)
theorem cat_o {o : Option Nat} : (va_rf o).category = 1 := by cases o <;> rfl
theorem fit_o {C : String} {o : Option Nat} : fits (.object C) (va_rf o) = true := by cases o <;> rfl
theorem nar_o {C : String} {o : Option Nat} : narrow (.object C) (va_rf o) = va_rf o := by cases o <;> rfl
theorem rf_rf {o : Option Nat} : va_rf o = .null ∨ ∃ a, va_rf o = .ref a := by
  cases o with
  | none => exact Or.inl rfl
  | some a => exact Or.inr ⟨a, rfl⟩
theorem cW_at {E : kE} {S : kS} {q : Nat × cK} (h : q ∈ S.2.2.2.2.2) : ∃ i : Nat, S.2.2.2.2.2[i]? = some q ∧ (cW E S)[i]? = some (cC E S q) := by
  obtain ⟨i, hi⟩ := List.mem_iff_getElem?.mp h
  exact ⟨i, hi, by unfold cW; rw [List.getElem?_map, hi]; rfl⟩
/-- a change that the other cells don't see, and that makes this one e -/
theorem cW_set {E : kE} {S S1 : kS} {A : Nat → Prop} {i : Nat} {q : Nat × cK} {e : va_E} (hD : va_D A (cW E S)) (hi : S.2.2.2.2.2[i]? = some q) (hd : S1.2.2.2.2.2 = S.2.2.2.2.2) (hq : cC E S1 q = (q.1, e)) (ho : ∀ b : Nat × cK, b.1 ≠ q.1 → cC E S1 b = cC E S b) : (cW E S).set i (q.1, e) = cW E S1 := by
  apply List.ext_getElem?
  intro j
  unfold cW
  rw [hd, List.getElem?_set, List.getElem?_map, List.length_map]
  by_cases hj : i = j
  · subst hj
    have hlt : i < S.2.2.2.2.2.length := by
      rcases Nat.lt_or_ge i S.2.2.2.2.2.length with h | h
      · exact h
      · rw [List.getElem?_eq_none h] at hi; cases hi
    rw [if_pos rfl, if_pos hlt, List.getElem?_map, hi]
    show some _ = some _
    rw [hq]
  · rw [if_neg hj, List.getElem?_map]
    cases hb : S.2.2.2.2.2[j]? with
    | none => rfl
    | some b =>
      show some _ = some _
      rw [ho b (fun hh => hj (hD.1 i j (cC E S q) (cC E S b) (by unfold cW; rw [List.getElem?_map, hi]; rfl) (by unfold cW; rw [List.getElem?_map, hb]; rfl) (by
        have e1 : ∀ w : Nat × cK, (cC E S w).1 = w.1 := fun w => by unfold cC; cases w.2 <;> rfl
        rw [e1, e1, hh])))]
theorem cC_I {E : kE} {S : kS} {f a ci k : Nat} {v : Int32} (hs : ∀ (z : Nat → Int32) (r : Nat → Option Nat) (v : Int32), (cO ci z r).set k (.int v) = cO ci (upd z f v) r) : cC E (cI S f a v) (a, .inl ci) = (a, .inr (ci, (cO ci (fun g => S.1 g a) (fun g => S.2.1 g a)).set k (.int v))) := by
  rw [hs]
  show (a, Sum.inr (ci, cO ci (fun g => if a = a then _ else _) _)) = _
  simp only [if_true]
  rfl
theorem cC_R {E : kE} {S : kS} {f a ci k : Nat} {v : Option Nat} (hs : ∀ (z : Nat → Int32) (r : Nat → Option Nat) (v : Option Nat), (cO ci z r).set k (va_rf v) = cO ci z (va_up r f v)) : cC E (cR S f a v) (a, .inl ci) = (a, .inr (ci, (cO ci (fun g => S.1 g a) (fun g => S.2.1 g a)).set k (va_rf v))) := by
  rw [hs]
  show (a, Sum.inr (ci, cO ci _ (fun g => if a = a then _ else _))) = _
  simp only [if_true]
  rfl
theorem cC_I0 {E : kE} {S : kS} {f a : Nat} {v : Int32} (b : Nat × cK) (h : b.1 ≠ a) : cC E (cI S f a v) b = cC E S b := by
  obtain ⟨b, k⟩ := b
  cases k with
  | inl ci =>
    show (b, Sum.inr (ci, cO ci (fun g => if b = a then _ else _) _)) = _
    simp only [if_neg h]
    rfl
  | inr w => rfl
theorem cC_R0 {E : kE} {S : kS} {f a : Nat} {v : Option Nat} (b : Nat × cK) (h : b.1 ≠ a) : cC E (cR S f a v) b = cC E S b := by
  obtain ⟨b, k⟩ := b
  cases k with
  | inl ci =>
    show (b, Sum.inr (ci, cO ci _ (fun g => if b = a then _ else _))) = _
    simp only [if_neg h]
    rfl
  | inr w => rfl
theorem cY_A0 {S : kS} {a i b k : Nat} {v : Int32} (h : b ≠ a) : cY (cA S a i v) b k = cY S b k := by
  unfold cY cA
  dsimp only
  rw [va_up_ne _ _ h]
theorem cY_L0 {S : kS} {a i b k : Nat} {v : Int64} (h : b ≠ a) : cY (cL S a i v) b k = cY S b k := by
  unfold cY cL
  dsimp only
  rw [va_up_ne _ _ h]
theorem cY_Q0 {S : kS} {a i b k : Nat} {v : Option Nat} (h : b ≠ a) : cY (cQ S a i v) b k = cY S b k := by
  unfold cY cQ
  dsimp only
  rw [va_up_ne _ _ h]
theorem cC_A0 {E : kE} {S : kS} {a i : Nat} {v : Int32} (b : Nat × cK) (h : b.1 ≠ a) : cC E (cA S a i v) b = cC E S b := by
  obtain ⟨b, k⟩ := b
  cases k with
  | inl ci => rfl
  | inr w => show (b, Sum.inl (_, _, cY (cA S a i v) b w.2)) = _; rw [cY_A0 h]; rfl
theorem cC_L0 {E : kE} {S : kS} {a i : Nat} {v : Int64} (b : Nat × cK) (h : b.1 ≠ a) : cC E (cL S a i v) b = cC E S b := by
  obtain ⟨b, k⟩ := b
  cases k with
  | inl ci => rfl
  | inr w => show (b, Sum.inl (_, _, cY (cL S a i v) b w.2)) = _; rw [cY_L0 h]; rfl
theorem cC_Q0 {E : kE} {S : kS} {a i : Nat} {v : Option Nat} (b : Nat × cK) (h : b.1 ≠ a) : cC E (cQ S a i v) b = cC E S b := by
  obtain ⟨b, k⟩ := b
  cases k with
  | inl ci => rfl
  | inr w => show (b, Sum.inl (_, _, cY (cQ S a i v) b w.2)) = _; rw [cY_Q0 h]; rfl
def cM (E : kE) (A : Nat → Prop) (H0 : Heap) (S : kS) (H : Heap) (locs : List Loc) : Prop := va_P E.1 vwCl (cW E S) H ∧ va_D A (cW E S) ∧ va_S A H0 H locs
def kZ (E : kE) (A : Nat → Prop) (U : State) (H : Heap) : Prop := vk_R RX10 66 "{}(),;=<+-*/%" E.2.2.1 U ∧ sx_F E.2.2.1 E.2.2.2.1 E.2.2.2.2.1 E.2.2.2.2.2 A U H ∧ sj_F A U H ∧ va_Nw (.methodLinkNest RX1 134 yX4_init "Sleepers") U ∧ E.2.2.2.2.1 < 2 ^ 30
theorem kZ_pay {E : kE} {A B : Nat → Prop} {s U : State} {H : Heap} (h : kZ E A s s.heap) (hq : ∀ a : Nat, a < s.heap.size → ¬ A a → H[a]? = s.heap[a]?) (hB : ∀ q, B q → A q) (hU : U.heap = H) (hW : s.WarmedH U.vm) : kZ E B U U.heap := ⟨vk_R.warm hW h.1, by rw [hU]; exact ((h.2.1.kept hq).narrow hB).moved hW.alike, by rw [hU]; exact ((h.2.2.1.kept hq).narrow hB).moved hW.alike, va_Nw.warmM hW h.2.2.2.1, h.2.2.2.2⟩
theorem kZ_blind {E : kE} {A : Nat → Prop} {U U1 : State} {H : Heap} (hv : U1.vm = U.vm) (hn : va_Nw (.methodLinkNest RX1 134 yX4_init "Sleepers") U1) (ha : U.vm.Alike U1.vm) (h : kZ E A U H) : kZ E A U1 H := ⟨vk_R.same hv h.1, h.2.1.moved ha, h.2.2.1.moved ha, hn, h.2.2.2.2⟩
def kX (own : String) (p : Program) (s : State) (m : MethodId) (args : Array Value) (c : Code) (cc : ByteArray) (nL : Nat) (E : kE) (A : Nat → Prop) : Prop := CallFix p m c cc nL s args tb own ∧ va_K E.1 vwCl (cT E) s ∧ (∀ q : Nat, s.heap.size ≤ q → A q) ∧ kZ E A s s.heap
section CQ
variable {p : Program} {l : Launch} {e : Env} {R : Room} {s : State} {m : MethodId} {args : Array Value} {below : List Frame} {meth : Method} {c : Code} {H : Heap} {locs : List Loc} {cells slots : Nat} {Q : State → Prop} {cc : ByteArray} {nL pc : Nat} {ls : Array Slot} {rest : List Value} {E : kE} {A : Nat → Prop} {S : kS} {own : String}
theorem cq_geti (hX : kX own p s m args c cc nL E A) (hC : cM E A s.heap S H locs) {ci k f N index : Nat} {C ref : String} {T : u_T} (hc : vwCl[ci]? = some (C, T, N)) (hin : ∀ w ∈ u_ws C T N, w ∈ tb) (hk : k < N) (hw : Cond.fieldLink own index ref (T k).2.1 (T k).2.2.1 ∈ tb) (hsame : ∀ x, s.fieldFound? (T k).1 (T k).2.1 (T k).2.2.1 = some x → s.fieldFound? ref (T k).2.1 (T k).2.2.1 = some x) (hv : ∀ (z : Nat → Int32) (r : Nat → Option Nat), (cO ci z r)[k]? = some (.int (z f))) {a : Nat} {P : Int32 → Prop} (hd : decode cc pc = .ok (.getfield index, 3)) (h : hasO S a ci ∧ ∀ z : Int32, z = S.1 f a → P z) (kk : ∀ z : Int32, P z → W p l e R s m args below meth c H locs cells slots Q (F0 m (pc + 3) ls (.int z :: rest))) : W p l e R s m args below meth c H locs cells slots Q (F0 m pc ls (.ref a :: rest)) := by
  obtain ⟨i, -, hi⟩ := cW_at (E := E) h.1
  exact va_get hX.1.1 hX.1.2.1 hX.1.2.2.2.2 hin hX.1.2.2.2.1 hX.2.1 hC.1 i hi hc k hk (hX.1.2.2.2.2 _ hw) hsame (hv _ _) hd (kk _ (h.2 _ rfl))
theorem cq_getr (hX : kX own p s m args c cc nL E A) (hC : cM E A s.heap S H locs) {ci k f N index : Nat} {C ref : String} {T : u_T} (hc : vwCl[ci]? = some (C, T, N)) (hin : ∀ w ∈ u_ws C T N, w ∈ tb) (hk : k < N) (hw : Cond.fieldLink own index ref (T k).2.1 (T k).2.2.1 ∈ tb) (hsame : ∀ x, s.fieldFound? (T k).1 (T k).2.1 (T k).2.2.1 = some x → s.fieldFound? ref (T k).2.1 (T k).2.2.1 = some x) (hv : ∀ (z : Nat → Int32) (r : Nat → Option Nat), (cO ci z r)[k]? = some (va_rf (r f))) {a : Nat} {P : Option Nat → Prop} (hd : decode cc pc = .ok (.getfield index, 3)) (h : hasO S a ci ∧ ∀ z : Option Nat, z = S.2.1 f a → P z) (kk : ∀ z : Option Nat, P z → W p l e R s m args below meth c H locs cells slots Q (F0 m (pc + 3) ls (va_rf z :: rest))) : W p l e R s m args below meth c H locs cells slots Q (F0 m pc ls (.ref a :: rest)) := by
  obtain ⟨i, -, hi⟩ := cW_at (E := E) h.1
  exact va_get hX.1.1 hX.1.2.1 hX.1.2.2.2.2 hin hX.1.2.2.2.1 hX.2.1 hC.1 i hi hc k hk (hX.1.2.2.2.2 _ hw) hsame (hv _ _) hd (kk _ (h.2 _ rfl))
theorem cq_puti (hX : kX own p s m args c cc nL E A) (hC : cM E A s.heap S H locs) {ci k f N index : Nat} {C ref : String} {T : u_T} (hc : vwCl[ci]? = some (C, T, N)) (hin : ∀ w ∈ u_ws C T N, w ∈ tb) (hk : k < N) (hw : Cond.fieldLink own index ref (T k).2.1 (T k).2.2.1 ∈ tb) (hsame : ∀ x, s.fieldFound? (T k).1 (T k).2.1 (T k).2.2.1 = some x → s.fieldFound? ref (T k).2.1 (T k).2.2.1 = some x) (ty0 : Nat → FieldType) (hty : ∀ k, k < N → parseFieldDescriptor (T k).2.2.1 = some (ty0 k)) (hnm : ∀ a, a < N → ∀ b, b < N → a ≠ b → (T a).2.1 ≠ (T b).2.1) (hfin : (T k).2.2.2 = false) {a : Nat} {v : Int32} (hn : narrow (ty0 k) (.int v) = .int v) (hfit : fits (ty0 k) (.int v) = true) (hl : ∀ (z : Nat → Int32) (r : Nat → Option Nat), k < (cO ci z r).length) (hs : ∀ (z : Nat → Int32) (r : Nat → Option Nat) (v : Int32), (cO ci z r).set k (.int v) = cO ci (upd z f v) r) {P : kS → Prop} (hd : decode cc pc = .ok (.putfield index, 3)) (ho : hasO S a ci) (h : ∀ S1 : kS, S1 = cI S f a v → P S1) (kk : ∀ (S1 : kS) (H : Heap) (locs : List Loc), cM E A s.heap S1 H locs → P S1 →  W p l e R s m args below meth c H locs cells slots Q (F0 m (pc + 3) ls rest)) : W p l e R s m args below meth c H locs cells slots Q (F0 m pc ls (.int v :: .ref a :: rest)) := by
  obtain ⟨i, hi0, hi⟩ := cW_at (E := E) ho
  refine va_put hX.1.1 hX.1.2.1 hX.1.2.2.2.2 hin ty0 hty hnm hX.1.2.2.2.1 hX.2.1 hC.1 hC.2.1 hC.2.2 i hi hc k hk (hX.1.2.2.2.2 _ hw) hsame hfin (hty k hk) hn hfit (hl _ _) hd (fun H1 locs1 hP hD hS => kk _ H1 locs1 ?_ (h _ rfl))
  have e9 := cW_set (S1 := cI S f a v) hC.2.1 hi0 rfl (cC_I hs) (fun b hb => cC_I0 b hb)
  rw [e9] at hP hD
  exact ⟨hP, hD, hS⟩
theorem cq_putr (hX : kX own p s m args c cc nL E A) (hC : cM E A s.heap S H locs) {ci k f N index : Nat} {C ref : String} {T : u_T} (hc : vwCl[ci]? = some (C, T, N)) (hin : ∀ w ∈ u_ws C T N, w ∈ tb) (hk : k < N) (hw : Cond.fieldLink own index ref (T k).2.1 (T k).2.2.1 ∈ tb) (hsame : ∀ x, s.fieldFound? (T k).1 (T k).2.1 (T k).2.2.1 = some x → s.fieldFound? ref (T k).2.1 (T k).2.2.1 = some x) (ty0 : Nat → FieldType) (hty : ∀ k, k < N → parseFieldDescriptor (T k).2.2.1 = some (ty0 k)) (hnm : ∀ a, a < N → ∀ b, b < N → a ≠ b → (T a).2.1 ≠ (T b).2.1) (hfin : (T k).2.2.2 = false) {a : Nat} {v : Option Nat} {C9 : String} (ht9 : ty0 k = .object C9) (hl : ∀ (z : Nat → Int32) (r : Nat → Option Nat), k < (cO ci z r).length) (hs : ∀ (z : Nat → Int32) (r : Nat → Option Nat) (v : Option Nat), (cO ci z r).set k (va_rf v) = cO ci z (va_up r f v)) {P : kS → Prop} (hd : decode cc pc = .ok (.putfield index, 3)) (ho : hasO S a ci) (h : ∀ S1 : kS, S1 = cR S f a v → P S1) (kk : ∀ (S1 : kS) (H : Heap) (locs : List Loc), cM E A s.heap S1 H locs → P S1 →  W p l e R s m args below meth c H locs cells slots Q (F0 m (pc + 3) ls rest)) : W p l e R s m args below meth c H locs cells slots Q (F0 m pc ls (va_rf v :: .ref a :: rest)) := by
  obtain ⟨i, hi0, hi⟩ := cW_at (E := E) ho
  refine va_put hX.1.1 hX.1.2.1 hX.1.2.2.2.2 hin ty0 hty hnm hX.1.2.2.2.1 hX.2.1 hC.1 hC.2.1 hC.2.2 i hi hc k hk (hX.1.2.2.2.2 _ hw) hsame hfin (hty k hk) (by rw [ht9]; exact nar_o) (by rw [ht9]; exact fit_o) (hl _ _) hd (fun H1 locs1 hP hD hS => kk _ H1 locs1 ?_ (h _ rfl))
  have e9 := cW_set (S1 := cR S f a v) hC.2.1 hi0 rfl (cC_R hs) (fun b hb => cC_R0 b hb)
  rw [e9] at hP hD
  exact ⟨hP, hD, hS⟩
theorem cq_ild (hX : kX own p s m args c cc nL E A) (hC : cM E A s.heap S H locs) {a n : Nat} {i : Int32} {P : Int32 → Prop} (hd : decode cc pc = .ok (.iaload, 1)) (h : hasA S a n 0 ∧ inR i n ∧ ∀ z : Int32, z = S.2.2.1 a (ix i) → P z) (kk : ∀ z : Int32, P z → W p l e R s m args below meth c H locs cells slots Q (F0 m (pc + 1) ls (.int z :: rest))) : W p l e R s m args below meth c H locs cells slots Q (F0 m pc ls (.int i :: .ref a :: rest)) := by
  obtain ⟨q, -, hq⟩ := cW_at (E := E) h.1
  refine va_iald hX.1.1 hX.1.2.1 hX.2.1 hC.1 q 0 hq rfl (px_vp (inR_ix h.2.1) (inR_lt h.2.1)) hd ?_
  rw [px_cl (inR_ix h.2.1)]
  exact kk _ (h.2.2 _ rfl)
theorem cq_cld (hX : kX own p s m args c cc nL E A) (hC : cM E A s.heap S H locs) {a n : Nat} {i : Int32} {P : Int32 → Prop} (hd : decode cc pc = .ok (.caload, 1)) (h : hasA S a n 3 ∧ inR i n ∧ ∀ z : Int32, z = S.2.2.1 a (ix i) → P z) (kk : ∀ z : Int32, P z → W p l e R s m args below meth c H locs cells slots Q (F0 m (pc + 1) ls (.int z :: rest))) : W p l e R s m args below meth c H locs cells slots Q (F0 m pc ls (.int i :: .ref a :: rest)) := by
  obtain ⟨q, -, hq⟩ := cW_at (E := E) h.1
  refine va_cald hX.1.1 hX.1.2.1 hX.2.1 hC.1 q 3 hq rfl (px_vp (inR_ix h.2.1) (inR_lt h.2.1)) hd ?_
  rw [px_cl (inR_ix h.2.1)]
  exact kk _ (h.2.2 _ rfl)
theorem cq_lld (hX : kX own p s m args c cc nL E A) (hC : cM E A s.heap S H locs) {a n : Nat} {i : Int32} {P : Int64 → Prop} (hd : decode cc pc = .ok (.laload, 1)) (h : hasA S a n 1 ∧ inR i n ∧ ∀ z : Int64, z = S.2.2.2.1 a (ix i) → P z) (kk : ∀ z : Int64, P z → W p l e R s m args below meth c H locs cells slots Q (F0 m (pc + 1) ls (.long z :: rest))) : W p l e R s m args below meth c H locs cells slots Q (F0 m pc ls (.int i :: .ref a :: rest)) := by
  obtain ⟨q, -, hq⟩ := cW_at (E := E) h.1
  refine va_lald hX.1.1 hX.1.2.1 hX.2.1 hC.1 q 1 hq rfl (px_vp (inR_ix h.2.1) (inR_lt h.2.1)) hd ?_
  rw [px_cl (inR_ix h.2.1)]
  exact kk _ (h.2.2 _ rfl)
theorem cq_qld2 (hX : kX own p s m args c cc nL E A) (hC : cM E A s.heap S H locs) {a n : Nat} {i : Int32} {P : Option Nat → Prop} (hd : decode cc pc = .ok (.aaload, 1)) (h : hasA S a n 2 ∧ inR i n ∧ ∀ z : Option Nat, z = S.2.2.2.2.1 a (ix i) → P z) (kk : ∀ z : Option Nat, P z → W p l e R s m args below meth c H locs cells slots Q (F0 m (pc + 1) ls (va_rf z :: rest))) : W p l e R s m args below meth c H locs cells slots Q (F0 m pc ls (.int i :: .ref a :: rest)) := by
  obtain ⟨q, -, hq⟩ := cW_at (E := E) h.1
  refine va_aldq hX.1.1 hX.1.2.1 hX.2.1 hC.1 q 2 hq rfl (px_vp (inR_ix h.2.1) (inR_lt h.2.1)) hd ?_
  rw [px_cl (inR_ix h.2.1)]
  exact kk _ (h.2.2 _ rfl)
theorem cq_qld4 (hX : kX own p s m args c cc nL E A) (hC : cM E A s.heap S H locs) {a n : Nat} {i : Int32} {P : Option Nat → Prop} (hd : decode cc pc = .ok (.aaload, 1)) (h : hasA S a n 4 ∧ inR i n ∧ ∀ z : Option Nat, z = S.2.2.2.2.1 a (ix i) → P z) (kk : ∀ z : Option Nat, P z → W p l e R s m args below meth c H locs cells slots Q (F0 m (pc + 1) ls (va_rf z :: rest))) : W p l e R s m args below meth c H locs cells slots Q (F0 m pc ls (.int i :: .ref a :: rest)) := by
  obtain ⟨q, -, hq⟩ := cW_at (E := E) h.1
  refine va_aldq hX.1.1 hX.1.2.1 hX.2.1 hC.1 q 4 hq rfl (px_vp (inR_ix h.2.1) (inR_lt h.2.1)) hd ?_
  rw [px_cl (inR_ix h.2.1)]
  exact kk _ (h.2.2 _ rfl)
theorem cq_ist (hX : kX own p s m args c cc nL E A) (hC : cM E A s.heap S H locs) {a n : Nat} {i : Int32} {v : Int32} {P : kS → Prop} (hd : decode cc pc = .ok (.iastore, 1)) (ha : hasA S a n 0) (hi : inR i n) (h : ∀ S1 : kS, S1 = cA S a (ix i) v → P S1) (kk : ∀ (S1 : kS) (H : Heap) (locs : List Loc), cM E A s.heap S1 H locs → P S1 →  W p l e R s m args below meth c H locs cells slots Q (F0 m (pc + 1) ls rest)) : W p l e R s m args below meth c H locs cells slots Q (F0 m pc ls (.int v :: .int i :: .ref a :: rest)) := by
  obtain ⟨q, hq0, hq⟩ := cW_at (E := E) ha
  refine va_iast hX.1.1 hX.1.2.1 hX.2.1 hC.1 hC.2.1 hC.2.2 q 0 hq rfl (px_vp (inR_ix hi) (inR_lt hi)) hd (fun H1 locs1 hP hD hS => kk _ H1 locs1 ?_ (h _ rfl))
  rw [px_cl (inR_ix hi)] at hP hD
  have e9 : (cW E S).set q (a, .inl (E.2.1 0, n, .inl (upd (S.2.2.1 a) (ix i) v))) = cW E (cA S a (ix i) v) := cW_set hC.2.1 hq0 rfl (by show (a, Sum.inl (E.2.1 0, n, Sum.inl (va_up S.2.2.1 a (upd (S.2.2.1 a) (ix i) v) a))) = _; rw [va_up_self]) (fun b hb => cC_A0 b hb)
  have hP : va_P E.1 vwCl ((cW E S).set q (a, .inl (E.2.1 0, n, .inl (upd (S.2.2.1 a) (ix i) v)))) H1 := hP
  have hD : va_D A ((cW E S).set q (a, .inl (E.2.1 0, n, .inl (upd (S.2.2.1 a) (ix i) v)))) := hD
  rw [e9] at hP hD
  exact ⟨hP, hD, hS⟩
theorem cq_cst (hX : kX own p s m args c cc nL E A) (hC : cM E A s.heap S H locs) {a n : Nat} {i : Int32} {v : Int32} {P : kS → Prop} (hd : decode cc pc = .ok (.castore, 1)) (ha : hasA S a n 3) (hi : inR i n) (h : ∀ S1 : kS, S1 = cA S a (ix i) (vp_nar .char v) → P S1) (kk : ∀ (S1 : kS) (H : Heap) (locs : List Loc), cM E A s.heap S1 H locs → P S1 →  W p l e R s m args below meth c H locs cells slots Q (F0 m (pc + 1) ls rest)) : W p l e R s m args below meth c H locs cells slots Q (F0 m pc ls (.int v :: .int i :: .ref a :: rest)) := by
  obtain ⟨q, hq0, hq⟩ := cW_at (E := E) ha
  refine va_cast hX.1.1 hX.1.2.1 hX.2.1 hC.1 hC.2.1 hC.2.2 q 3 hq rfl (px_vp (inR_ix hi) (inR_lt hi)) hd (fun H1 locs1 hP hD hS => kk _ H1 locs1 ?_ (h _ rfl))
  rw [px_cl (inR_ix hi)] at hP hD
  have e9 : (cW E S).set q (a, .inl (E.2.1 3, n, .inl (upd (S.2.2.1 a) (ix i) (vp_nar .char v)))) = cW E (cA S a (ix i) (vp_nar .char v)) := cW_set hC.2.1 hq0 rfl (by show (a, Sum.inl (E.2.1 3, n, Sum.inl (va_up S.2.2.1 a (upd (S.2.2.1 a) (ix i) (vp_nar .char v)) a))) = _; rw [va_up_self]) (fun b hb => cC_A0 b hb)
  have hP : va_P E.1 vwCl ((cW E S).set q (a, .inl (E.2.1 3, n, .inl (upd (S.2.2.1 a) (ix i) (vp_nar .char v))))) H1 := hP
  have hD : va_D A ((cW E S).set q (a, .inl (E.2.1 3, n, .inl (upd (S.2.2.1 a) (ix i) (vp_nar .char v))))) := hD
  rw [e9] at hP hD
  exact ⟨hP, hD, hS⟩
theorem cq_lst (hX : kX own p s m args c cc nL E A) (hC : cM E A s.heap S H locs) {a n : Nat} {i : Int32} {v : Int64} {P : kS → Prop} (hd : decode cc pc = .ok (.lastore, 1)) (ha : hasA S a n 1) (hi : inR i n) (h : ∀ S1 : kS, S1 = cL S a (ix i) v → P S1) (kk : ∀ (S1 : kS) (H : Heap) (locs : List Loc), cM E A s.heap S1 H locs → P S1 →  W p l e R s m args below meth c H locs cells slots Q (F0 m (pc + 1) ls rest)) : W p l e R s m args below meth c H locs cells slots Q (F0 m pc ls (.long v :: .int i :: .ref a :: rest)) := by
  obtain ⟨q, hq0, hq⟩ := cW_at (E := E) ha
  refine va_last hX.1.1 hX.1.2.1 hX.2.1 hC.1 hC.2.1 hC.2.2 q 1 hq rfl (px_vp (inR_ix hi) (inR_lt hi)) hd (fun H1 locs1 hP hD hS => kk _ H1 locs1 ?_ (h _ rfl))
  rw [px_cl (inR_ix hi)] at hP hD
  have e9 : (cW E S).set q (a, .inl (E.2.1 1, n, .inr (.inl (vp_updL (S.2.2.2.1 a) (ix i) v)))) = cW E (cL S a (ix i) v) := cW_set hC.2.1 hq0 rfl (by show (a, Sum.inl (E.2.1 1, n, Sum.inr (Sum.inl (va_up S.2.2.2.1 a (vp_updL (S.2.2.2.1 a) (ix i) v) a)))) = _; rw [va_up_self]) (fun b hb => cC_L0 b hb)
  have hP : va_P E.1 vwCl ((cW E S).set q (a, .inl (E.2.1 1, n, .inr (.inl (vp_updL (S.2.2.2.1 a) (ix i) v))))) H1 := hP
  have hD : va_D A ((cW E S).set q (a, .inl (E.2.1 1, n, .inr (.inl (vp_updL (S.2.2.2.1 a) (ix i) v))))) := hD
  rw [e9] at hP hD
  exact ⟨hP, hD, hS⟩
theorem cq_qst (hX : kX own p s m args c cc nL E A) (hC : cM E A s.heap S H locs) {a n b : Nat} {i : Int32} {P : kS → Prop} (hd : decode cc pc = .ok (.aastore, 1)) (ha : hasA S a n 2) (hb : hasO S b 9) (hi : inR i n) (h : ∀ S1 : kS, S1 = cQ S a (ix i) (some b) → P S1) (kk : ∀ (S1 : kS) (H : Heap) (locs : List Loc), cM E A s.heap S1 H locs → P S1 →  W p l e R s m args below meth c H locs cells slots Q (F0 m (pc + 1) ls rest)) : W p l e R s m args below meth c H locs cells slots Q (F0 m pc ls (.ref b :: .int i :: .ref a :: rest)) := by
  obtain ⟨q, hq0, hq⟩ := cW_at (E := E) ha
  obtain ⟨w, -, hw⟩ := cW_at (E := E) hb
  refine va_astq hX.1.1 hX.1.2.1 hX.2.1 hC.1 hC.2.1 hC.2.2 q 2 w 9 hq rfl hw rfl (px_vp (inR_ix hi) (inR_lt hi)) hd (fun H1 locs1 hP hD hS => kk _ H1 locs1 ?_ (h _ rfl))
  rw [px_cl (inR_ix hi)] at hP hD
  have e9 : (cW E S).set q (a, .inl (E.2.1 2, n, .inr (.inr (.inr (.inr (va_up (S.2.2.2.2.1 a) (ix i) (some b))))))) = cW E (cQ S a (ix i) (some b)) := cW_set hC.2.1 hq0 rfl (by show (a, Sum.inl (E.2.1 2, n, Sum.inr (Sum.inr (Sum.inr (Sum.inr (va_up S.2.2.2.2.1 a (va_up (S.2.2.2.2.1 a) (ix i) (some b)) a)))))) = _; rw [va_up_self]) (fun b hb => cC_Q0 b hb)
  have hP : va_P E.1 vwCl ((cW E S).set q (a, .inl (E.2.1 2, n, .inr (.inr (.inr (.inr (va_up (S.2.2.2.2.1 a) (ix i) (some b)))))))) H1 := hP
  have hD : va_D A ((cW E S).set q (a, .inl (E.2.1 2, n, .inr (.inr (.inr (.inr (va_up (S.2.2.2.2.1 a) (ix i) (some b)))))))) := hD
  rw [e9] at hP hD
  exact ⟨hP, hD, hS⟩
theorem lo_aload_n (hx : p.tables.exec = Jvm.exec) (hb : c.code = cc) {k : Fin 4} {i : Nat} {o : Option Nat} (hdg : decode cc pc = .ok (.aload_n k, 1)) (hi : (k : Nat) = i) (hl : ls[i]? = some (.val (va_rf o))) (kk : W p l e R s m args below meth c H locs cells slots Q (F0 m (pc + 1) ls (va_rf o :: rest))) : W p l e R s m args below meth c H locs cells slots Q (F0 m pc ls rest) := by
  cases o with
  | none => exact lv_aload_nN hx hb hdg hi hl kk
  | some a => exact lv_aload_n hx hb hdg hi hl kk
theorem lo_aload (hx : p.tables.exec = Jvm.exec) (hb : c.code = cc) {i : Nat} {o : Option Nat} (hdg : decode cc pc = .ok (.aload i, 2)) (hl : ls[i]? = some (.val (va_rf o))) (kk : W p l e R s m args below meth c H locs cells slots Q (F0 m (pc + 2) ls (va_rf o :: rest))) : W p l e R s m args below meth c H locs cells slots Q (F0 m pc ls rest) := by
  cases o with
  | none => exact lv_aloadN hx hb hdg hl kk
  | some a => exact lv_aload hx hb hdg hl kk
theorem lo_astore_n (hx : p.tables.exec = Jvm.exec) (hb : c.code = cc) {k : Fin 4} {i nL : Nat} {o : Option Nat} {lv lv' : List (Nat × Value)} (hdg : decode cc pc = .ok (.astore_n k, 1)) (hi : (k : Nat) = i) (h : lv_has ls nL lv) (hn : i < nL) (hl : (i, va_rf o) :: lv.filter (fun q => !(q.1 == i) && !(q.1 + 1 == i && q.2.category == 2)) = lv') (kk : ∀ ls : Array Slot, lv_has ls nL lv' → W p l e R s m args below meth c H locs cells slots Q (F0 m (pc + 1) ls rest)) : W p l e R s m args below meth c H locs cells slots Q (F0 m pc ls (va_rf o :: rest)) := by
  cases o with
  | none => exact lv_astore_nN hx hb hdg hi h hn hl kk
  | some a => exact lv_astore_n hx hb hdg hi h hn hl kk
theorem lo_astore (hx : p.tables.exec = Jvm.exec) (hb : c.code = cc) {i nL : Nat} {o : Option Nat} {lv lv' : List (Nat × Value)} (hdg : decode cc pc = .ok (.astore i, 2)) (h : lv_has ls nL lv) (hn : i < nL) (hl : (i, va_rf o) :: lv.filter (fun q => !(q.1 == i) && !(q.1 + 1 == i && q.2.category == 2)) = lv') (kk : ∀ ls : Array Slot, lv_has ls nL lv' → W p l e R s m args below meth c H locs cells slots Q (F0 m (pc + 2) ls rest)) : W p l e R s m args below meth c H locs cells slots Q (F0 m pc ls (va_rf o :: rest)) := by
  cases o with
  | none => exact lv_astoreN hx hb hdg h hn hl kk
  | some a => exact lv_astore hx hb hdg h hn hl kk
end CQ
