
def cnt (S : kS) : Nat := S.2.2.2.2.2.length
def cNw (S : kS) (q : Nat) (k : cK) : kS := (fun f b => if b = q then 0 else S.1 f b, fun f b => if b = q then none else S.2.1 f b, fun b => if b = q then fun _ => 0 else S.2.2.1 b, fun b => if b = q then fun _ => 0 else S.2.2.2.1 b, fun b => if b = q then fun _ => none else S.2.2.2.2.1 b, S.2.2.2.2.2 ++ [(q, k)])
theorem cnt_N {S : kS} {q : Nat} {k : cK} : cnt (cNw S q k) = cnt S + 1 := by unfold cnt cNw; simp
theorem cC_N0 {E : kE} {S : kS} {q : Nat} {k : cK} (b : Nat × cK) (h : b.1 ≠ q) : cC E (cNw S q k) b = cC E S b := by
  obtain ⟨b, w⟩ := b
  cases w with
  | inl ci =>
    show (b, Sum.inr (ci, cO ci (fun g => if b = q then _ else _) (fun g => if b = q then _ else _))) = _
    simp only [if_neg h]
    rfl
  | inr w =>
    show (b, Sum.inl (_, _, cY (cNw S q k) b w.2)) = _
    have e : cY (cNw S q k) b w.2 = cY S b w.2 := by
      unfold cY cNw
      dsimp only
      simp only [if_neg h]
    rw [e]; rfl
theorem cW_new {E : kE} {S : kS} {A : Nat → Prop} {q : Nat} {k : cK} {e : va_E} (hD : va_D A (cW E S ++ [(q, e)])) (he : (q, e) = cC E (cNw S q k) (q, k)) : cW E S ++ [(q, e)] = cW E (cNw S q k) ∧ ∀ k' : cK, (q, k') ∉ S.2.2.2.2.2 := by
  have e1 : ∀ w : Nat × cK, (cC E S w).1 = w.1 := fun w => by unfold cC; cases w.2 <;> rfl
  have key : ∀ b ∈ S.2.2.2.2.2, b.1 ≠ q := by
    intro b hb hq
    obtain ⟨i, hi, hi2⟩ := cW_at (E := E) hb
    have hlt : i < (cW E S).length := by
      rcases Nat.lt_or_ge i (cW E S).length with h | h
      · exact h
      · rw [List.getElem?_eq_none h] at hi2; cases hi2
    have h1 : (cW E S ++ [(q, e)])[i]? = some (cC E S b) := by rw [List.getElem?_append_left hlt]; exact hi2
    have h2 : (cW E S ++ [(q, e)])[(cW E S).length]? = some (q, e) := by rw [List.getElem?_append_right (Nat.le_refl _), Nat.sub_self]; rfl
    have := hD.1 i (cW E S).length _ _ h1 h2 (by rw [e1]; exact hq)
    omega
  refine ⟨?_, fun k' hk => key (q, k') hk rfl⟩
  have h3 : cW E (cNw S q k) = S.2.2.2.2.2.map (cC E (cNw S q k)) ++ [cC E (cNw S q k) (q, k)] := by
    unfold cW
    show (S.2.2.2.2.2 ++ [(q, k)]).map _ = _
    rw [List.map_append]; rfl
  rw [h3, ← he]
  congr 1
  unfold cW
  exact List.map_congr_left (fun b hb => (cC_N0 b (key b hb)).symm)
def slN (H0 H1 : Heap) : Nat := ((H1.toList.drop H0.size).map (·.slots.size)).sum
def Gr (H0 H1 : Heap) (g : Nat) : Prop := H0.size ≤ H1.size ∧ H1.size ≤ H0.size + g ∧ slN H0 H1 ≤ 20 * g ∧ ∀ (a : Nat) (c : Cell), H0[a]? = some c → ∃ c' : Cell, H1[a]? = some c' ∧ c'.slots.size = c.slots.size
theorem szs_take {H0 H1 : Heap} (h : H0.size ≤ H1.size) (hs : ∀ (a : Nat) (c : Cell), H0[a]? = some c → ∃ c' : Cell, H1[a]? = some c' ∧ c'.slots.size = c.slots.size) : (H1.toList.take H0.size).map (·.slots.size) = H0.toList.map (·.slots.size) := by
  apply List.ext_getElem?
  intro i
  rw [List.getElem?_map, List.getElem?_map, List.getElem?_take]
  by_cases hi : i < H0.size
  · rw [if_pos hi]
    obtain ⟨c', h1, h2⟩ := hs i H0[i] (Array.getElem?_eq_getElem hi)
    rw [← Array.getElem?_toList] at h1
    rw [h1, Array.getElem?_toList, Array.getElem?_eq_getElem hi]
    exact congrArg some h2
  · rw [if_neg hi, List.getElem?_eq_none (by rw [Array.length_toList]; omega)]
theorem slN_add {H0 H1 H2 : Heap} (h01 : H0.size ≤ H1.size) (h12 : H1.size ≤ H2.size) (hs : ∀ (a : Nat) (c : Cell), H1[a]? = some c → ∃ c' : Cell, H2[a]? = some c' ∧ c'.slots.size = c.slots.size) : slN H0 H2 = slN H0 H1 + slN H1 H2 := by
  unfold slN
  have e1 := szs_take h12 hs
  have e2 : H2.toList.drop H0.size = (H2.toList.take H1.size).drop H0.size ++ H2.toList.drop H1.size := by
    conv => lhs; rw [← List.take_append_drop H1.size H2.toList]
    rw [List.drop_append_of_le_length (by rw [List.length_take, Array.length_toList]; omega)]
  rw [e2, List.map_append, List.sum_append, List.map_drop, e1, ← List.map_drop]
theorem Gr_rf {H : Heap} : Gr H H 0 := ⟨Nat.le_refl _, Nat.le_refl _, by unfold slN; rw [List.drop_of_length_le (by rw [Array.length_toList]; exact Nat.le_refl _)]; exact Nat.le_refl _, fun _ c h => ⟨c, h, rfl⟩⟩
section AN
variable {p : Program} {l : Launch} {e : Env} {R : Room} {s : State} {m : MethodId} {args : Array Value} {below : List Frame} {meth : Method} {c : Code} {H : Heap} {locs : List Loc} {cells slots : Nat} {Q : State → Prop}
theorem Gr_of {T : State} (X : Stand p l e R s m args below meth c T locs cells slots) {g : Nat} (h1 : cells ≤ g) (h2 : slots ≤ 20 * g) : Gr s.heap T.heap g := by
  have h := X.same
  refine ⟨h.2.1, Nat.le_trans h.2.2.1 (Nat.add_le_add_left h1 _), Nat.le_trans h.2.2.2.2.1 h2, fun a c9 hc => ?_⟩
  obtain ⟨c', q1, -, q2, -⟩ := h.2.2.2.2.2 a c9 hc
  exact ⟨c', q1, q2⟩
theorem W_narrow {g : JFrame} {k n : Nat} (h1 : H.size ≤ s.heap.size + k) (h2 : slN s.heap H ≤ n) (kk : W p l e R s m args below meth c H locs k n Q g) : W p l e R s m args below meth c H locs cells slots Q g := fun T hT X =>
  kk T hT { X with same := ⟨X.same.1, X.same.2.1, by show T.heap.size ≤ _; rw [hT]; exact h1, X.same.2.2.2.1, by show slN s.heap T.heap ≤ n; rw [hT]; exact h2, X.same.2.2.2.2.2⟩ }
end AN
def kRm (fr lo mc ms : Nat) : Room := { frames := fr, cells := mc, slots := ms, locals := lo }
section AQ
variable {p : Program} {l : Launch} {e : Env} {R : Room} {s : State} {m : MethodId} {args : Array Value} {below : List Frame} {meth : Method} {c : Code} {H : Heap} {locs : List Loc} {cells slots : Nat} {Q : State → Prop} {cc : ByteArray} {nL pc : Nat} {ls : Array Slot} {rest : List Value} {E : kE} {A : Nat → Prop} {S : kS} {own : String}
theorem cq_new (hX : kX own p s m args c cc nL E A) (hC : cM E A s.heap S H locs) {ci N index : Nat} {C : String} {T : u_T} (hc : vwCl[ci]? = some (C, T, N)) (hin : ∀ w ∈ u_ws C T N, w ∈ tb) (ty : Nat → FieldType) (hty : ∀ k, k < N → parseFieldDescriptor (T k).2.2.1 = some (ty k)) (hcl : Cond.classLink own index C ∈ tb) (hinst : Cond.instantiable C N ∈ tb) (hini : Cond.initialized C ∈ tb) (hfs : ∀ j, j < N → defaultValue (ty j) = vp_V (cO ci (fun _ => 0) (fun _ => none)) j) (hcells : cells + 1 ≤ R.cells) (hslots : slots + N ≤ R.slots) {P : Nat → kS → Prop} (hd : decode cc pc = .ok (.new index, 3)) (h : ∀ q : Nat, (∀ k : cK, (q, k) ∉ S.2.2.2.2.2) → ∀ S1 : kS, S1 = cNw S q (.inl ci) → P q S1) (kk : ∀ (q : Nat) (S1 : kS) (H : Heap), cM E A s.heap S1 H locs → P q S1 → W p l e R s m args below meth c H locs (cells + 1) (slots + N) Q (F0 m (pc + 3) ls (.ref q :: rest))) : W p l e R s m args below meth c H locs cells slots Q (F0 m pc ls rest) := by
  refine va_new (ci := ci) hX.1.1 hX.1.2.1 hX.1.2.2.2.2 hin ty hty hX.1.2.2.2.1 (hX.1.2.2.2.2 _ hcl) (hX.1.2.2.2.2 _ hinst) (hX.1.2.2.2.2 _ hini) hX.2.1 hC.1 hC.2.1 hC.2.2 hX.2.2.1 hc hfs hcells hslots hd (fun q H1 hP hD hS => ?_)
  obtain ⟨e9, hf9⟩ := cW_new (S := S) (k := .inl ci) hD (by
    show _ = (q, Sum.inr (ci, cO ci (fun g => if q = q then _ else _) (fun g => if q = q then _ else _)))
    simp only [if_true])
  rw [e9] at hP hD
  exact kk q _ H1 ⟨hP, hD, hS⟩ (h q hf9 _ rfl)
theorem cq_newa (hX : kX own p s m args c cc nL E A) (hC : cM E A s.heap S H locs) {n : Int32} {N : Nat} (harr : Cond.arrayClass .int ∈ tb) (hn : ¬ n < 0) (hN : n.toNatClampNeg = N) (hbytes : N * componentBytes .int ≤ 536870912) (hcells : cells + 1 ≤ R.cells) (hslots : slots + N ≤ R.slots) {P : Nat → kS → Prop} (hd : decode cc pc = .ok (.newarray .int, 2)) (h : ∀ q : Nat, (∀ k : cK, (q, k) ∉ S.2.2.2.2.2) → ∀ S1 : kS, S1 = cNw S q (.inr (N, 0)) → P q S1) (kk : ∀ (q : Nat) (S1 : kS) (H : Heap), cM E A s.heap S1 H locs → P q S1 → W p l e R s m args below meth c H locs (cells + 1) (slots + N) Q (F0 m (pc + 2) ls (.ref q :: rest))) : W p l e R s m args below meth c H locs cells slots Q (F0 m pc ls (.int n :: rest)) := by
  refine va_newa (D := E.1) (atype := .int) (a0 := (N, .inl (fun _ => 0))) hX.1.1 hX.1.2.1 (hX.1.2.2.2.2 _ harr) rfl hX.2.1 hC.1 hC.2.1 hC.2.2 hX.2.2.1 (fun _ => rfl) hn hN hbytes hcells hslots hd (fun q kA H1 hK hP hD hS => ?_)
  have hk : kA = E.2.1 0 := by
    have h1 := (hK.2 5 (kA, .int) rfl).2
    have h2 := (hK.2 0 (E.2.1 0, .int) rfl).2
    exact Option.some.inj (h1.symm.trans h2)
  subst hk
  obtain ⟨e9, hf9⟩ := cW_new (S := S) (k := .inr (N, 0)) hD (by
    show _ = (q, Sum.inl (E.2.1 0, N, Sum.inl (if q = q then _ else _)))
    rw [if_pos rfl])
  rw [e9] at hP hD
  exact kk q _ H1 ⟨hP, hD, hS⟩ (h q hf9 _ rfl)
theorem cq_putFi (hX : kX own p s m args c cc nL E A) (hC : cM E A s.heap S H locs) {ci k f N index : Nat} {C ref : String} {T : u_T} (hc : vwCl[ci]? = some (C, T, N)) (hin : ∀ w ∈ u_ws C T N, w ∈ tb) (hk : k < N) (hw : Cond.fieldLink own index ref (T k).2.1 (T k).2.2.1 ∈ tb) (hsame : ∀ x, s.fieldFound? (T k).1 (T k).2.1 (T k).2.2.1 = some x → s.fieldFound? ref (T k).2.1 (T k).2.2.1 = some x) (ty0 : Nat → FieldType) (hty : ∀ k, k < N → parseFieldDescriptor (T k).2.2.1 = some (ty0 k)) (hnm : ∀ a, a < N → ∀ b, b < N → a ≠ b → (T a).2.1 ≠ (T b).2.1) (hfin : (T k).2.2.2 = true) (hin2 : meth.name = "<init>") (hdecl : (T k).1 = own) {a : Nat} {v : Int32} (hn : narrow (ty0 k) (.int v) = (.int v)) (hfit : fits (ty0 k) (.int v) = true) (hl : ∀ (z : Nat → Int32) (r : Nat → Option Nat), k < (cO ci z r).length) (hs : ∀ (z : Nat → Int32) (r : Nat → Option Nat) (v : Int32), (cO ci z r).set k (.int v) = cO ci (upd z f v) r) {P : kS → Prop} (hd : decode cc pc = .ok (.putfield index, 3)) (ho : hasO S a ci) (h : ∀ S1 : kS, S1 = cI S f a v → P S1) (kk : ∀ (S1 : kS) (H : Heap) (locs : List Loc), cM E A s.heap S1 H locs → P S1 → W p l e R s m args below meth c H locs cells slots Q (F0 m (pc + 3) ls rest)) : W p l e R s m args below meth c H locs cells slots Q (F0 m pc ls (.int v :: .ref a :: rest)) := by
  obtain ⟨i, hi0, hi⟩ := cW_at (E := E) ho
  refine va_putF hX.1.1 hX.1.2.1 hX.1.2.2.2.2 hin ty0 hty hnm hX.1.2.2.2.1 hX.2.1 hC.1 hC.2.1 hC.2.2 i hi hc k hk (hX.1.2.2.2.2 _ hw) hsame hfin hin2 hdecl (hty k hk) hn hfit (hl _ _) hd (fun H1 locs1 hP hD hS => kk _ H1 locs1 ?_ (h _ rfl))
  have e9 := cW_set (S1 := cI S f a v) hC.2.1 hi0 rfl (cC_I hs) (fun b hb => cC_I0 b hb)
  have hP : va_P E.1 vwCl ((cW E S).set i (a, .inr (ci, (cO ci (fun g => S.1 g a) (fun g => S.2.1 g a)).set k (.int v)))) H1 := hP
  have hD : va_D A ((cW E S).set i (a, .inr (ci, (cO ci (fun g => S.1 g a) (fun g => S.2.1 g a)).set k (.int v)))) := hD
  have e9 : (cW E S).set i (a, .inr (ci, (cO ci (fun g => S.1 g a) (fun g => S.2.1 g a)).set k (.int v))) = cW E (cI S f a v) := e9
  rw [e9] at hP hD
  exact ⟨hP, hD, hS⟩
theorem cq_putFr (hX : kX own p s m args c cc nL E A) (hC : cM E A s.heap S H locs) {ci k f N index : Nat} {C ref : String} {T : u_T} (hc : vwCl[ci]? = some (C, T, N)) (hin : ∀ w ∈ u_ws C T N, w ∈ tb) (hk : k < N) (hw : Cond.fieldLink own index ref (T k).2.1 (T k).2.2.1 ∈ tb) (hsame : ∀ x, s.fieldFound? (T k).1 (T k).2.1 (T k).2.2.1 = some x → s.fieldFound? ref (T k).2.1 (T k).2.2.1 = some x) (ty0 : Nat → FieldType) (hty : ∀ k, k < N → parseFieldDescriptor (T k).2.2.1 = some (ty0 k)) (hnm : ∀ a, a < N → ∀ b, b < N → a ≠ b → (T a).2.1 ≠ (T b).2.1) (hfin : (T k).2.2.2 = true) (hin2 : meth.name = "<init>") (hdecl : (T k).1 = own) {a : Nat} {v : Nat} (hn : narrow (ty0 k) (.ref v) = (.ref v)) (hfit : fits (ty0 k) (.ref v) = true) (hl : ∀ (z : Nat → Int32) (r : Nat → Option Nat), k < (cO ci z r).length) (hs : ∀ (z : Nat → Int32) (r : Nat → Option Nat) (v : Option Nat), (cO ci z r).set k (va_rf v) = cO ci z (va_up r f v)) {P : kS → Prop} (hd : decode cc pc = .ok (.putfield index, 3)) (ho : hasO S a ci) (h : ∀ S1 : kS, S1 = cR S f a (some v) → P S1) (kk : ∀ (S1 : kS) (H : Heap) (locs : List Loc), cM E A s.heap S1 H locs → P S1 → W p l e R s m args below meth c H locs cells slots Q (F0 m (pc + 3) ls rest)) : W p l e R s m args below meth c H locs cells slots Q (F0 m pc ls (.ref v :: .ref a :: rest)) := by
  obtain ⟨i, hi0, hi⟩ := cW_at (E := E) ho
  refine va_putF hX.1.1 hX.1.2.1 hX.1.2.2.2.2 hin ty0 hty hnm hX.1.2.2.2.1 hX.2.1 hC.1 hC.2.1 hC.2.2 i hi hc k hk (hX.1.2.2.2.2 _ hw) hsame hfin hin2 hdecl (hty k hk) hn hfit (hl _ _) hd (fun H1 locs1 hP hD hS => kk _ H1 locs1 ?_ (h _ rfl))
  have e9 := cW_set (S1 := cR S f a (some v)) hC.2.1 hi0 rfl (cC_R hs) (fun b hb => cC_R0 b hb)
  have hP : va_P E.1 vwCl ((cW E S).set i (a, .inr (ci, (cO ci (fun g => S.1 g a) (fun g => S.2.1 g a)).set k (.ref v)))) H1 := hP
  have hD : va_D A ((cW E S).set i (a, .inr (ci, (cO ci (fun g => S.1 g a) (fun g => S.2.1 g a)).set k (.ref v)))) := hD
  have e9 : (cW E S).set i (a, .inr (ci, (cO ci (fun g => S.1 g a) (fun g => S.2.1 g a)).set k (.ref v))) = cW E (cR S f a (some v)) := e9
  rw [e9] at hP hD
  exact ⟨hP, hD, hS⟩
end AQ
def nQi (E : kE) (S : kS) (sz mc : Nat) (Post : kS → Int32 → Prop) : Array Value → State → Outcome → State → Prop := fun _ st oc t => (∃ (r : Int32) (u : kS), oc = .returned (some (.int r)) ∧ Post u r ∧ kB E S sz u t ∧ cnt S ≤ cnt u ∧ cnt u ≤ cnt S + mc ∧ Gr st.heap t.heap (cnt u - cnt S)) ∧ va_F (va_A (cW E S) sz) st t
def nMi (l : Launch) (y : MethodName) (cc : ByteArray) (mL : Nat) (ret : Option FieldType) (fr lo mc : Nat) (As : List Value) (S : kS) (Post : kS → Int32 → Prop) : Prop := ∀ (E : kE) (sz : Nat), Met l y (.code y cc mL ret :: tb) (kRm fr lo mc (20 * mc)) (kPre E As S sz) (nQi E S sz mc Post) mc (20 * mc) (va_A (cW E S) sz)
def nQv (E : kE) (S : kS) (sz mc : Nat) (Post : kS → Prop) : Array Value → State → Outcome → State → Prop := fun _ st oc t => (∃ (u : kS), oc = .returned (none) ∧ Post u ∧ kB E S sz u t ∧ cnt S ≤ cnt u ∧ cnt u ≤ cnt S + mc ∧ Gr st.heap t.heap (cnt u - cnt S)) ∧ va_F (va_A (cW E S) sz) st t
def nMv (l : Launch) (y : MethodName) (cc : ByteArray) (mL : Nat) (ret : Option FieldType) (fr lo mc : Nat) (As : List Value) (S : kS) (Post : kS → Prop) : Prop := ∀ (E : kE) (sz : Nat), Met l y (.code y cc mL ret :: tb) (kRm fr lo mc (20 * mc)) (kPre E As S sz) (nQv E S sz mc Post) mc (20 * mc) (va_A (cW E S) sz)
def nQo (E : kE) (S : kS) (sz mc : Nat) (Post : kS → Option Nat → Prop) : Array Value → State → Outcome → State → Prop := fun _ st oc t => (∃ (r : Option Nat) (u : kS), oc = .returned (some (va_rf r)) ∧ Post u r ∧ kB E S sz u t ∧ cnt S ≤ cnt u ∧ cnt u ≤ cnt S + mc ∧ Gr st.heap t.heap (cnt u - cnt S)) ∧ va_F (va_A (cW E S) sz) st t
def nMo (l : Launch) (y : MethodName) (cc : ByteArray) (mL : Nat) (ret : Option FieldType) (fr lo mc : Nat) (As : List Value) (S : kS) (Post : kS → Option Nat → Prop) : Prop := ∀ (E : kE) (sz : Nat), Met l y (.code y cc mL ret :: tb) (kRm fr lo mc (20 * mc)) (kPre E As S sz) (nQo E S sz mc Post) mc (20 * mc) (va_A (cW E S) sz)
section NV
variable {p : Program} {l : Launch} {e : Env} {R : Room} {s : State} {m : MethodId} {args : Array Value} {below : List Frame} {meth : Method} {c : Code} {H : Heap} {locs : List Loc} {cells slots : Nat} {Q : State → Prop} {cc : ByteArray} {nL pc : Nat} {ls : Array Slot} {rest : List Value} {E : kE} {A : Nat → Prop} {S : kS} {own : String}
variable {y : MethodName} {bytes : ByteArray} {mL n index fr lo mc : Nat} {ret : Option FieldType}
theorem nv_calli (As : List Value) {a ci N : Nat} {C : String} {T : u_T} (hc : vwCl[ci]? = some (C, T, N)) {Post : kS → Int32 → Prop} (hX : kX own p s m args c cc nL E A) (hC : cM E A s.heap S H locs) (ho : hasO S a ci) (hM : Met l y (.code y bytes mL ret :: tb) (kRm fr lo mc (20 * mc)) (kPre E (.ref a :: As) S H.size) (nQi E S H.size mc Post) mc (20 * mc) (va_A (cW E S) H.size)) (cw : CallW R s args own C index y bytes mL ret (.code y bytes mL ret :: tb) (kRm fr lo mc (20 * mc)) mc (20 * mc) n) (hn : As.length = n) (hls : ls.size = nL) (hW : (rest.map fun v => v.category).sum ≤ 8) (hf : cells + mc ≤ R.cells ∧ slots + 20 * mc ≤ R.slots) (hd : decode cc pc = .ok (.invokevirtual index, 3)) (kk : ∀ (r : Int32) (S1 : kS) (H1 : Heap) (locs1 : List Loc), cM E A s.heap S1 H1 locs1 → cnt S ≤ cnt S1 → cnt S1 ≤ cnt S + mc → Post S1 r → W p l e R s m args below meth c H1 locs1 (cells + (cnt S1 - cnt S)) (slots + 20 * (cnt S1 - cnt S)) Q (F0 m (pc + 3) ls (.int r :: rest))) : W p l e R s m args below meth c H locs cells slots Q (F0 m pc ls (As.reverse ++ .ref a :: rest)) := by
  have hFc := kM_free hX hC
  intro T hT X
  obtain ⟨v, st₀, t, T', L, h0, X', hL, e1, e2, ⟨⟨r, u, hv, hp, ⟨hP1, hK1, hD1⟩, hn1, hn2, hg⟩, hz, hk⟩, st⟩ := va_runV (As := As) (rest := rest) hX.1 hM cw ⟨kPre_blind, kRecv hX hC hc ho, kPre_pay hX hC (.ref a :: As)⟩ rfl hn hls rfl (lv_room hW) hd hf T hT X
  cases hv
  rw [h0] at hz hk hg
  rw [← e1] at hP1 hg
  have hS1 : va_S A s.heap T'.heap (locs ++ L) := ⟨Nat.le_trans hC.2.2.1 (by rw [e1]; exact hz), fun q h1 h2 => by rw [e1, hk q (Nat.lt_of_lt_of_le h1 hC.2.2.1) (fun z => h2 (hFc q z))]; exact hC.2.2.2.1 q h1 h2, fun q hq => by
      rcases List.mem_append.mp hq with h | h
      · exact hC.2.2.2.2 q h
      · exact hFc _ (hL q h)⟩
  have hx1 : H.size ≤ s.heap.size + cells := by rw [← hT]; exact X.same.2.2.1
  have hx2 : slN s.heap H ≤ slots := by rw [← hT]; exact X.same.2.2.2.2.1
  have hx3 : s.heap.size ≤ H.size := hC.2.2.1
  have hw := W_narrow (cells := cells + mc) (slots := slots + 20 * mc) (by have := hg.2.1; omega) (by rw [slN_add hx3 hg.1 hg.2.2.2]; have := hg.2.2.1; omega) (kk r u T'.heap (locs ++ L) ⟨hP1, hD1.weaken (fun k q _ h => hFc q.1 h), hS1⟩ hn1 hn2 hp)
  obtain ⟨t2, a1, b1⟩ := hw T' rfl X'
  exact ⟨t2, st t2 a1, b1⟩
theorem nv_callv (As : List Value) {a ci N : Nat} {C : String} {T : u_T} (hc : vwCl[ci]? = some (C, T, N)) {Post : kS → Prop} (hX : kX own p s m args c cc nL E A) (hC : cM E A s.heap S H locs) (ho : hasO S a ci) (hM : Met l y (.code y bytes mL ret :: tb) (kRm fr lo mc (20 * mc)) (kPre E (.ref a :: As) S H.size) (nQv E S H.size mc Post) mc (20 * mc) (va_A (cW E S) H.size)) (cw : CallW R s args own C index y bytes mL ret (.code y bytes mL ret :: tb) (kRm fr lo mc (20 * mc)) mc (20 * mc) n) (hn : As.length = n) (hls : ls.size = nL) (hW : (rest.map fun v => v.category).sum ≤ 8) (hf : cells + mc ≤ R.cells ∧ slots + 20 * mc ≤ R.slots) (hd : decode cc pc = .ok (.invokevirtual index, 3)) (kk : ∀ (S1 : kS) (H1 : Heap) (locs1 : List Loc), cM E A s.heap S1 H1 locs1 → cnt S ≤ cnt S1 → cnt S1 ≤ cnt S + mc → Post S1 → W p l e R s m args below meth c H1 locs1 (cells + (cnt S1 - cnt S)) (slots + 20 * (cnt S1 - cnt S)) Q (F0 m (pc + 3) ls (rest))) : W p l e R s m args below meth c H locs cells slots Q (F0 m pc ls (As.reverse ++ .ref a :: rest)) := by
  have hFc := kM_free hX hC
  intro T hT X
  obtain ⟨v, st₀, t, T', L, h0, X', hL, e1, e2, ⟨⟨u, hv, hp, ⟨hP1, hK1, hD1⟩, hn1, hn2, hg⟩, hz, hk⟩, st⟩ := va_runV (As := As) (rest := rest) hX.1 hM cw ⟨kPre_blind, kRecv hX hC hc ho, kPre_pay hX hC (.ref a :: As)⟩ rfl hn hls rfl (lv_room hW) hd hf T hT X
  cases hv
  rw [h0] at hz hk hg
  rw [← e1] at hP1 hg
  have hS1 : va_S A s.heap T'.heap (locs ++ L) := ⟨Nat.le_trans hC.2.2.1 (by rw [e1]; exact hz), fun q h1 h2 => by rw [e1, hk q (Nat.lt_of_lt_of_le h1 hC.2.2.1) (fun z => h2 (hFc q z))]; exact hC.2.2.2.1 q h1 h2, fun q hq => by
      rcases List.mem_append.mp hq with h | h
      · exact hC.2.2.2.2 q h
      · exact hFc _ (hL q h)⟩
  have hx1 : H.size ≤ s.heap.size + cells := by rw [← hT]; exact X.same.2.2.1
  have hx2 : slN s.heap H ≤ slots := by rw [← hT]; exact X.same.2.2.2.2.1
  have hx3 : s.heap.size ≤ H.size := hC.2.2.1
  have hw := W_narrow (cells := cells + mc) (slots := slots + 20 * mc) (by have := hg.2.1; omega) (by rw [slN_add hx3 hg.1 hg.2.2.2]; have := hg.2.2.1; omega) (kk u T'.heap (locs ++ L) ⟨hP1, hD1.weaken (fun k q _ h => hFc q.1 h), hS1⟩ hn1 hn2 hp)
  obtain ⟨t2, a1, b1⟩ := hw T' rfl X'
  exact ⟨t2, st t2 a1, b1⟩
theorem nv_callo (As : List Value) {a ci N : Nat} {C : String} {T : u_T} (hc : vwCl[ci]? = some (C, T, N)) {Post : kS → Option Nat → Prop} (hX : kX own p s m args c cc nL E A) (hC : cM E A s.heap S H locs) (ho : hasO S a ci) (hM : Met l y (.code y bytes mL ret :: tb) (kRm fr lo mc (20 * mc)) (kPre E (.ref a :: As) S H.size) (nQo E S H.size mc Post) mc (20 * mc) (va_A (cW E S) H.size)) (cw : CallW R s args own C index y bytes mL ret (.code y bytes mL ret :: tb) (kRm fr lo mc (20 * mc)) mc (20 * mc) n) (hn : As.length = n) (hls : ls.size = nL) (hW : (rest.map fun v => v.category).sum ≤ 8) (hf : cells + mc ≤ R.cells ∧ slots + 20 * mc ≤ R.slots) (hd : decode cc pc = .ok (.invokevirtual index, 3)) (kk : ∀ (r : Option Nat) (S1 : kS) (H1 : Heap) (locs1 : List Loc), cM E A s.heap S1 H1 locs1 → cnt S ≤ cnt S1 → cnt S1 ≤ cnt S + mc → Post S1 r → W p l e R s m args below meth c H1 locs1 (cells + (cnt S1 - cnt S)) (slots + 20 * (cnt S1 - cnt S)) Q (F0 m (pc + 3) ls (va_rf r :: rest))) : W p l e R s m args below meth c H locs cells slots Q (F0 m pc ls (As.reverse ++ .ref a :: rest)) := by
  have hFc := kM_free hX hC
  intro T hT X
  obtain ⟨v, st₀, t, T', L, h0, X', hL, e1, e2, ⟨⟨r, u, hv, hp, ⟨hP1, hK1, hD1⟩, hn1, hn2, hg⟩, hz, hk⟩, st⟩ := va_runV (As := As) (rest := rest) hX.1 hM cw ⟨kPre_blind, kRecv hX hC hc ho, kPre_pay hX hC (.ref a :: As)⟩ rfl hn hls rfl (lv_room hW) hd hf T hT X
  cases hv
  rw [h0] at hz hk hg
  rw [← e1] at hP1 hg
  have hS1 : va_S A s.heap T'.heap (locs ++ L) := ⟨Nat.le_trans hC.2.2.1 (by rw [e1]; exact hz), fun q h1 h2 => by rw [e1, hk q (Nat.lt_of_lt_of_le h1 hC.2.2.1) (fun z => h2 (hFc q z))]; exact hC.2.2.2.1 q h1 h2, fun q hq => by
      rcases List.mem_append.mp hq with h | h
      · exact hC.2.2.2.2 q h
      · exact hFc _ (hL q h)⟩
  have hx1 : H.size ≤ s.heap.size + cells := by rw [← hT]; exact X.same.2.2.1
  have hx2 : slN s.heap H ≤ slots := by rw [← hT]; exact X.same.2.2.2.2.1
  have hx3 : s.heap.size ≤ H.size := hC.2.2.1
  have hw := W_narrow (cells := cells + mc) (slots := slots + 20 * mc) (by have := hg.2.1; omega) (by rw [slN_add hx3 hg.1 hg.2.2.2]; have := hg.2.2.1; omega) (kk r u T'.heap (locs ++ L) ⟨hP1, hD1.weaken (fun k q _ h => hFc q.1 h), hS1⟩ hn1 hn2 hp)
  obtain ⟨t2, a1, b1⟩ := hw T' rfl X'
  exact ⟨t2, st t2 a1, b1⟩
theorem nv_callI (As : List Value) {a : Nat} {Post : kS → Prop} (hX : kX own p s m args c cc nL E A) (hC : cM E A s.heap S H locs) (hM : Met l y (.code y bytes mL none :: tb) (kRm fr lo mc (20 * mc)) (kPre E (.ref a :: As) S H.size) (nQv E S H.size mc Post) mc (20 * mc) (va_A (cW E S) H.size)) (cw : CallB R s args own index y bytes mL none (.code y bytes mL none :: tb) (kRm fr lo mc (20 * mc)) mc (20 * mc) n ∧ y.name = "<init>" ∧ (Cond.instanceMethod y).before args s = true) (hn : As.length = n) (hls : ls.size = nL) (hW : (rest.map fun v => v.category).sum ≤ 8) (hf : cells + mc ≤ R.cells ∧ slots + 20 * mc ≤ R.slots) (hd : decode cc pc = .ok (.invokespecial index, 3)) (kk : ∀ (S1 : kS) (H1 : Heap) (locs1 : List Loc), cM E A s.heap S1 H1 locs1 → cnt S ≤ cnt S1 → cnt S1 ≤ cnt S + mc → Post S1 → W p l e R s m args below meth c H1 locs1 (cells + (cnt S1 - cnt S)) (slots + 20 * (cnt S1 - cnt S)) Q (F0 m (pc + 3) ls rest)) : W p l e R s m args below meth c H locs cells slots Q (F0 m pc ls (As.reverse ++ .ref a :: rest)) := by
  have hFc := kM_free hX hC
  intro T hT X
  obtain ⟨v, st₀, t, T', L, h0, X', hL, e1, e2, ⟨⟨u, hv, hp, ⟨hP1, hK1, hD1⟩, hn1, hn2, hg⟩, hz, hk⟩, st⟩ := va_runI (As := As) (rest := rest) hX.1 hM cw ⟨kPre_blind, kPre_pay hX hC (.ref a :: As)⟩ rfl hn hls rfl (lv_room hW) hd hf T hT X
  cases hv
  rw [h0] at hz hk hg
  rw [← e1] at hP1 hg
  have hS1 : va_S A s.heap T'.heap (locs ++ L) := ⟨Nat.le_trans hC.2.2.1 (by rw [e1]; exact hz), fun q h1 h2 => by rw [e1, hk q (Nat.lt_of_lt_of_le h1 hC.2.2.1) (fun z => h2 (hFc q z))]; exact hC.2.2.2.1 q h1 h2, fun q hq => by
      rcases List.mem_append.mp hq with h | h
      · exact hC.2.2.2.2 q h
      · exact hFc _ (hL q h)⟩
  have hx1 : H.size ≤ s.heap.size + cells := by rw [← hT]; exact X.same.2.2.1
  have hx2 : slN s.heap H ≤ slots := by rw [← hT]; exact X.same.2.2.2.2.1
  have hx3 : s.heap.size ≤ H.size := hC.2.2.1
  have hw := W_narrow (cells := cells + mc) (slots := slots + 20 * mc) (by have := hg.2.1; omega) (by rw [slN_add hx3 hg.1 hg.2.2.2]; have := hg.2.2.1; omega) (kk u T'.heap (locs ++ L) ⟨hP1, hD1.weaken (fun k q _ h => hFc q.1 h), hS1⟩ hn1 hn2 hp)
  obtain ⟨t2, a1, b1⟩ := hw T' rfl X'
  exact ⟨t2, st t2 a1, b1⟩
theorem nv_callIN (As : List Value) {a : Nat} {host : String} {Post : kS → Prop} (hX : kX own p s m args c cc nL E A) (hC : cM E A s.heap S H locs) (hM : Met l y (.code y bytes mL none :: tb) (mRm fr lo) (kPre E (.ref a :: As) S H.size) (kQv E S H.size Post) 0 0 (va_A (cW E S) H.size)) (cw : va_CN R s args own index y host bytes mL none (.code y bytes mL none :: tb) (mRm fr lo) 0 0 n ∧ y.name = "<init>" ∧ (Cond.instanceMethod y).before args s = true) (hn : As.length = n) (hls : ls.size = nL) (hW : (rest.map fun v => v.category).sum ≤ 8) (hf : cells ≤ R.cells ∧ slots ≤ R.slots) (hd : decode cc pc = .ok (.invokespecial index, 3)) (kk : ∀ (S1 : kS) (H1 : Heap) (locs1 : List Loc), cM E A s.heap S1 H1 locs1 → Post S1 → W p l e R s m args below meth c H1 locs1 cells slots Q (F0 m (pc + 3) ls rest)) : W p l e R s m args below meth c H locs cells slots Q (F0 m pc ls (As.reverse ++ .ref a :: rest)) := by
  have hFc := kM_free hX hC
  refine va_callv (va_runIN (As := As) (rest := rest) hX.1 hM cw ⟨kPre_blind, kPre_pay hX hC (.ref a :: As)⟩ rfl hn hls rfl (lv_room hW) hd hf) hC.2.2 (fun q _ h => hFc q h) hFc (fun u t H1 locs1 ht hvm _ hB hz1 hk1 hS1 => ?_)
  obtain ⟨hp, hP1, hK1, hD1⟩ := hB
  rw [ht] at hP1
  exact kk u H1 locs1 ⟨hP1, hD1.weaken (fun k q _ h => hFc q.1 h), hS1⟩ hp
end NV
section NO
variable {l : Launch} {y : MethodName} {cc : ByteArray} {mL fr lo mc : Nat} {As : List Value} {S : kS} {own : String}
theorem nv_ofi {Post : kS → Int32 → Prop} (hy : plainName y.cls = true) (hyc : y.cls = own) (hlen : (lg_sl As).length ≤ mL)
    (body : ∀ (E : kE) (p : Program) (e : Env) (R : Room) (s : State) (m : MethodId) (args : Array Value) (below : List Frame) (meth : Method) (c : Code) (A : Nat → Prop) (ls : Array Slot) (Q : State → Prop), fr ≤ R.frames → lo ≤ R.locals → mc ≤ R.cells → 20 * mc ≤ R.slots → kX own p s m args c cc mL E A → cM E A s.heap S s.heap [] → lv_has ls mL (lv_args 0 As) → c.maxLocals = mL → (y.name = "<init>" → meth.name = "<init>") → (∀ (r : Int32) (S1 : kS) (n : Nat) (H : Heap) (locs : List Loc) (pc : Nat) (ls1 : Array Slot), cM E A s.heap S1 H locs → cnt S1 = n → cnt S ≤ n → n ≤ cnt S + mc → Post S1 r → decode cc pc = .ok (.ireturn, 1) → W p l e R s m args below meth c H locs (n - cnt S) (20 * (n - cnt S)) Q (F0 m pc ls1 [.int r])) → W p l e R s m args below meth c s.heap [] (cnt S - cnt S) (20 * (cnt S - cnt S)) Q (F0 m 0 ls [])) : nMi l y cc mL (some .int) fr lo mc As S Post := by
  intro E sz
  refine Met.ofW (cc := cc) (maxL := mL) (ret := (some .int)) hy rfl ?_
  intro p e s m args below meth c s₁ B hml hv
  obtain ⟨rfl, hsz, hP, hK, hD0, hZ⟩ := hv
  have hr := B.returns
  have hlocks := B.notSynchronized
  have hD := hD0.self (sz := s.heap.size)
  subst hsz
  have hts : ∀ w ∈ tb, w.before _ s = true := fun w h => atoms_spec (ws := (.code y cc mL (some .int) :: tb)) B.pre w (List.mem_cons_of_mem _ h)
  rw [lg_entry_eq]
  have hb9 := body E p e (headSpec (.code y cc mL (some .int) :: tb) (kRm fr lo mc (20 * mc))).room s m _ below meth c (va_A (cW E S) s.heap.size) _ (MQ below (nQi E S s.heap.size mc Post) As.toArray s mc (20 * mc) (va_A (cW E S) s.heap.size)) (Nat.le_refl _) (Nat.le_refl _) (Nat.le_refl _) (Nat.le_refl _) ⟨⟨B.exec, B.bytes, hml, by rw [← hyc]; exact findClass_of_methodNamed B.named, hts⟩, hK, fun q h => Or.inr h, hZ⟩ ⟨hP, hD, va_S.rf⟩ (lv_entry _ hlen) hml (fun h9 => by rw [← h9]; exact (name_of_methodNamed B.named B.method).1) (fun r S1 n H locs pc ls1 hC h1 h2 h3 hp hd T hT X => ?_)
  · simp only [Nat.sub_self, Nat.mul_zero] at hb9
    exact hb9
  · subst h1
    have hg := Gr_of X (Nat.le_refl _) (Nat.le_refl _)
    exact (W.widen (show cnt S1 - cnt S ≤ mc by omega) (show 20 * (cnt S1 - cnt S) ≤ 20 * mc by omega) (W.iret (v := r) B.exec B.bytes hr (fun t ht hW => ⟨⟨r, S1, rfl, hp, ⟨by rw [ht]; exact hC.1, va_K.moved hW.alike hK, hC.2.1⟩, h2, h3, by rw [ht, ← hT]; exact hg⟩, hC.2.2.F ht⟩) hC.2.2.2.2 hd)) T hT X
theorem nv_ofv {Post : kS → Prop} (hy : plainName y.cls = true) (hyc : y.cls = own) (hlen : (lg_sl As).length ≤ mL)
    (body : ∀ (E : kE) (p : Program) (e : Env) (R : Room) (s : State) (m : MethodId) (args : Array Value) (below : List Frame) (meth : Method) (c : Code) (A : Nat → Prop) (ls : Array Slot) (Q : State → Prop), fr ≤ R.frames → lo ≤ R.locals → mc ≤ R.cells → 20 * mc ≤ R.slots → kX own p s m args c cc mL E A → cM E A s.heap S s.heap [] → lv_has ls mL (lv_args 0 As) → c.maxLocals = mL → (y.name = "<init>" → meth.name = "<init>") → (∀ (S1 : kS) (n : Nat) (H : Heap) (locs : List Loc) (pc : Nat) (ls1 : Array Slot), cM E A s.heap S1 H locs → cnt S1 = n → cnt S ≤ n → n ≤ cnt S + mc → Post S1 → decode cc pc = .ok (.return_, 1) → W p l e R s m args below meth c H locs (n - cnt S) (20 * (n - cnt S)) Q (F0 m pc ls1 [])) → W p l e R s m args below meth c s.heap [] (cnt S - cnt S) (20 * (cnt S - cnt S)) Q (F0 m 0 ls [])) : nMv l y cc mL none fr lo mc As S Post := by
  intro E sz
  refine Met.ofW (cc := cc) (maxL := mL) (ret := none) hy rfl ?_
  intro p e s m args below meth c s₁ B hml hv
  obtain ⟨rfl, hsz, hP, hK, hD0, hZ⟩ := hv
  have hr := B.returns
  have hlocks := B.notSynchronized
  have hD := hD0.self (sz := s.heap.size)
  subst hsz
  have hts : ∀ w ∈ tb, w.before _ s = true := fun w h => atoms_spec (ws := (.code y cc mL none :: tb)) B.pre w (List.mem_cons_of_mem _ h)
  rw [lg_entry_eq]
  have hb9 := body E p e (headSpec (.code y cc mL none :: tb) (kRm fr lo mc (20 * mc))).room s m _ below meth c (va_A (cW E S) s.heap.size) _ (MQ below (nQv E S s.heap.size mc Post) As.toArray s mc (20 * mc) (va_A (cW E S) s.heap.size)) (Nat.le_refl _) (Nat.le_refl _) (Nat.le_refl _) (Nat.le_refl _) ⟨⟨B.exec, B.bytes, hml, by rw [← hyc]; exact findClass_of_methodNamed B.named, hts⟩, hK, fun q h => Or.inr h, hZ⟩ ⟨hP, hD, va_S.rf⟩ (lv_entry _ hlen) hml (fun h9 => by rw [← h9]; exact (name_of_methodNamed B.named B.method).1) (fun S1 n H locs pc ls1 hC h1 h2 h3 hp hd T hT X => ?_)
  · simp only [Nat.sub_self, Nat.mul_zero] at hb9
    exact hb9
  · subst h1
    have hg := Gr_of X (Nat.le_refl _) (Nat.le_refl _)
    exact (W.widen (show cnt S1 - cnt S ≤ mc by omega) (show 20 * (cnt S1 - cnt S) ≤ 20 * mc by omega) (W.vret B.exec B.bytes hr (fun t ht hW => ⟨⟨S1, rfl, hp, ⟨by rw [ht]; exact hC.1, va_K.moved hW.alike hK, hC.2.1⟩, h2, h3, by rw [ht, ← hT]; exact hg⟩, hC.2.2.F ht⟩) hC.2.2.2.2 hd)) T hT X
theorem nv_ofo {C9 : String} {Post : kS → Option Nat → Prop} (hy : plainName y.cls = true) (hyc : y.cls = own) (hlen : (lg_sl As).length ≤ mL)
    (body : ∀ (E : kE) (p : Program) (e : Env) (R : Room) (s : State) (m : MethodId) (args : Array Value) (below : List Frame) (meth : Method) (c : Code) (A : Nat → Prop) (ls : Array Slot) (Q : State → Prop), fr ≤ R.frames → lo ≤ R.locals → mc ≤ R.cells → 20 * mc ≤ R.slots → kX own p s m args c cc mL E A → cM E A s.heap S s.heap [] → lv_has ls mL (lv_args 0 As) → c.maxLocals = mL → (y.name = "<init>" → meth.name = "<init>") → (∀ (r : Option Nat) (S1 : kS) (n : Nat) (H : Heap) (locs : List Loc) (pc : Nat) (ls1 : Array Slot), cM E A s.heap S1 H locs → cnt S1 = n → cnt S ≤ n → n ≤ cnt S + mc → Post S1 r → decode cc pc = .ok (.areturn, 1) → W p l e R s m args below meth c H locs (n - cnt S) (20 * (n - cnt S)) Q (F0 m pc ls1 [va_rf r])) → W p l e R s m args below meth c s.heap [] (cnt S - cnt S) (20 * (cnt S - cnt S)) Q (F0 m 0 ls [])) : nMo l y cc mL (some (.object C9)) fr lo mc As S Post := by
  intro E sz
  refine Met.ofW (cc := cc) (maxL := mL) (ret := (some (.object C9))) hy rfl ?_
  intro p e s m args below meth c s₁ B hml hv
  obtain ⟨rfl, hsz, hP, hK, hD0, hZ⟩ := hv
  have hr := B.returns
  have hlocks := B.notSynchronized
  have hD := hD0.self (sz := s.heap.size)
  subst hsz
  have hts : ∀ w ∈ tb, w.before _ s = true := fun w h => atoms_spec (ws := (.code y cc mL (some (.object C9)) :: tb)) B.pre w (List.mem_cons_of_mem _ h)
  rw [lg_entry_eq]
  have hb9 := body E p e (headSpec (.code y cc mL (some (.object C9)) :: tb) (kRm fr lo mc (20 * mc))).room s m _ below meth c (va_A (cW E S) s.heap.size) _ (MQ below (nQo E S s.heap.size mc Post) As.toArray s mc (20 * mc) (va_A (cW E S) s.heap.size)) (Nat.le_refl _) (Nat.le_refl _) (Nat.le_refl _) (Nat.le_refl _) ⟨⟨B.exec, B.bytes, hml, by rw [← hyc]; exact findClass_of_methodNamed B.named, hts⟩, hK, fun q h => Or.inr h, hZ⟩ ⟨hP, hD, va_S.rf⟩ (lv_entry _ hlen) hml (fun h9 => by rw [← h9]; exact (name_of_methodNamed B.named B.method).1) (fun r S1 n H locs pc ls1 hC h1 h2 h3 hp hd T hT X => ?_)
  · simp only [Nat.sub_self, Nat.mul_zero] at hb9
    exact hb9
  · subst h1
    have hg := Gr_of X (Nat.le_refl _) (Nat.le_refl _)
    exact (W.widen (show cnt S1 - cnt S ≤ mc by omega) (show 20 * (cnt S1 - cnt S) ≤ 20 * mc by omega) (W.aret (v := va_rf r) B.exec B.bytes hr (Or.inl ⟨C9, rfl⟩) rf_rf (fun t ht hW => ⟨⟨r, S1, rfl, hp, ⟨by rw [ht]; exact hC.1, va_K.moved hW.alike hK, hC.2.1⟩, h2, h3, by rw [ht, ← hT]; exact hg⟩, hC.2.2.F ht⟩) hC.2.2.2.2 hd)) T hT X
end NO
