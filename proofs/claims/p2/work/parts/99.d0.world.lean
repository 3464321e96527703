
def Apart (a b : va_W) : Prop := ∀ (i j : Nat) (p q : Nat × va_E), a[i]? = some p → b[j]? = some q → p.1 ≠ q.1
theorem Apart_symm {a b : va_W} (h : Apart a b) : Apart b a := fun i j p q hi hj e => h j i q p hj hi e.symm
theorem keepB {D : va_G} {cl : List vw_C} {a a1 b : va_W} {H H1 : Heap} (hPb : va_P D cl b H) (hap : Apart a b) (hk : ∀ q : Nat, q < H.size → ¬ va_A a H.size q → H1[q]? = H[q]?) (hD1 : va_D (va_A a H.size) a1) : va_P D cl b H1 ∧ Apart a1 b := by
  have hlt : ∀ (k : Nat) (q : Nat × va_E), b[k]? = some q → q.1 < H.size := fun k q hq => (hPb k q hq).lt
  have hna : ∀ (k : Nat) (q : Nat × va_E), b[k]? = some q → ¬ va_A a H.size q.1 := fun k q hq h => by
    rcases h with ⟨i, e, hi⟩ | h
    · exact hap i k (q.1, e) q hi hq rfl
    · exact absurd h (Nat.not_le.mpr (hlt k q hq))
  refine ⟨hPb.kept (fun k q hq => hk q.1 (hlt k q hq) (hna k q hq)), fun i j p q hi hj e => ?_⟩
  have h := hD1.2 i p hi
  rw [e] at h
  exact hna j q hj h
section LK
variable {p : Program} {l : Launch} {e : Env} {R : Room} {s : State} {m : MethodId} {args : Array Value} {below : List Frame} {meth : Method} {c : Code} {H : Heap} {locs : List Loc} {cells slots : Nat} {Q : State → Prop} {cc : ByteArray} {nL pc : Nat} {ls : Array Slot} {rest : List Value} {E : kE} {A : Nat → Prop} {S : kS} {own : String}
variable {y : MethodName} {bytes : ByteArray} {mL n index fr lo mc : Nat} {ret : Option FieldType}
theorem lk_calli (As : List Value) {a ci N : Nat} {C : String} {T : u_T} (hc : vwCl[ci]? = some (C, T, N)) {Post : kS → Int32 → Prop} (hX : kX own p s m args c cc nL E A) (hC : cM E A s.heap S H locs) (ho : hasO S a ci) (hM : Met l y (.code y bytes mL ret :: tb) (mRm fr lo) (kPre E (.ref a :: As) S H.size) (kQi E S H.size Post) 0 0 (va_A (cW E S) H.size)) (cw : CallW R s args own C index y bytes mL ret (.code y bytes mL ret :: tb) (mRm fr lo) 0 0 n) (hn : As.length = n) (hls : ls.size = nL) (hW : (rest.map fun v => v.category).sum ≤ 8) (hf : cells ≤ R.cells ∧ slots ≤ R.slots) (hd : decode cc pc = .ok (.invokevirtual index, 3)) (kk : ∀ (r : Int32) (S1 : kS) (H1 : Heap) (locs1 : List Loc), cM E A s.heap S1 H1 locs1 → H.size ≤ H1.size → (∀ q : Nat, q < H.size → ¬ va_A (cW E S) H.size q → H1[q]? = H[q]?) → va_D (va_A (cW E S) H.size) (cW E S1) → Post S1 r → W p l e R s m args below meth c H1 locs1 cells slots Q (F0 m (pc + 3) ls (.int r :: rest))) : W p l e R s m args below meth c H locs cells slots Q (F0 m pc ls (As.reverse ++ .ref a :: rest)) := by
  have hFc := kM_free hX hC
  refine va_calli (va_runV (As := As) (rest := rest) hX.1 hM cw ⟨kPre_blind, kRecv hX hC hc ho, kPre_pay hX hC (.ref a :: As)⟩ rfl hn hls rfl (lv_room hW) hd hf) hC.2.2 (fun q _ h => hFc q h) hFc (fun r u t H1 locs1 ht hvm hw hB hz1 hk1 hS1 => ?_)
  obtain ⟨hp, hP1, hK1, hD1⟩ := hB
  subst hw
  rw [ht] at hP1
  exact kk _ u.2 H1 locs1 ⟨hP1, hD1.weaken (fun k q _ h => hFc q.1 h), hS1⟩ hz1 hk1 hD1 hp
theorem ln_calli (As : List Value) {a ci N : Nat} {C : String} {T : u_T} (hc : vwCl[ci]? = some (C, T, N)) {Post : kS → Int32 → Prop} (hX : kX own p s m args c cc nL E A) (hC : cM E A s.heap S H locs) (ho : hasO S a ci) (hM : Met l y (.code y bytes mL ret :: tb) (kRm fr lo mc (20 * mc)) (kPre E (.ref a :: As) S H.size) (nQi E S H.size mc Post) mc (20 * mc) (va_A (cW E S) H.size)) (cw : CallW R s args own C index y bytes mL ret (.code y bytes mL ret :: tb) (kRm fr lo mc (20 * mc)) mc (20 * mc) n) (hn : As.length = n) (hls : ls.size = nL) (hW : (rest.map fun v => v.category).sum ≤ 8) (hf : cells + mc ≤ R.cells ∧ slots + 20 * mc ≤ R.slots) (hd : decode cc pc = .ok (.invokevirtual index, 3)) (kk : ∀ (r : Int32) (S1 : kS) (H1 : Heap) (locs1 : List Loc), cM E A s.heap S1 H1 locs1 → H.size ≤ H1.size → (∀ q : Nat, q < H.size → ¬ va_A (cW E S) H.size q → H1[q]? = H[q]?) → va_D (va_A (cW E S) H.size) (cW E S1) → cnt S ≤ cnt S1 → cnt S1 ≤ cnt S + mc → Post S1 r → W p l e R s m args below meth c H1 locs1 (cells + (cnt S1 - cnt S)) (slots + 20 * (cnt S1 - cnt S)) Q (F0 m (pc + 3) ls (.int r :: rest))) : W p l e R s m args below meth c H locs cells slots Q (F0 m pc ls (As.reverse ++ .ref a :: rest)) := by
  have hFc := kM_free hX hC
  intro T hT X
  obtain ⟨v, st₀, t, T', L, h0, X', hL, e1, e2, ⟨⟨r, u, hv, hp, ⟨hP1, hK1, hD1⟩, hn1, hn2, hg⟩, hz, hk⟩, st⟩ := va_runV (As := As) (rest := rest) hX.1 hM cw ⟨kPre_blind, kRecv hX hC hc ho, kPre_pay hX hC (.ref a :: As)⟩ rfl hn hls rfl (lv_room hW) hd hf T hT X
  cases hv
  rw [h0] at hz hk hg
  rw [← e1] at hP1 hg hz hk
  have hS1 : va_S A s.heap T'.heap (locs ++ L) := ⟨Nat.le_trans hC.2.2.1 hz, fun q h1 h2 => by rw [hk q (Nat.lt_of_lt_of_le h1 hC.2.2.1) (fun z => h2 (hFc q z))]; exact hC.2.2.2.1 q h1 h2, fun q hq => by
      rcases List.mem_append.mp hq with h | h
      · exact hC.2.2.2.2 q h
      · exact hFc _ (hL q h)⟩
  have hx1 : H.size ≤ s.heap.size + cells := by rw [← hT]; exact X.same.2.2.1
  have hx2 : slN s.heap H ≤ slots := by rw [← hT]; exact X.same.2.2.2.2.1
  have hx3 : s.heap.size ≤ H.size := hC.2.2.1
  have hw := W_narrow (cells := cells + mc) (slots := slots + 20 * mc) (by have := hg.2.1; omega) (by rw [slN_add hx3 hg.1 hg.2.2.2]; have := hg.2.2.1; omega) (kk r u T'.heap (locs ++ L) ⟨hP1, hD1.weaken (fun k q _ h => hFc q.1 h), hS1⟩ hz hk hD1 hn1 hn2 hp)
  obtain ⟨t2, a1, b1⟩ := hw T' rfl X'
  exact ⟨t2, st t2 a1, b1⟩
end LK
section LM
variable {p : Program} {l : Launch} {e : Env} {R : Room} {s : State} {m : MethodId} {args : Array Value} {below : List Frame} {meth : Method} {c : Code} {H : Heap} {locs : List Loc} {cells slots : Nat} {Q : State → Prop} {cc : ByteArray} {nL pc : Nat} {ls : Array Slot} {rest : List Value} {E : mE} {A : Nat → Prop} {S : mS} {own : String}
/-- as mX, in a method of another class -/
def mXo (own : String) (p : Program) (s : State) (m : MethodId) (args : Array Value) (c : Code) (cc : ByteArray) (nL : Nat) (E : mE) (A : Nat → Prop) : Prop := CallFix p m c cc nL s args tb own ∧ va_K E.1 vwCl (mT E) s ∧ (∀ q : Nat, s.heap.size ≤ q → A q)
theorem mCo_free (hX : mXo own p s m args c cc nL E A) (hC : mC E A s.heap S H locs) : ∀ q, va_A (mW E S) H.size q → A q := by
  intro q h
  rcases h with ⟨k, e9, h⟩ | h
  · exact hC.2.1.2 k (q, e9) h
  · exact hX.2.2 q (Nat.le_trans hC.2.2.1 h)
variable {y : MethodName} {bytes : ByteArray} {mL n index fr lo : Nat} {ret : Option FieldType}
theorem lm_calli (As : List Value) {Post : mS → Int32 → Prop} (hX : mXo own p s m args c cc nL E A) (hC : mC E A s.heap S H locs) (hM : Met l y (.code y bytes mL ret :: tb) (mRm fr lo) (mPre E As S H.size) (mQi E S H.size Post) 0 0 (va_A (mW E S) H.size)) (cw : CallW R s args own RX12 index y bytes mL ret (.code y bytes mL ret :: tb) (mRm fr lo) 0 0 n) (hn : As.length = n) (hls : ls.size = nL) (hW : (rest.map fun v => v.category).sum ≤ 8) (hf : cells ≤ R.cells ∧ slots ≤ R.slots) (hd : decode cc pc = .ok (.invokevirtual index, 3)) (kk : ∀ (r : Int32) (S1 : mS) (H1 : Heap) (locs1 : List Loc), mC E A s.heap S1 H1 locs1 → H.size ≤ H1.size → (∀ q : Nat, q < H.size → ¬ va_A (mW E S) H.size q → H1[q]? = H[q]?) → va_D (va_A (mW E S) H.size) (mW E S1) → Post S1 r → W p l e R s m args below meth c H1 locs1 cells slots Q (F0 m (pc + 3) ls (.int r :: rest))) : W p l e R s m args below meth c H locs cells slots Q (F0 m pc ls (As.reverse ++ .ref E.2.1 :: rest)) := by
  have hFc := mCo_free hX hC
  refine va_calli (va_runV (As := As) (rest := rest) hX.1 hM cw ⟨mPre_blind, va_recv hX.2.1 hC.1 (ci := 12) (q0 := 0) rfl rfl, fun U hU hW => ⟨rfl, by rw [hU], by rw [hU]; exact hC.1, va_K.moved hW.alike hX.2.1, hC.2.1.weaken (fun _ _ _ _ => trivial)⟩⟩ rfl hn hls rfl (lv_room hW) hd hf) hC.2.2 (fun q _ h => hFc q h) hFc (fun r u t H1 locs1 ht hvm hw hB hz1 hk1 hS1 => ?_)
  obtain ⟨hp, hP1, hK1, hD1⟩ := hB
  subst hw
  rw [ht] at hP1
  exact kk _ u.2 H1 locs1 ⟨hP1, hD1.weaken (fun k q _ h => hFc q.1 h), hS1⟩ hz1 hk1 hD1 hp
end LM
