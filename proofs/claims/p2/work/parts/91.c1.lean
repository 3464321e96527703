
def kPre (E : kE) (As : List Value) (S : kS) (sz : Nat) : Array Value → State → Prop := va_Pc As (fun U => U.heap.size = sz ∧ va_P E.1 vwCl (cW E S) U.heap ∧ va_K E.1 vwCl (cT E) U ∧ va_D (fun _ => True) (cW E S) ∧ kZ E (va_A (cW E S) sz) U U.heap)
def kB (E : kE) (S : kS) (sz : Nat) (S1 : kS) (t : State) : Prop := va_P E.1 vwCl (cW E S1) t.heap ∧ va_K E.1 vwCl (cT E) t ∧ va_D (va_A (cW E S) sz) (cW E S1)
def kQi (E : kE) (S : kS) (sz : Nat) (Post : kS → Int32 → Prop) : Array Value → State → Outcome → State → Prop := va_Qi (fun (r : Int32) (u : Int32 × kS) => r = u.1) (fun (u : Int32 × kS) t => Post u.2 u.1 ∧ kB E S sz u.2 t) (va_A (cW E S) sz)
def kQl (E : kE) (S : kS) (sz : Nat) (Post : kS → Int64 → Prop) : Array Value → State → Outcome → State → Prop := va_Ql (fun (r : Int64) (u : Int64 × kS) => r = u.1) (fun (u : Int64 × kS) t => Post u.2 u.1 ∧ kB E S sz u.2 t) (va_A (cW E S) sz)
def kQv (E : kE) (S : kS) (sz : Nat) (Post : kS → Prop) : Array Value → State → Outcome → State → Prop := va_Qv (fun (_ : kS) => True) (fun (u : kS) t => Post u ∧ kB E S sz u t) (va_A (cW E S) sz)
def kQo (E : kE) (S : kS) (sz : Nat) (Post : kS → Option Nat → Prop) : Array Value → State → Outcome → State → Prop := fun _ st oc t => (∃ (r : Option Nat) (u : kS), oc = .returned (some (va_rf r)) ∧ Post u r ∧ kB E S sz u t) ∧ va_F (va_A (cW E S) sz) st t
theorem kPre_blind {E : kE} {As : List Value} {S : kS} {sz : Nat} : FrameBlind (kPre E As S sz) := fun a U g mk q => by
  obtain ⟨q0, q1, qP, qK, qD, qZ⟩ := q
  exact ⟨q0, q1, qP, va_K.moved (u := U) (U := U.calling g mk a) (Vm.Alike.refl U.vm) qK, qD, kZ_blind (U := U) (U1 := U.calling g mk a) rfl (va_Nw.same (u := U) rfl rfl qZ.2.2.2.1) (Vm.Alike.refl U.vm) qZ⟩
def kMi (l : Launch) (y : MethodName) (cc : ByteArray) (mL : Nat) (ret : Option FieldType) (fr lo : Nat) (As : List Value) (S : kS) (Post : kS → Int32 → Prop) : Prop := ∀ (E : kE) (sz : Nat), Met l y (.code y cc mL ret :: tb) (mRm fr lo) (kPre E As S sz) (kQi E S sz Post) 0 0 (va_A (cW E S) sz)
def kMl (l : Launch) (y : MethodName) (cc : ByteArray) (mL : Nat) (ret : Option FieldType) (fr lo : Nat) (As : List Value) (S : kS) (Post : kS → Int64 → Prop) : Prop := ∀ (E : kE) (sz : Nat), Met l y (.code y cc mL ret :: tb) (mRm fr lo) (kPre E As S sz) (kQl E S sz Post) 0 0 (va_A (cW E S) sz)
def kMv (l : Launch) (y : MethodName) (cc : ByteArray) (mL : Nat) (ret : Option FieldType) (fr lo : Nat) (As : List Value) (S : kS) (Post : kS → Prop) : Prop := ∀ (E : kE) (sz : Nat), Met l y (.code y cc mL ret :: tb) (mRm fr lo) (kPre E As S sz) (kQv E S sz Post) 0 0 (va_A (cW E S) sz)
def kMo (l : Launch) (y : MethodName) (cc : ByteArray) (mL : Nat) (ret : Option FieldType) (fr lo : Nat) (As : List Value) (S : kS) (Post : kS → Option Nat → Prop) : Prop := ∀ (E : kE) (sz : Nat), Met l y (.code y cc mL ret :: tb) (mRm fr lo) (kPre E As S sz) (kQo E S sz Post) 0 0 (va_A (cW E S) sz)
section KV
variable {p : Program} {l : Launch} {e : Env} {R : Room} {s : State} {m : MethodId} {args : Array Value} {below : List Frame} {meth : Method} {c : Code} {H : Heap} {locs : List Loc} {cells slots : Nat} {Q : State → Prop} {cc : ByteArray} {nL pc : Nat} {ls : Array Slot} {rest : List Value} {E : kE} {A : Nat → Prop} {S : kS} {own : String}
theorem kM_free (hX : kX own p s m args c cc nL E A) (hC : cM E A s.heap S H locs) : ∀ q, va_A (cW E S) H.size q → A q := by
  intro q h
  rcases h with ⟨k, e9, h⟩ | h
  · exact hC.2.1.2 k (q, e9) h
  · exact hX.2.2.1 q (Nat.le_trans hC.2.2.1 h)
theorem kPre_pay (hX : kX own p s m args c cc nL E A) (hC : cM E A s.heap S H locs) (As : List Value) : ∀ U : State, U.heap = H → s.WarmedH U.vm → kPre E As S H.size As.toArray U := fun U hU hW => ⟨rfl, by rw [hU], by rw [hU]; exact hC.1, va_K.moved hW.alike hX.2.1, hC.2.1.weaken (fun _ _ _ _ => trivial), kZ_pay hX.2.2.2 hC.2.2.2.1 (kM_free hX hC) hU hW⟩
theorem kRecv (hX : kX own p s m args c cc nL E A) (hC : cM E A s.heap S H locs) {a ci N : Nat} {C : String} {T : u_T} (hc : vwCl[ci]? = some (C, T, N)) (ho : hasO S a ci) : ∃ cell : Cell, H[a]? = some cell ∧ cell.vm.isStatics = false ∧ s.vm.findClass C = some cell.cls := by
  obtain ⟨i, -, hi⟩ := cW_at (E := E) ho
  exact va_recv (q := (C, T, N)) hX.2.1 hC.1 hc hi
variable {y : MethodName} {bytes : ByteArray} {mL n index fr lo : Nat} {ret : Option FieldType}
theorem kv_calli (As : List Value) {a ci N : Nat} {C : String} {T : u_T} (hc : vwCl[ci]? = some (C, T, N)) {Post : kS → Int32 → Prop} (hX : kX own p s m args c cc nL E A) (hC : cM E A s.heap S H locs) (ho : hasO S a ci) (hM : Met l y (.code y bytes mL ret :: tb) (mRm fr lo) (kPre E (.ref a :: As) S H.size) (kQi E S H.size Post) 0 0 (va_A (cW E S) H.size)) (cw : CallW R s args own C index y bytes mL ret (.code y bytes mL ret :: tb) (mRm fr lo) 0 0 n) (hn : As.length = n) (hls : ls.size = nL) (hW : (rest.map fun v => v.category).sum ≤ 8) (hf : cells ≤ R.cells ∧ slots ≤ R.slots) (hd : decode cc pc = .ok (.invokevirtual index, 3)) (kk : ∀ (r : Int32) (S1 : kS) (H1 : Heap) (locs1 : List Loc), cM E A s.heap S1 H1 locs1 → Post S1 r → W p l e R s m args below meth c H1 locs1 cells slots Q (F0 m (pc + 3) ls (.int r :: rest))) : W p l e R s m args below meth c H locs cells slots Q (F0 m pc ls (As.reverse ++ .ref a :: rest)) := by
  have hFc := kM_free hX hC
  refine va_calli (va_runV (As := As) (rest := rest) hX.1 hM cw ⟨kPre_blind, kRecv hX hC hc ho, kPre_pay hX hC (.ref a :: As)⟩ rfl hn hls rfl (lv_room hW) hd hf) hC.2.2 (fun q _ h => hFc q h) hFc (fun r u t H1 locs1 ht hvm hw hB hz1 hk1 hS1 => ?_)
  obtain ⟨hp, hP1, hK1, hD1⟩ := hB
  subst hw
  rw [ht] at hP1
  exact kk _ u.2 H1 locs1 ⟨hP1, hD1.weaken (fun k q _ h => hFc q.1 h), hS1⟩ hp
theorem kv_callsi (As : List Value) {Post : kS → Int32 → Prop} (hX : kX own p s m args c cc nL E A) (hC : cM E A s.heap S H locs) (hM : Met l y (.code y bytes mL ret :: tb) (mRm fr lo) (kPre E As S H.size) (kQi E S H.size Post) 0 0 (va_A (cW E S) H.size)) (cw : CallB R s args own index y bytes mL ret (.code y bytes mL ret :: tb) (mRm fr lo) 0 0 n ∧ (Cond.static y).before args s = true) (hn : As.length = n) (hls : ls.size = nL) (hW : (rest.map fun v => v.category).sum ≤ 8) (hf : cells ≤ R.cells ∧ slots ≤ R.slots) (hd : decode cc pc = .ok (.invokestatic index, 3)) (kk : ∀ (r : Int32) (S1 : kS) (H1 : Heap) (locs1 : List Loc), cM E A s.heap S1 H1 locs1 → Post S1 r → W p l e R s m args below meth c H1 locs1 cells slots Q (F0 m (pc + 3) ls (.int r :: rest))) : W p l e R s m args below meth c H locs cells slots Q (F0 m pc ls (As.reverse ++ rest)) := by
  have hFc := kM_free hX hC
  refine va_calli (va_runS (As := As) (rest := rest) hX.1 hM cw ⟨kPre_blind, kPre_pay hX hC As⟩ rfl hn hls rfl (lv_room hW) hd hf) hC.2.2 (fun q _ h => hFc q h) hFc (fun r u t H1 locs1 ht hvm hw hB hz1 hk1 hS1 => ?_)
  obtain ⟨hp, hP1, hK1, hD1⟩ := hB
  subst hw
  rw [ht] at hP1
  exact kk _ u.2 H1 locs1 ⟨hP1, hD1.weaken (fun k q _ h => hFc q.1 h), hS1⟩ hp
theorem kv_calll (As : List Value) {a ci N : Nat} {C : String} {T : u_T} (hc : vwCl[ci]? = some (C, T, N)) {Post : kS → Int64 → Prop} (hX : kX own p s m args c cc nL E A) (hC : cM E A s.heap S H locs) (ho : hasO S a ci) (hM : Met l y (.code y bytes mL ret :: tb) (mRm fr lo) (kPre E (.ref a :: As) S H.size) (kQl E S H.size Post) 0 0 (va_A (cW E S) H.size)) (cw : CallW R s args own C index y bytes mL ret (.code y bytes mL ret :: tb) (mRm fr lo) 0 0 n) (hn : As.length = n) (hls : ls.size = nL) (hW : (rest.map fun v => v.category).sum ≤ 8) (hf : cells ≤ R.cells ∧ slots ≤ R.slots) (hd : decode cc pc = .ok (.invokevirtual index, 3)) (kk : ∀ (r : Int64) (S1 : kS) (H1 : Heap) (locs1 : List Loc), cM E A s.heap S1 H1 locs1 → Post S1 r → W p l e R s m args below meth c H1 locs1 cells slots Q (F0 m (pc + 3) ls (.long r :: rest))) : W p l e R s m args below meth c H locs cells slots Q (F0 m pc ls (As.reverse ++ .ref a :: rest)) := by
  have hFc := kM_free hX hC
  refine va_calll (va_runV (As := As) (rest := rest) hX.1 hM cw ⟨kPre_blind, kRecv hX hC hc ho, kPre_pay hX hC (.ref a :: As)⟩ rfl hn hls rfl (lv_room hW) hd hf) hC.2.2 (fun q _ h => hFc q h) hFc (fun r u t H1 locs1 ht hvm hw hB hz1 hk1 hS1 => ?_)
  obtain ⟨hp, hP1, hK1, hD1⟩ := hB
  subst hw
  rw [ht] at hP1
  exact kk _ u.2 H1 locs1 ⟨hP1, hD1.weaken (fun k q _ h => hFc q.1 h), hS1⟩ hp
theorem kv_callsl (As : List Value) {Post : kS → Int64 → Prop} (hX : kX own p s m args c cc nL E A) (hC : cM E A s.heap S H locs) (hM : Met l y (.code y bytes mL ret :: tb) (mRm fr lo) (kPre E As S H.size) (kQl E S H.size Post) 0 0 (va_A (cW E S) H.size)) (cw : CallB R s args own index y bytes mL ret (.code y bytes mL ret :: tb) (mRm fr lo) 0 0 n ∧ (Cond.static y).before args s = true) (hn : As.length = n) (hls : ls.size = nL) (hW : (rest.map fun v => v.category).sum ≤ 8) (hf : cells ≤ R.cells ∧ slots ≤ R.slots) (hd : decode cc pc = .ok (.invokestatic index, 3)) (kk : ∀ (r : Int64) (S1 : kS) (H1 : Heap) (locs1 : List Loc), cM E A s.heap S1 H1 locs1 → Post S1 r → W p l e R s m args below meth c H1 locs1 cells slots Q (F0 m (pc + 3) ls (.long r :: rest))) : W p l e R s m args below meth c H locs cells slots Q (F0 m pc ls (As.reverse ++ rest)) := by
  have hFc := kM_free hX hC
  refine va_calll (va_runS (As := As) (rest := rest) hX.1 hM cw ⟨kPre_blind, kPre_pay hX hC As⟩ rfl hn hls rfl (lv_room hW) hd hf) hC.2.2 (fun q _ h => hFc q h) hFc (fun r u t H1 locs1 ht hvm hw hB hz1 hk1 hS1 => ?_)
  obtain ⟨hp, hP1, hK1, hD1⟩ := hB
  subst hw
  rw [ht] at hP1
  exact kk _ u.2 H1 locs1 ⟨hP1, hD1.weaken (fun k q _ h => hFc q.1 h), hS1⟩ hp
theorem kv_callv (As : List Value) {a ci N : Nat} {C : String} {T : u_T} (hc : vwCl[ci]? = some (C, T, N)) {Post : kS → Prop} (hX : kX own p s m args c cc nL E A) (hC : cM E A s.heap S H locs) (ho : hasO S a ci) (hM : Met l y (.code y bytes mL ret :: tb) (mRm fr lo) (kPre E (.ref a :: As) S H.size) (kQv E S H.size Post) 0 0 (va_A (cW E S) H.size)) (cw : CallW R s args own C index y bytes mL ret (.code y bytes mL ret :: tb) (mRm fr lo) 0 0 n) (hn : As.length = n) (hls : ls.size = nL) (hW : (rest.map fun v => v.category).sum ≤ 8) (hf : cells ≤ R.cells ∧ slots ≤ R.slots) (hd : decode cc pc = .ok (.invokevirtual index, 3)) (kk : ∀ (S1 : kS) (H1 : Heap) (locs1 : List Loc), cM E A s.heap S1 H1 locs1 → Post S1 → W p l e R s m args below meth c H1 locs1 cells slots Q (F0 m (pc + 3) ls (rest))) : W p l e R s m args below meth c H locs cells slots Q (F0 m pc ls (As.reverse ++ .ref a :: rest)) := by
  have hFc := kM_free hX hC
  refine va_callv (va_runV (As := As) (rest := rest) hX.1 hM cw ⟨kPre_blind, kRecv hX hC hc ho, kPre_pay hX hC (.ref a :: As)⟩ rfl hn hls rfl (lv_room hW) hd hf) hC.2.2 (fun q _ h => hFc q h) hFc (fun u t H1 locs1 ht hvm _ hB hz1 hk1 hS1 => ?_)
  obtain ⟨hp, hP1, hK1, hD1⟩ := hB
  rw [ht] at hP1
  exact kk u H1 locs1 ⟨hP1, hD1.weaken (fun k q _ h => hFc q.1 h), hS1⟩ hp
theorem kv_callo (As : List Value) {a ci N : Nat} {C : String} {T : u_T} (hc : vwCl[ci]? = some (C, T, N)) {Post : kS → Option Nat → Prop} (hX : kX own p s m args c cc nL E A) (hC : cM E A s.heap S H locs) (ho : hasO S a ci) (hM : Met l y (.code y bytes mL ret :: tb) (mRm fr lo) (kPre E (.ref a :: As) S H.size) (kQo E S H.size Post) 0 0 (va_A (cW E S) H.size)) (cw : CallW R s args own C index y bytes mL ret (.code y bytes mL ret :: tb) (mRm fr lo) 0 0 n) (hn : As.length = n) (hls : ls.size = nL) (hW : (rest.map fun v => v.category).sum ≤ 8) (hf : cells ≤ R.cells ∧ slots ≤ R.slots) (hd : decode cc pc = .ok (.invokevirtual index, 3)) (kk : ∀ (r : Option Nat) (S1 : kS) (H1 : Heap) (locs1 : List Loc), cM E A s.heap S1 H1 locs1 → Post S1 r → W p l e R s m args below meth c H1 locs1 cells slots Q (F0 m (pc + 3) ls (va_rf r :: rest))) : W p l e R s m args below meth c H locs cells slots Q (F0 m pc ls (As.reverse ++ .ref a :: rest)) := by
  have hFc := kM_free hX hC
  intro T hT X
  obtain ⟨v, st₀, t, T', L, h0, X', hL, e1, e2, ⟨⟨r, u, hv, hp, hP1, hK1, hD1⟩, hz, hk⟩, st⟩ := va_runV (As := As) (rest := rest) hX.1 hM cw ⟨kPre_blind, kRecv hX hC hc ho, kPre_pay hX hC (.ref a :: As)⟩ rfl hn hls rfl (lv_room hW) hd hf T hT X
  cases hv
  rw [h0] at hz hk
  rw [← e1] at hP1
  have hS1 : va_S A s.heap T'.heap (locs ++ L) := ⟨Nat.le_trans hC.2.2.1 (by rw [e1]; exact hz), fun q h1 h2 => by rw [e1, hk q (Nat.lt_of_lt_of_le h1 hC.2.2.1) (fun z => h2 (hFc q z))]; exact hC.2.2.2.1 q h1 h2, fun q hq => by
      rcases List.mem_append.mp hq with h | h
      · exact hC.2.2.2.2 q h
      · exact hFc _ (hL q h)⟩
  obtain ⟨t2, a1, b1⟩ := kk r u T'.heap (locs ++ L) ⟨hP1, hD1.weaken (fun k q _ h => hFc q.1 h), hS1⟩ hp T' rfl X'
  exact ⟨t2, st t2 a1, b1⟩
end KV
section KO
variable {l : Launch} {y : MethodName} {cc : ByteArray} {mL fr lo : Nat} {As : List Value} {S : kS} {own : String}
theorem kv_ofi {Post : kS → Int32 → Prop} (hy : plainName y.cls = true) (hyc : y.cls = own) (hlen : (lg_sl As).length ≤ mL)
    (body : ∀ (E : kE) (p : Program) (e : Env) (R : Room) (s : State) (m : MethodId) (args : Array Value) (below : List Frame) (meth : Method) (c : Code) (A : Nat → Prop) (ls : Array Slot) (Q : State → Prop), fr ≤ R.frames → lo ≤ R.locals → kX own p s m args c cc mL E A → cM E A s.heap S s.heap [] → lv_has ls mL (lv_args 0 As) → (∀ (r : Int32) (S1 : kS) (H : Heap) (locs : List Loc) (pc : Nat) (ls1 : Array Slot), cM E A s.heap S1 H locs → Post S1 r → decode cc pc = .ok (.ireturn, 1) → W p l e R s m args below meth c H locs 0 0 Q (F0 m pc ls1 [.int r])) → W p l e R s m args below meth c s.heap [] 0 0 Q (F0 m 0 ls [])) : kMi l y cc mL (some .int) fr lo As S Post := by
  intro E sz
  refine Met.ofW (cc := cc) (maxL := mL) (ret := (some .int)) hy rfl ?_
  intro p e s m args below meth c s₁ B hml hv
  obtain ⟨rfl, hsz, hP, hK, hD0, hZ⟩ := hv
  have hr := B.returns
  have hlocks := B.notSynchronized
  have hD := hD0.self (sz := s.heap.size)
  subst hsz
  have hts : ∀ w ∈ tb, w.before _ s = true := fun w h => atoms_spec (ws := (.code y cc mL (some .int) :: tb)) B.pre w (List.mem_cons_of_mem _ h)
  rw [lg_entry_eq]
  refine body E p e _ s m _ below meth c (va_A (cW E S) s.heap.size) _ _ (Nat.le_refl _) (Nat.le_refl _) ⟨⟨B.exec, B.bytes, hml, by rw [← hyc]; exact findClass_of_methodNamed B.named, hts⟩, hK, fun q h => Or.inr h, hZ⟩ ⟨hP, hD, va_S.rf⟩ (lv_entry _ hlen) (fun r S1 H locs pc ls1 hC hp hd => ?_)
  exact W.iret (v := r) B.exec B.bytes hr (fun t ht hW => ⟨⟨r, (r, S1), rfl, rfl, hp, by rw [ht]; exact hC.1, va_K.moved hW.alike hK, hC.2.1⟩, hC.2.2.F ht⟩) hC.2.2.2.2 hd
theorem kv_ofz {Post : kS → Int32 → Prop} (hy : plainName y.cls = true) (hyc : y.cls = own) (hlen : (lg_sl As).length ≤ mL)
    (body : ∀ (E : kE) (p : Program) (e : Env) (R : Room) (s : State) (m : MethodId) (args : Array Value) (below : List Frame) (meth : Method) (c : Code) (A : Nat → Prop) (ls : Array Slot) (Q : State → Prop), fr ≤ R.frames → lo ≤ R.locals → kX own p s m args c cc mL E A → cM E A s.heap S s.heap [] → lv_has ls mL (lv_args 0 As) → (∀ (r : Int32) (S1 : kS) (H : Heap) (locs : List Loc) (pc : Nat) (ls1 : Array Slot), cM E A s.heap S1 H locs → (r = 0 ∨ r = 1) → Post S1 r → decode cc pc = .ok (.ireturn, 1) → W p l e R s m args below meth c H locs 0 0 Q (F0 m pc ls1 [.int r])) → W p l e R s m args below meth c s.heap [] 0 0 Q (F0 m 0 ls [])) : kMi l y cc mL (some .boolean) fr lo As S Post := by
  intro E sz
  refine Met.ofW (cc := cc) (maxL := mL) (ret := (some .boolean)) hy rfl ?_
  intro p e s m args below meth c s₁ B hml hv
  obtain ⟨rfl, hsz, hP, hK, hD0, hZ⟩ := hv
  have hr := B.returns
  have hlocks := B.notSynchronized
  have hD := hD0.self (sz := s.heap.size)
  subst hsz
  have hts : ∀ w ∈ tb, w.before _ s = true := fun w h => atoms_spec (ws := (.code y cc mL (some .boolean) :: tb)) B.pre w (List.mem_cons_of_mem _ h)
  rw [lg_entry_eq]
  refine body E p e _ s m _ below meth c (va_A (cW E S) s.heap.size) _ _ (Nat.le_refl _) (Nat.le_refl _) ⟨⟨B.exec, B.bytes, hml, by rw [← hyc]; exact findClass_of_methodNamed B.named, hts⟩, hK, fun q h => Or.inr h, hZ⟩ ⟨hP, hD, va_S.rf⟩ (lv_entry _ hlen) (fun r S1 H locs pc ls1 hC h01 hp hd => ?_)
  exact W.zret (v := r) B.exec B.bytes hr (by rcases h01 with rfl | rfl <;> rfl) (fun t ht hW => ⟨⟨r, (r, S1), rfl, rfl, hp, by rw [ht]; exact hC.1, va_K.moved hW.alike hK, hC.2.1⟩, hC.2.2.F ht⟩) hC.2.2.2.2 hd
theorem kv_ofl {Post : kS → Int64 → Prop} (hy : plainName y.cls = true) (hyc : y.cls = own) (hlen : (lg_sl As).length ≤ mL)
    (body : ∀ (E : kE) (p : Program) (e : Env) (R : Room) (s : State) (m : MethodId) (args : Array Value) (below : List Frame) (meth : Method) (c : Code) (A : Nat → Prop) (ls : Array Slot) (Q : State → Prop), fr ≤ R.frames → lo ≤ R.locals → kX own p s m args c cc mL E A → cM E A s.heap S s.heap [] → lv_has ls mL (lv_args 0 As) → (∀ (r : Int64) (S1 : kS) (H : Heap) (locs : List Loc) (pc : Nat) (ls1 : Array Slot), cM E A s.heap S1 H locs → Post S1 r → decode cc pc = .ok (.lreturn, 1) → W p l e R s m args below meth c H locs 0 0 Q (F0 m pc ls1 [.long r])) → W p l e R s m args below meth c s.heap [] 0 0 Q (F0 m 0 ls [])) : kMl l y cc mL (some .long) fr lo As S Post := by
  intro E sz
  refine Met.ofW (cc := cc) (maxL := mL) (ret := (some .long)) hy rfl ?_
  intro p e s m args below meth c s₁ B hml hv
  obtain ⟨rfl, hsz, hP, hK, hD0, hZ⟩ := hv
  have hr := B.returns
  have hlocks := B.notSynchronized
  have hD := hD0.self (sz := s.heap.size)
  subst hsz
  have hts : ∀ w ∈ tb, w.before _ s = true := fun w h => atoms_spec (ws := (.code y cc mL (some .long) :: tb)) B.pre w (List.mem_cons_of_mem _ h)
  rw [lg_entry_eq]
  refine body E p e _ s m _ below meth c (va_A (cW E S) s.heap.size) _ _ (Nat.le_refl _) (Nat.le_refl _) ⟨⟨B.exec, B.bytes, hml, by rw [← hyc]; exact findClass_of_methodNamed B.named, hts⟩, hK, fun q h => Or.inr h, hZ⟩ ⟨hP, hD, va_S.rf⟩ (lv_entry _ hlen) (fun r S1 H locs pc ls1 hC hp hd => ?_)
  exact W.lret (v := r) B.exec B.bytes hr (fun t ht hW => ⟨⟨r, (r, S1), rfl, rfl, hp, by rw [ht]; exact hC.1, va_K.moved hW.alike hK, hC.2.1⟩, hC.2.2.F ht⟩) hC.2.2.2.2 hd
theorem kv_ofv {Post : kS → Prop} (hy : plainName y.cls = true) (hyc : y.cls = own) (hlen : (lg_sl As).length ≤ mL)
    (body : ∀ (E : kE) (p : Program) (e : Env) (R : Room) (s : State) (m : MethodId) (args : Array Value) (below : List Frame) (meth : Method) (c : Code) (A : Nat → Prop) (ls : Array Slot) (Q : State → Prop), fr ≤ R.frames → lo ≤ R.locals → kX own p s m args c cc mL E A → cM E A s.heap S s.heap [] → lv_has ls mL (lv_args 0 As) → (∀ (S1 : kS) (H : Heap) (locs : List Loc) (pc : Nat) (ls1 : Array Slot), cM E A s.heap S1 H locs → Post S1 → decode cc pc = .ok (.return_, 1) → W p l e R s m args below meth c H locs 0 0 Q (F0 m pc ls1 [])) → W p l e R s m args below meth c s.heap [] 0 0 Q (F0 m 0 ls [])) : kMv l y cc mL none fr lo As S Post := by
  intro E sz
  refine Met.ofW (cc := cc) (maxL := mL) (ret := none) hy rfl ?_
  intro p e s m args below meth c s₁ B hml hv
  obtain ⟨rfl, hsz, hP, hK, hD0, hZ⟩ := hv
  have hr := B.returns
  have hlocks := B.notSynchronized
  have hD := hD0.self (sz := s.heap.size)
  subst hsz
  have hts : ∀ w ∈ tb, w.before _ s = true := fun w h => atoms_spec (ws := (.code y cc mL none :: tb)) B.pre w (List.mem_cons_of_mem _ h)
  rw [lg_entry_eq]
  refine body E p e _ s m _ below meth c (va_A (cW E S) s.heap.size) _ _ (Nat.le_refl _) (Nat.le_refl _) ⟨⟨B.exec, B.bytes, hml, by rw [← hyc]; exact findClass_of_methodNamed B.named, hts⟩, hK, fun q h => Or.inr h, hZ⟩ ⟨hP, hD, va_S.rf⟩ (lv_entry _ hlen) (fun S1 H locs pc ls1 hC hp hd => ?_)
  exact W.vret B.exec B.bytes hr (fun t ht hW => ⟨⟨S1, rfl, trivial, hp, by rw [ht]; exact hC.1, va_K.moved hW.alike hK, hC.2.1⟩, hC.2.2.F ht⟩) hC.2.2.2.2 hd
theorem kv_ofo {C9 : String} {Post : kS → Option Nat → Prop} (hy : plainName y.cls = true) (hyc : y.cls = own) (hlen : (lg_sl As).length ≤ mL)
    (body : ∀ (E : kE) (p : Program) (e : Env) (R : Room) (s : State) (m : MethodId) (args : Array Value) (below : List Frame) (meth : Method) (c : Code) (A : Nat → Prop) (ls : Array Slot) (Q : State → Prop), fr ≤ R.frames → lo ≤ R.locals → kX own p s m args c cc mL E A → cM E A s.heap S s.heap [] → lv_has ls mL (lv_args 0 As) → (∀ (r : Option Nat) (S1 : kS) (H : Heap) (locs : List Loc) (pc : Nat) (ls1 : Array Slot), cM E A s.heap S1 H locs → Post S1 r → decode cc pc = .ok (.areturn, 1) → W p l e R s m args below meth c H locs 0 0 Q (F0 m pc ls1 [va_rf r])) → W p l e R s m args below meth c s.heap [] 0 0 Q (F0 m 0 ls [])) : kMo l y cc mL (some (.object C9)) fr lo As S Post := by
  intro E sz
  refine Met.ofW (cc := cc) (maxL := mL) (ret := (some (.object C9))) hy rfl ?_
  intro p e s m args below meth c s₁ B hml hv
  obtain ⟨rfl, hsz, hP, hK, hD0, hZ⟩ := hv
  have hr := B.returns
  have hlocks := B.notSynchronized
  have hD := hD0.self (sz := s.heap.size)
  subst hsz
  have hts : ∀ w ∈ tb, w.before _ s = true := fun w h => atoms_spec (ws := (.code y cc mL (some (.object C9)) :: tb)) B.pre w (List.mem_cons_of_mem _ h)
  rw [lg_entry_eq]
  refine body E p e _ s m _ below meth c (va_A (cW E S) s.heap.size) _ _ (Nat.le_refl _) (Nat.le_refl _) ⟨⟨B.exec, B.bytes, hml, by rw [← hyc]; exact findClass_of_methodNamed B.named, hts⟩, hK, fun q h => Or.inr h, hZ⟩ ⟨hP, hD, va_S.rf⟩ (lv_entry _ hlen) (fun r S1 H locs pc ls1 hC hp hd => ?_)
  exact W.aret (v := va_rf r) B.exec B.bytes hr (Or.inl ⟨C9, rfl⟩) rf_rf (fun t ht hW => ⟨⟨r, S1, rfl, hp, by rw [ht]; exact hC.1, va_K.moved hW.alike hK, hC.2.1⟩, hC.2.2.F ht⟩) hC.2.2.2.2 hd
end KO
