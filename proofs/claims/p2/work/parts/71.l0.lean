
def inR (i : Int32) (n : Nat) : Prop := 0 ≤ i.toInt ∧ i.toInt < (n : Int)
def ix (i : Int32) : Nat := i.toInt.toNat
theorem inR_ix {i : Int32} {n : Nat} (h : inR i n) : i.toInt = ((ix i : Nat) : Int) := by
  unfold ix
  have h1 := h.1
  omega
theorem inR_lt {i : Int32} {n : Nat} (h : inR i n) : ix i < n := by
  have h1 := inR_ix h
  have h2 := h.2
  omega
def it {α : Type} (f : (α → Prop) → α → Prop) : Nat → α → Prop
  | 0 => fun _ => False
  | n + 1 => f (it f n)
theorem it_rule {α : Type} {f : (α → Prop) → α → Prop} (Inv : α → Prop) (μ : α → Nat) (step : ∀ (u : α) (k : α → Prop), Inv u → (∀ v, Inv v → μ v < μ u → k v) → f k u) {u : α} (h : Inv u) : ∃ n, it f n u := by
  have key : ∀ (n : Nat) (u : α), Inv u → μ u < n → it f n u := by
    intro n
    induction n with
    | zero => intro u _ h; exact absurd h (Nat.not_lt_zero _)
    | succ n ih => intro u hu hm; exact step u (it f n) hu (fun v hv hl => ih v hv (Nat.lt_of_lt_of_le hl (Nat.le_of_lt_succ hm)))
  exact ⟨μ u + 1, key _ u h (Nat.lt_succ_self _)⟩
theorem nb_01 {v : Int32} (h : v = 0 ∨ v = 1) : narrow .boolean (.int v) = .int v := by rcases h with rfl | rfl <;> rfl
theorem nr_01 {v : Int32} (h : v = 0 ∨ v = 1) : vp_nar .boolean v = v := by rcases h with rfl | rfl <;> rfl

section LQ
variable {p : Program} {l : Launch} {e : Env} {R : Room} {s : State} {m : MethodId} {args : Array Value} {below : List Frame} {meth : Method} {c : Code} {H : Heap} {locs : List Loc} {cells slots : Nat} {Q : State → Prop} {cc : ByteArray} {nL pc : Nat} {ls : Array Slot} {rest : List Value}
theorem lq_iadd (hx : p.tables.exec = Jvm.exec) (hb : c.code = cc) {x y : Int32} {P : Int32 → Prop} (hd : decode cc pc = .ok (.iadd, 1)) (h : ∀ z : Int32, z = x + y → P z) (kk : ∀ z : Int32, P z → W p l e R s m args below meth c H locs cells slots Q (F0 m (pc + 1) ls (.int z :: rest))) : W p l e R s m args below meth c H locs cells slots Q (F0 m pc ls (.int y :: .int x :: rest)) := lv_iadd hx hb hd (kk _ (h _ rfl))
theorem lq_isub (hx : p.tables.exec = Jvm.exec) (hb : c.code = cc) {x y : Int32} {P : Int32 → Prop} (hd : decode cc pc = .ok (.isub, 1)) (h : ∀ z : Int32, z = x - y → P z) (kk : ∀ z : Int32, P z → W p l e R s m args below meth c H locs cells slots Q (F0 m (pc + 1) ls (.int z :: rest))) : W p l e R s m args below meth c H locs cells slots Q (F0 m pc ls (.int y :: .int x :: rest)) := lv_isub hx hb hd (kk _ (h _ rfl))
theorem lq_imul (hx : p.tables.exec = Jvm.exec) (hb : c.code = cc) {x y : Int32} {P : Int32 → Prop} (hd : decode cc pc = .ok (.imul, 1)) (h : ∀ z : Int32, z = x * y → P z) (kk : ∀ z : Int32, P z → W p l e R s m args below meth c H locs cells slots Q (F0 m (pc + 1) ls (.int z :: rest))) : W p l e R s m args below meth c H locs cells slots Q (F0 m pc ls (.int y :: .int x :: rest)) := lv_imul hx hb hd (kk _ (h _ rfl))
theorem lq_iand (hx : p.tables.exec = Jvm.exec) (hb : c.code = cc) {x y : Int32} {P : Int32 → Prop} (hd : decode cc pc = .ok (.iand, 1)) (h : ∀ z : Int32, z = x &&& y → P z) (kk : ∀ z : Int32, P z → W p l e R s m args below meth c H locs cells slots Q (F0 m (pc + 1) ls (.int z :: rest))) : W p l e R s m args below meth c H locs cells slots Q (F0 m pc ls (.int y :: .int x :: rest)) := lv_iand hx hb hd (kk _ (h _ rfl))
theorem lq_ior (hx : p.tables.exec = Jvm.exec) (hb : c.code = cc) {x y : Int32} {P : Int32 → Prop} (hd : decode cc pc = .ok (.ior, 1)) (h : ∀ z : Int32, z = x ||| y → P z) (kk : ∀ z : Int32, P z → W p l e R s m args below meth c H locs cells slots Q (F0 m (pc + 1) ls (.int z :: rest))) : W p l e R s m args below meth c H locs cells slots Q (F0 m pc ls (.int y :: .int x :: rest)) := lv_ior hx hb hd (kk _ (h _ rfl))
theorem lq_ixor (hx : p.tables.exec = Jvm.exec) (hb : c.code = cc) {x y : Int32} {P : Int32 → Prop} (hd : decode cc pc = .ok (.ixor, 1)) (h : ∀ z : Int32, z = x ^^^ y → P z) (kk : ∀ z : Int32, P z → W p l e R s m args below meth c H locs cells slots Q (F0 m (pc + 1) ls (.int z :: rest))) : W p l e R s m args below meth c H locs cells slots Q (F0 m pc ls (.int y :: .int x :: rest)) := lv_ixor hx hb hd (kk _ (h _ rfl))
theorem lq_ladd (hx : p.tables.exec = Jvm.exec) (hb : c.code = cc) {x y : Int64} {P : Int64 → Prop} (hd : decode cc pc = .ok (.ladd, 1)) (h : ∀ z : Int64, z = x + y → P z) (kk : ∀ z : Int64, P z → W p l e R s m args below meth c H locs cells slots Q (F0 m (pc + 1) ls (.long z :: rest))) : W p l e R s m args below meth c H locs cells slots Q (F0 m pc ls (.long y :: .long x :: rest)) := lv_ladd hx hb hd (kk _ (h _ rfl))
theorem lq_lsub (hx : p.tables.exec = Jvm.exec) (hb : c.code = cc) {x y : Int64} {P : Int64 → Prop} (hd : decode cc pc = .ok (.lsub, 1)) (h : ∀ z : Int64, z = x - y → P z) (kk : ∀ z : Int64, P z → W p l e R s m args below meth c H locs cells slots Q (F0 m (pc + 1) ls (.long z :: rest))) : W p l e R s m args below meth c H locs cells slots Q (F0 m pc ls (.long y :: .long x :: rest)) := lv_lsub hx hb hd (kk _ (h _ rfl))
theorem lq_lmul (hx : p.tables.exec = Jvm.exec) (hb : c.code = cc) {x y : Int64} {P : Int64 → Prop} (hd : decode cc pc = .ok (.lmul, 1)) (h : ∀ z : Int64, z = x * y → P z) (kk : ∀ z : Int64, P z → W p l e R s m args below meth c H locs cells slots Q (F0 m (pc + 1) ls (.long z :: rest))) : W p l e R s m args below meth c H locs cells slots Q (F0 m pc ls (.long y :: .long x :: rest)) := lv_lmul hx hb hd (kk _ (h _ rfl))
theorem lq_land (hx : p.tables.exec = Jvm.exec) (hb : c.code = cc) {x y : Int64} {P : Int64 → Prop} (hd : decode cc pc = .ok (.land, 1)) (h : ∀ z : Int64, z = x &&& y → P z) (kk : ∀ z : Int64, P z → W p l e R s m args below meth c H locs cells slots Q (F0 m (pc + 1) ls (.long z :: rest))) : W p l e R s m args below meth c H locs cells slots Q (F0 m pc ls (.long y :: .long x :: rest)) := lv_land hx hb hd (kk _ (h _ rfl))
theorem lq_ineg (hx : p.tables.exec = Jvm.exec) (hb : c.code = cc) {x : Int32} {P : Int32 → Prop} (hd : decode cc pc = .ok (.ineg, 1)) (h : ∀ z : Int32, z = -x → P z) (kk : ∀ z : Int32, P z → W p l e R s m args below meth c H locs cells slots Q (F0 m (pc + 1) ls (.int z :: rest))) : W p l e R s m args below meth c H locs cells slots Q (F0 m pc ls (.int x :: rest)) := lv_ineg hx hb hd (kk _ (h _ rfl))
theorem lq_idiv (hx : p.tables.exec = Jvm.exec) (hb : c.code = cc) {x y : Int32} {P : Int32 → Prop} (hd : decode cc pc = .ok (.idiv, 1)) (h : ¬ y = 0 ∧ ∀ z : Int32, z = x / y → P z) (kk : ∀ z : Int32, P z → W p l e R s m args below meth c H locs cells slots Q (F0 m (pc + 1) ls (.int z :: rest))) : W p l e R s m args below meth c H locs cells slots Q (F0 m pc ls (.int y :: .int x :: rest)) := lv_idiv hx hb hd h.1 (kk _ (h.2 _ rfl))
theorem lq_irem (hx : p.tables.exec = Jvm.exec) (hb : c.code = cc) {x y : Int32} {P : Int32 → Prop} (hd : decode cc pc = .ok (.irem, 1)) (h : ¬ y = 0 ∧ ∀ z : Int32, z = x - x / y * y → P z) (kk : ∀ z : Int32, P z → W p l e R s m args below meth c H locs cells slots Q (F0 m (pc + 1) ls (.int z :: rest))) : W p l e R s m args below meth c H locs cells slots Q (F0 m pc ls (.int y :: .int x :: rest)) := lv_irem hx hb hd h.1 (kk _ (h.2 _ rfl))
theorem lq_lcmp (hx : p.tables.exec = Jvm.exec) (hb : c.code = cc) {x y : Int64} {P : Int32 → Prop} (hd : decode cc pc = .ok (.lcmp, 1)) (h : ∀ z : Int32, z = lg_cmp x y → P z) (kk : ∀ z : Int32, P z → W p l e R s m args below meth c H locs cells slots Q (F0 m (pc + 1) ls (.int z :: rest))) : W p l e R s m args below meth c H locs cells slots Q (F0 m pc ls (.long y :: .long x :: rest)) := W.lcmp hx hb hd (kk _ (h _ rfl))
theorem lq_i2l (hx : p.tables.exec = Jvm.exec) (hb : c.code = cc) {x : Int32} {P : Int64 → Prop} (hd : decode cc pc = .ok (.i2l, 1)) (h : ∀ z : Int64, z = Int32.toInt64 x → P z) (kk : ∀ z : Int64, P z → W p l e R s m args below meth c H locs cells slots Q (F0 m (pc + 1) ls (.long z :: rest))) : W p l e R s m args below meth c H locs cells slots Q (F0 m pc ls (.int x :: rest)) := lv_i2l hx hb hd rfl (kk _ (h _ rfl))
theorem lq_l2i (hx : p.tables.exec = Jvm.exec) (hb : c.code = cc) {x : Int64} {P : Int32 → Prop} (hd : decode cc pc = .ok (.l2i, 1)) (h : ∀ z : Int32, z = Int64.toInt32 x → P z) (kk : ∀ z : Int32, P z → W p l e R s m args below meth c H locs cells slots Q (F0 m (pc + 1) ls (.int z :: rest))) : W p l e R s m args below meth c H locs cells slots Q (F0 m pc ls (.long x :: rest)) := lv_l2i hx hb hd rfl (kk _ (h _ rfl))
theorem lq_lshr (hx : p.tables.exec = Jvm.exec) (hb : c.code = cc) {x : Int64} {y : Int32} {P : Int64 → Prop} (hd : decode cc pc = .ok (.lshr, 1)) (h : ∀ z : Int64, z = x >>> (Int32.toInt64 y &&& 63) → P z) (kk : ∀ z : Int64, P z → W p l e R s m args below meth c H locs cells slots Q (F0 m (pc + 1) ls (.long z :: rest))) : W p l e R s m args below meth c H locs cells slots Q (F0 m pc ls (.int y :: .long x :: rest)) := lv_lshr hx hb hd rfl (kk _ (h _ rfl))
theorem lq_lushr (hx : p.tables.exec = Jvm.exec) (hb : c.code = cc) {x : Int64} {y : Int32} {P : Int64 → Prop} (hd : decode cc pc = .ok (.lushr, 1)) (h : ∀ z : Int64, z = (x.toUInt64 >>> (y.toInt64.toUInt64 &&& Int64.toUInt64 63)).toInt64 → P z) (kk : ∀ z : Int64, P z → W p l e R s m args below meth c H locs cells slots Q (F0 m (pc + 1) ls (.long z :: rest))) : W p l e R s m args below meth c H locs cells slots Q (F0 m pc ls (.int y :: .long x :: rest)) := lv_lushr hx hb hd rfl (kk _ (h _ rfl))
theorem lq_i2c (hx : p.tables.exec = Jvm.exec) (hb : c.code = cc) {x : Int32} {P : Int32 → Prop} (hd : decode cc pc = .ok (.i2c, 1)) (h : ∀ z : Int32, z = (x.toUInt32 % 65536).toInt32 → P z) (kk : ∀ z : Int32, P z → W p l e R s m args below meth c H locs cells slots Q (F0 m (pc + 1) ls (.int z :: rest))) : W p l e R s m args below meth c H locs cells slots Q (F0 m pc ls (.int x :: rest)) := lv_i2c hx hb hd rfl (kk _ (h _ rfl))
end LQ
section MQ
variable {p : Program} {l : Launch} {e : Env} {R : Room} {s : State} {m : MethodId} {args : Array Value} {below : List Frame} {meth : Method} {c : Code} {H : Heap} {locs : List Loc} {cells slots : Nat} {Q : State → Prop} {cc : ByteArray} {nL pc : Nat} {ls : Array Slot} {rest : List Value} {E : mE} {A : Nat → Prop} {S : mS}
theorem mq_ild (hX : mX p s m args c cc nL E A) (hC : mC E A s.heap S H locs) (k : Nat) {n : Nat} (ha : (mW E S)[k + 1]? = some (E.2.2.1 k, .inl (E.2.2.2.1 k, n, .inl (S.2.1 k)))) (ht : (mT E)[k]? = some (E.2.2.2.1 k, .int)) {i : Int32} {P : Int32 → Prop} (hd : decode cc pc = .ok (.iaload, 1)) (h : inR i n ∧ ∀ z : Int32, z = S.2.1 k (ix i) → P z) (kk : ∀ z : Int32, P z → W p l e R s m args below meth c H locs cells slots Q (F0 m (pc + 1) ls (.int z :: rest))) : W p l e R s m args below meth c H locs cells slots Q (F0 m pc ls (.int i :: .ref (E.2.2.1 k) :: rest)) :=
  mv_ild hX hC k ha ht (inR_ix h.1) (inR_lt h.1) rfl hd (kk _ (h.2 _ rfl))
theorem mq_zld (hX : mX p s m args c cc nL E A) (hC : mC E A s.heap S H locs) (k : Nat) {n : Nat} (ha : (mW E S)[k + 1]? = some (E.2.2.1 k, .inl (E.2.2.2.1 k, n, .inl (S.2.1 k)))) (ht : (mT E)[k]? = some (E.2.2.2.1 k, .boolean)) {i : Int32} {P : Int32 → Prop} (hd : decode cc pc = .ok (.baload, 1)) (h : inR i n ∧ ∀ z : Int32, z = S.2.1 k (ix i) → P z) (kk : ∀ z : Int32, P z → W p l e R s m args below meth c H locs cells slots Q (F0 m (pc + 1) ls (.int z :: rest))) : W p l e R s m args below meth c H locs cells slots Q (F0 m pc ls (.int i :: .ref (E.2.2.1 k) :: rest)) :=
  mv_zld hX hC k ha ht (inR_ix h.1) (inR_lt h.1) rfl hd (kk _ (h.2 _ rfl))
theorem mq_lld (hX : mX p s m args c cc nL E A) (hC : mC E A s.heap S H locs) (k : Nat) {n : Nat} (ha : (mW E S)[k + 1]? = some (E.2.2.1 k, .inl (E.2.2.2.1 k, n, .inr (.inl (S.2.2 k))))) (ht : (mT E)[k]? = some (E.2.2.2.1 k, .long)) {i : Int32} {P : Int64 → Prop} (hd : decode cc pc = .ok (.laload, 1)) (h : inR i n ∧ ∀ z : Int64, z = S.2.2 k (ix i) → P z) (kk : ∀ z : Int64, P z → W p l e R s m args below meth c H locs cells slots Q (F0 m (pc + 1) ls (.long z :: rest))) : W p l e R s m args below meth c H locs cells slots Q (F0 m pc ls (.int i :: .ref (E.2.2.1 k) :: rest)) :=
  mv_lld hX hC k ha ht (inR_ix h.1) (inR_lt h.1) rfl hd (kk _ (h.2 _ rfl))
theorem mq_ist (hX : mX p s m args c cc nL E A) (hC : mC E A s.heap S H locs) (k : Nat) {n : Nat} (ha : (mW E S)[k + 1]? = some (E.2.2.1 k, .inl (E.2.2.2.1 k, n, .inl (S.2.1 k)))) (ht : (mT E)[k]? = some (E.2.2.2.1 k, .int)) {i : Int32} {v : Int32} {P : mS → Prop} (hset : (mW E S).set (k + 1) (E.2.2.1 k, .inl (E.2.2.2.1 k, n, .inl (upd (S.2.1 k) (ix i) v))) = mW E (sF S k (ix i) v)) (hd : decode cc pc = .ok (.iastore, 1)) (hi : inR i n) (h : ∀ S1 : mS, S1 = sF S k (ix i) v → P S1) (kk : ∀ (S1 : mS) (H : Heap) (locs : List Loc), mC E A s.heap S1 H locs → P S1 → W p l e R s m args below meth c H locs cells slots Q (F0 m (pc + 1) ls rest)) : W p l e R s m args below meth c H locs cells slots Q (F0 m pc ls (.int v :: .int i :: .ref (E.2.2.1 k) :: rest)) :=
  mv_ist hX hC k ha ht (inR_ix hi) (inR_lt hi) hset hd (fun H1 locs1 hC1 => kk _ H1 locs1 hC1 (h _ rfl))
theorem mq_zst (hX : mX p s m args c cc nL E A) (hC : mC E A s.heap S H locs) (k : Nat) {n : Nat} (ha : (mW E S)[k + 1]? = some (E.2.2.1 k, .inl (E.2.2.2.1 k, n, .inl (S.2.1 k)))) (ht : (mT E)[k]? = some (E.2.2.2.1 k, .boolean)) {i : Int32} {v : Int32} {P : mS → Prop} (hz : vp_nar .boolean v = v) (hset : (mW E S).set (k + 1) (E.2.2.1 k, .inl (E.2.2.2.1 k, n, .inl (upd (S.2.1 k) (ix i) v))) = mW E (sF S k (ix i) v)) (hd : decode cc pc = .ok (.bastore, 1)) (hi : inR i n) (h : ∀ S1 : mS, S1 = sF S k (ix i) v → P S1) (kk : ∀ (S1 : mS) (H : Heap) (locs : List Loc), mC E A s.heap S1 H locs → P S1 → W p l e R s m args below meth c H locs cells slots Q (F0 m (pc + 1) ls rest)) : W p l e R s m args below meth c H locs cells slots Q (F0 m pc ls (.int v :: .int i :: .ref (E.2.2.1 k) :: rest)) :=
  mv_zst hX hC k ha ht (inR_ix hi) (inR_lt hi) hz hset hd (fun H1 locs1 hC1 => kk _ H1 locs1 hC1 (h _ rfl))
theorem mq_lst (hX : mX p s m args c cc nL E A) (hC : mC E A s.heap S H locs) (k : Nat) {n : Nat} (ha : (mW E S)[k + 1]? = some (E.2.2.1 k, .inl (E.2.2.2.1 k, n, .inr (.inl (S.2.2 k))))) (ht : (mT E)[k]? = some (E.2.2.2.1 k, .long)) {i : Int32} {v : Int64} {P : mS → Prop} (hset : (mW E S).set (k + 1) (E.2.2.1 k, .inl (E.2.2.2.1 k, n, .inr (.inl (vp_updL (S.2.2 k) (ix i) v)))) = mW E (sG S k (ix i) v)) (hd : decode cc pc = .ok (.lastore, 1)) (hi : inR i n) (h : ∀ S1 : mS, S1 = sG S k (ix i) v → P S1) (kk : ∀ (S1 : mS) (H : Heap) (locs : List Loc), mC E A s.heap S1 H locs → P S1 → W p l e R s m args below meth c H locs cells slots Q (F0 m (pc + 1) ls rest)) : W p l e R s m args below meth c H locs cells slots Q (F0 m pc ls (.long v :: .int i :: .ref (E.2.2.1 k) :: rest)) :=
  mv_lst hX hC k ha ht (inR_ix hi) (inR_lt hi) hset hd (fun H1 locs1 hC1 => kk _ H1 locs1 hC1 (h _ rfl))
theorem mq_put (hX : mX p s m args c cc nL E A) (hC : mC E A s.heap S H locs) (k j : Nat) (hk : k < 128) {index : Nat} (hw : Cond.fieldLink RX12 index (TX12 k).1 (TX12 k).2.1 (TX12 k).2.2.1 ∈ tb) (hfin : (TX12 k).2.2.2 = false) {v : Int32} (hn : narrow (tyX12 k) (.int v) = .int v) (hfit : fits (tyX12 k) (.int v) = true) (hset : (mO E S).set k (.int v) = mO E (sZ S j v)) (hd : decode cc pc = .ok (.putfield index, 3)) {P : mS → Prop} (h : ∀ S1 : mS, S1 = sZ S j v → P S1) (kk : ∀ (S1 : mS) (H : Heap) (locs : List Loc), mC E A s.heap S1 H locs → P S1 → W p l e R s m args below meth c H locs cells slots Q (F0 m (pc + 3) ls rest)) : W p l e R s m args below meth c H locs cells slots Q (F0 m pc ls (.int v :: .ref E.2.1 :: rest)) :=
  mv_put hX hC k j hk hw hfin hn hfit hset hd (fun H1 locs1 hC1 => kk _ H1 locs1 hC1 (h _ rfl))
def mPre1 (E : mE) (As : List Value) (S : mS) (sz : Nat) : Array Value → State → Prop := va_Pc As (fun U => U.heap.size = sz ∧ va_P E.1 vwCl (mW E S) U.heap ∧ va_K E.1 vwCl (mT E) U ∧ va_D (fun _ => True) (mW E S))
theorem mPre1_blind {E : mE} {As : List Value} {S : mS} {sz : Nat} : FrameBlind (mPre1 E As S sz) := fun a U g mk q => by
  obtain ⟨q0, q1, qP, qK, qD⟩ := q
  exact ⟨q0, q1, qP, va_K.moved (u := U) (U := U.calling g mk a) (Vm.Alike.refl U.vm) qK, qD⟩
def mMs1 (l : Launch) (y : MethodName) (cc : ByteArray) (mL : Nat) (ret : Option FieldType) (fr lo : Nat) (As : mE → List Value) (S : mS) (Post : mS → Int32 → Prop) : Prop := ∀ (E : mE) (sz : Nat), Met l y (.code y cc mL ret :: tb) (mRm fr lo) (mPre1 E (As E) S sz) (mQi E S sz Post) 0 0 (va_A (mW E S) sz)
theorem mPre1_pay (hX : mX p s m args c cc nL E A) (hC : mC E A s.heap S H locs) (As : List Value) : ∀ U : State, U.heap = H → s.WarmedH U.vm → mPre1 E As S H.size As.toArray U := fun U hU hW => ⟨rfl, by rw [hU], by rw [hU]; exact hC.1, va_K.moved hW.alike hX.2.1, hC.2.1.weaken (fun _ _ _ _ => trivial)⟩
variable {y : MethodName} {bytes : ByteArray} {mL n index fr lo : Nat} {ret : Option FieldType}
theorem mv_calls1 (As : List Value) {Post : mS → Int32 → Prop} (hX : mX p s m args c cc nL E A) (hC : mC E A s.heap S H locs) (hM : Met l y (.code y bytes mL ret :: tb) (mRm fr lo) (mPre1 E As S H.size) (mQi E S H.size Post) 0 0 (va_A (mW E S) H.size)) (cw : CallB R s args RX12 index y bytes mL ret (.code y bytes mL ret :: tb) (mRm fr lo) 0 0 n ∧ (Cond.static y).before args s = true) (hn : As.length = n) (hls : ls.size = nL) (hW : (rest.map fun v => v.category).sum ≤ 8) (hf : cells ≤ R.cells ∧ slots ≤ R.slots) (hd : decode cc pc = .ok (.invokestatic index, 3)) (kk : ∀ (r : Int32) (S1 : mS) (H1 : Heap) (locs1 : List Loc), mC E A s.heap S1 H1 locs1 → Post S1 r → W p l e R s m args below meth c H1 locs1 cells slots Q (F0 m (pc + 3) ls (.int r :: rest))) : W p l e R s m args below meth c H locs cells slots Q (F0 m pc ls (As.reverse ++ rest)) := by
  have hFc := mC_free hX hC
  refine va_calli (va_runS (As := As) (rest := rest) hX.1 hM cw ⟨mPre1_blind, mPre1_pay hX hC As⟩ rfl hn hls rfl (lv_room hW) hd hf) hC.2.2 (fun q _ h => hFc q h) hFc (fun r u t H1 locs1 ht hvm hw hB hz1 hk1 hS1 => ?_)
  obtain ⟨hp, hP1, hK1, hD1⟩ := hB
  subst hw
  rw [ht] at hP1
  exact kk _ u.2 H1 locs1 ⟨hP1, hD1.weaken (fun k q _ h => hFc q.1 h), hS1⟩ hp
end MQ
section MO1
variable {l : Launch} {y : MethodName} {cc : ByteArray} {mL fr lo : Nat} {As : mE → List Value} {S : mS}
theorem mv_ofsi {Post : mS → Int32 → Prop} (hy : plainName y.cls = true) (hyc : y.cls = RX12) (hlen : ∀ E : mE, (lg_sl (As E)).length ≤ mL)
    (body : ∀ (E : mE) (p : Program) (e : Env) (R : Room) (s : State) (m : MethodId) (args : Array Value) (below : List Frame) (meth : Method) (c : Code) (A : Nat → Prop) (ls : Array Slot) (Q : State → Prop), fr ≤ R.frames → lo ≤ R.locals → mX p s m args c cc mL E A → mC E A s.heap S s.heap [] → lv_has ls mL (lv_args 0 (As E)) →
      (∀ (r : Int32) (S1 : mS) (H : Heap) (locs : List Loc) (pc : Nat) (ls1 : Array Slot), mC E A s.heap S1 H locs → Post S1 r → decode cc pc = .ok (.ireturn, 1) → W p l e R s m args below meth c H locs 0 0 Q (F0 m pc ls1 [.int r])) → W p l e R s m args below meth c s.heap [] 0 0 Q (F0 m 0 ls [])) : mMs1 l y cc mL (some .int) fr lo As S Post := by
  intro E sz
  refine Met.ofW (cc := cc) (maxL := mL) (ret := some .int) hy rfl ?_
  intro p e s m args below meth c s₁ B hml hv
  obtain ⟨rfl, hsz, hP, hK, hD0⟩ := hv
  have hr := B.returns
  have hlocks := B.notSynchronized
  have hD := hD0.self (sz := s.heap.size)
  subst hsz
  have hts : ∀ w ∈ tb, w.before _ s = true := fun w h => atoms_spec (ws := (.code y cc mL (some .int) :: tb)) B.pre w (List.mem_cons_of_mem _ h)
  rw [lg_entry_eq]
  refine body E p e _ s m _ below meth c (va_A (mW E S) s.heap.size) _ _ (Nat.le_refl _) (Nat.le_refl _) ⟨⟨B.exec, B.bytes, hml, by rw [← hyc]; exact findClass_of_methodNamed B.named, hts⟩, hK, fun q h => Or.inr h⟩ ⟨hP, hD, va_S.rf⟩ (lv_entry _ (hlen E)) (fun r S1 H locs pc ls1 hC hp hd => ?_)
  exact W.iret (v := r) B.exec B.bytes hr (fun t ht hW => ⟨⟨r, (r, S1), rfl, rfl, hp, by rw [ht]; exact hC.1, va_K.moved hW.alike hK, hC.2.1⟩, hC.2.2.F ht⟩) hC.2.2.2.2 hd
theorem mv_ofsz {Post : mS → Int32 → Prop} (hy : plainName y.cls = true) (hyc : y.cls = RX12) (hlen : ∀ E : mE, (lg_sl (As E)).length ≤ mL)
    (body : ∀ (E : mE) (p : Program) (e : Env) (R : Room) (s : State) (m : MethodId) (args : Array Value) (below : List Frame) (meth : Method) (c : Code) (A : Nat → Prop) (ls : Array Slot) (Q : State → Prop), fr ≤ R.frames → lo ≤ R.locals → mX p s m args c cc mL E A → mC E A s.heap S s.heap [] → lv_has ls mL (lv_args 0 (As E)) →
      (∀ (r : Int32) (S1 : mS) (H : Heap) (locs : List Loc) (pc : Nat) (ls1 : Array Slot), mC E A s.heap S1 H locs → (r = 0 ∨ r = 1) → Post S1 r → decode cc pc = .ok (.ireturn, 1) → W p l e R s m args below meth c H locs 0 0 Q (F0 m pc ls1 [.int r])) → W p l e R s m args below meth c s.heap [] 0 0 Q (F0 m 0 ls [])) : mMs1 l y cc mL (some .boolean) fr lo As S Post := by
  intro E sz
  refine Met.ofW (cc := cc) (maxL := mL) (ret := some .boolean) hy rfl ?_
  intro p e s m args below meth c s₁ B hml hv
  obtain ⟨rfl, hsz, hP, hK, hD0⟩ := hv
  have hr := B.returns
  have hlocks := B.notSynchronized
  have hD := hD0.self (sz := s.heap.size)
  subst hsz
  have hts : ∀ w ∈ tb, w.before _ s = true := fun w h => atoms_spec (ws := (.code y cc mL (some .boolean) :: tb)) B.pre w (List.mem_cons_of_mem _ h)
  rw [lg_entry_eq]
  refine body E p e _ s m _ below meth c (va_A (mW E S) s.heap.size) _ _ (Nat.le_refl _) (Nat.le_refl _) ⟨⟨B.exec, B.bytes, hml, by rw [← hyc]; exact findClass_of_methodNamed B.named, hts⟩, hK, fun q h => Or.inr h⟩ ⟨hP, hD, va_S.rf⟩ (lv_entry _ (hlen E)) (fun r S1 H locs pc ls1 hC h01 hp hd => ?_)
  exact W.zret (v := r) B.exec B.bytes hr (by rcases h01 with rfl | rfl <;> rfl) (fun t ht hW => ⟨⟨r, (r, S1), rfl, rfl, hp, by rw [ht]; exact hC.1, va_K.moved hW.alike hK, hC.2.1⟩, hC.2.2.F ht⟩) hC.2.2.2.2 hd
end MO1
