theorem wd_21 : (Jvm.Cond.initialized "java/util/NoSuchElementException") ∈ tb := tb_at 21 (by decide +kernel) (by decide +kernel)
theorem wd_236 : (Jvm.Cond.fieldLink "Sleepers" (163 : Nat) "Sleepers$Hall" "tasks" "[LSleepers$Task;") ∈ tb := tb_at 236 (by decide +kernel) (by decide +kernel)
theorem wd_428 : (Jvm.Cond.fieldLink "Sleepers" (115 : Nat) "Sleepers$Program" "waits" "[I") ∈ tb := tb_at 428 (by decide +kernel) (by decide +kernel)
theorem wd_868 : (Jvm.Cond.fieldLink "Sleepers" (170 : Nat) "Sleepers$Task" "routine" "I") ∈ tb := tb_at 868 (by decide +kernel) (by decide +kernel)
theorem wd_1288 : (Jvm.Cond.classLink "Sleepers" (101 : Nat) "java/util/NoSuchElementException") ∈ tb := tb_at 1288 (by decide +kernel) (by decide +kernel)
theorem wd_1360 : (Jvm.Cond.methodLink "Sleepers" (160 : Nat) ({ cls := "Sleepers$Hall", name := "has", desc := "(I)Z" } : Jvm.MethodName)) ∈ tb := tb_at 1360 (by decide +kernel) (by decide +kernel)
theorem wd_1362 : (Jvm.Cond.methodLink "Sleepers" (167 : Nat) ({ cls := "Sleepers$Task", name := "tell", desc := "(I)I" } : Jvm.MethodName)) ∈ tb := tb_at 1362 (by decide +kernel) (by decide +kernel)
theorem wd_1363 : (Jvm.Cond.instanceMethod ({ cls := "Sleepers$Task", name := "tell", desc := "(I)I" } : Jvm.MethodName)) ∈ tb := tb_at 1363 (by decide +kernel) (by decide +kernel)
theorem wd_1364 : (Jvm.Cond.selects "Sleepers$Task" ({ cls := "Sleepers$Task", name := "tell", desc := "(I)I" } : Jvm.MethodName) ({ cls := "Sleepers$Task", name := "tell", desc := "(I)I" } : Jvm.MethodName)) ∈ tb := tb_at 1364 (by decide +kernel) (by decide +kernel)
theorem wd_1365 : (Jvm.Cond.code ({ cls := "Sleepers$Task", name := "tell", desc := "(I)I" } : Jvm.MethodName) prog_11_method_4_code (2 : Nat) (Option.some Jvm.ClassFile.FieldType.int)) ∈ tb := tb_at 1365 (by decide +kernel) (by decide +kernel)
theorem wd_1374 : (Jvm.Cond.methodLink "Sleepers" (175 : Nat) ({ cls := "Sleepers$Task", name := "look", desc := "(I)I" } : Jvm.MethodName)) ∈ tb := tb_at 1374 (by decide +kernel) (by decide +kernel)
theorem dX11_cell_0 : decode cX11_cell 0 = .ok (.aload_n 0, 1) := by decide +kernel
theorem dX11_cell_1 : decode cX11_cell 1 = .ok (.getfield 35, 3) := by decide +kernel
theorem dX11_cell_4 : decode cX11_cell 4 = .ok (.iload_n 1, 1) := by decide +kernel
theorem dX11_cell_5 : decode cX11_cell 5 = .ok (.invokevirtual 160, 3) := by decide +kernel
theorem dX11_cell_8 : decode cX11_cell 8 = .ok (.ifCond .eq 31, 3) := by decide +kernel
theorem dX11_cell_11 : decode cX11_cell 11 = .ok (.iload_n 2, 1) := by decide +kernel
theorem dX11_cell_12 : decode cX11_cell 12 = .ok (.ifCond .lt 27, 3) := by decide +kernel
theorem dX11_cell_15 : decode cX11_cell 15 = .ok (.iload_n 2, 1) := by decide +kernel
theorem dX11_cell_16 : decode cX11_cell 16 = .ok (.aload_n 0, 1) := by decide +kernel
theorem dX11_cell_17 : decode cX11_cell 17 = .ok (.getfield 51, 3) := by decide +kernel
theorem dX11_cell_20 : decode cX11_cell 20 = .ok (.getfield 112, 3) := by decide +kernel
theorem dX11_cell_23 : decode cX11_cell 23 = .ok (.aload_n 0, 1) := by decide +kernel
theorem dX11_cell_24 : decode cX11_cell 24 = .ok (.getfield 35, 3) := by decide +kernel
theorem dX11_cell_27 : decode cX11_cell 27 = .ok (.getfield 163, 3) := by decide +kernel
theorem dX11_cell_30 : decode cX11_cell 30 = .ok (.iload_n 1, 1) := by decide +kernel
theorem dX11_cell_31 : decode cX11_cell 31 = .ok (.aaload, 1) := by decide +kernel
theorem dX11_cell_32 : decode cX11_cell 32 = .ok (.getfield 170, 3) := by decide +kernel
theorem dX11_cell_35 : decode cX11_cell 35 = .ok (.iaload, 1) := by decide +kernel
theorem dX11_cell_36 : decode cX11_cell 36 = .ok (.if_icmp .lt 13, 3) := by decide +kernel
theorem dX11_cell_39 : decode cX11_cell 39 = .ok (.new 101, 3) := by decide +kernel
theorem dX11_cell_42 : decode cX11_cell 42 = .ok (.dup, 1) := by decide +kernel
theorem dX11_cell_43 : decode cX11_cell 43 = .ok (.ldc 173, 2) := by decide +kernel
theorem dX11_cell_45 : decode cX11_cell 45 = .ok (.invokespecial 105, 3) := by decide +kernel
theorem dX11_cell_48 : decode cX11_cell 48 = .ok (.athrow, 1) := by decide +kernel
theorem dX11_cell_49 : decode cX11_cell 49 = .ok (.aload_n 0, 1) := by decide +kernel
theorem dX11_cell_50 : decode cX11_cell 50 = .ok (.getfield 35, 3) := by decide +kernel
theorem dX11_cell_53 : decode cX11_cell 53 = .ok (.getfield 163, 3) := by decide +kernel
theorem dX11_cell_56 : decode cX11_cell 56 = .ok (.iload_n 1, 1) := by decide +kernel
theorem dX11_cell_57 : decode cX11_cell 57 = .ok (.aaload, 1) := by decide +kernel
theorem dX11_cell_58 : decode cX11_cell 58 = .ok (.iload_n 2, 1) := by decide +kernel
theorem dX11_cell_59 : decode cX11_cell 59 = .ok (.invokevirtual 175, 3) := by decide +kernel
theorem dX11_cell_62 : decode cX11_cell 62 = .ok (.ireturn, 1) := by decide +kernel
theorem dX11_routine_0 : decode cX11_routine 0 = .ok (.aload_n 0, 1) := by decide +kernel
theorem dX11_routine_1 : decode cX11_routine 1 = .ok (.getfield 51, 3) := by decide +kernel
theorem dX11_routine_4 : decode cX11_routine 4 = .ok (.iload_n 1, 1) := by decide +kernel
theorem dX11_routine_5 : decode cX11_routine 5 = .ok (.invokevirtual 97, 3) := by decide +kernel
theorem dX11_routine_8 : decode cX11_routine 8 = .ok (.ifCond .eq 12, 3) := by decide +kernel
theorem dX11_routine_11 : decode cX11_routine 11 = .ok (.iload_n 2, 1) := by decide +kernel
theorem dX11_routine_12 : decode cX11_routine 12 = .ok (.ifCond .lt 8, 3) := by decide +kernel
theorem dX11_routine_15 : decode cX11_routine 15 = .ok (.iload_n 2, 1) := by decide +kernel
theorem dX11_routine_16 : decode cX11_routine 16 = .ok (.iconst 2, 1) := by decide +kernel
theorem dX11_routine_17 : decode cX11_routine 17 = .ok (.if_icmp .le 13, 3) := by decide +kernel
theorem dX11_routine_20 : decode cX11_routine 20 = .ok (.new 101, 3) := by decide +kernel
theorem dX11_routine_23 : decode cX11_routine 23 = .ok (.dup, 1) := by decide +kernel
theorem dX11_routine_24 : decode cX11_routine 24 = .ok (.ldc 103, 2) := by decide +kernel
theorem dX11_routine_26 : decode cX11_routine 26 = .ok (.invokespecial 105, 3) := by decide +kernel
theorem dX11_routine_29 : decode cX11_routine 29 = .ok (.athrow, 1) := by decide +kernel
theorem dX11_routine_30 : decode cX11_routine 30 = .ok (.iload_n 2, 1) := by decide +kernel
theorem dX11_routine_31 : decode cX11_routine 31 = .ok (.ifCond .ne 13, 3) := by decide +kernel
theorem dX11_routine_34 : decode cX11_routine 34 = .ok (.aload_n 0, 1) := by decide +kernel
theorem dX11_routine_35 : decode cX11_routine 35 = .ok (.getfield 51, 3) := by decide +kernel
theorem dX11_routine_38 : decode cX11_routine 38 = .ok (.getfield 108, 3) := by decide +kernel
theorem dX11_routine_41 : decode cX11_routine 41 = .ok (.iload_n 1, 1) := by decide +kernel
theorem dX11_routine_42 : decode cX11_routine 42 = .ok (.iaload, 1) := by decide +kernel
theorem dX11_routine_43 : decode cX11_routine 43 = .ok (.ireturn, 1) := by decide +kernel
theorem dX11_routine_44 : decode cX11_routine 44 = .ok (.iload_n 2, 1) := by decide +kernel
theorem dX11_routine_45 : decode cX11_routine 45 = .ok (.iconst 1, 1) := by decide +kernel
theorem dX11_routine_46 : decode cX11_routine 46 = .ok (.if_icmp .ne 15, 3) := by decide +kernel
theorem dX11_routine_49 : decode cX11_routine 49 = .ok (.aload_n 0, 1) := by decide +kernel
theorem dX11_routine_50 : decode cX11_routine 50 = .ok (.getfield 51, 3) := by decide +kernel
theorem dX11_routine_53 : decode cX11_routine 53 = .ok (.getfield 112, 3) := by decide +kernel
theorem dX11_routine_56 : decode cX11_routine 56 = .ok (.iload_n 1, 1) := by decide +kernel
theorem dX11_routine_57 : decode cX11_routine 57 = .ok (.iaload, 1) := by decide +kernel
theorem dX11_routine_58 : decode cX11_routine 58 = .ok (.goto 14, 3) := by decide +kernel
theorem dX11_routine_61 : decode cX11_routine 61 = .ok (.iconst 1, 1) := by decide +kernel
theorem dX11_routine_62 : decode cX11_routine 62 = .ok (.aload_n 0, 1) := by decide +kernel
theorem dX11_routine_63 : decode cX11_routine 63 = .ok (.getfield 51, 3) := by decide +kernel
theorem dX11_routine_66 : decode cX11_routine 66 = .ok (.getfield 115, 3) := by decide +kernel
theorem dX11_routine_69 : decode cX11_routine 69 = .ok (.iload_n 1, 1) := by decide +kernel
theorem dX11_routine_70 : decode cX11_routine 70 = .ok (.iaload, 1) := by decide +kernel
theorem dX11_routine_71 : decode cX11_routine 71 = .ok (.iadd, 1) := by decide +kernel
theorem dX11_routine_72 : decode cX11_routine 72 = .ok (.ireturn, 1) := by decide +kernel
theorem dX11_task_0 : decode cX11_task 0 = .ok (.aload_n 0, 1) := by decide +kernel
theorem dX11_task_1 : decode cX11_task 1 = .ok (.getfield 35, 3) := by decide +kernel
theorem dX11_task_4 : decode cX11_task 4 = .ok (.iload_n 1, 1) := by decide +kernel
theorem dX11_task_5 : decode cX11_task 5 = .ok (.invokevirtual 160, 3) := by decide +kernel
theorem dX11_task_8 : decode cX11_task 8 = .ok (.ifCond .eq 13, 3) := by decide +kernel
theorem dX11_task_11 : decode cX11_task 11 = .ok (.iload_n 2, 1) := by decide +kernel
theorem dX11_task_12 : decode cX11_task 12 = .ok (.ifCond .lt 9, 3) := by decide +kernel
theorem dX11_task_15 : decode cX11_task 15 = .ok (.iload_n 2, 1) := by decide +kernel
theorem dX11_task_16 : decode cX11_task 16 = .ok (.bipush 7, 2) := by decide +kernel
theorem dX11_task_18 : decode cX11_task 18 = .ok (.if_icmp .le 13, 3) := by decide +kernel
theorem dX11_task_21 : decode cX11_task 21 = .ok (.new 101, 3) := by decide +kernel
theorem dX11_task_24 : decode cX11_task 24 = .ok (.dup, 1) := by decide +kernel
theorem dX11_task_25 : decode cX11_task 25 = .ok (.ldc 161, 2) := by decide +kernel
theorem dX11_task_27 : decode cX11_task 27 = .ok (.invokespecial 105, 3) := by decide +kernel
theorem dX11_task_30 : decode cX11_task 30 = .ok (.athrow, 1) := by decide +kernel
theorem dX11_task_31 : decode cX11_task 31 = .ok (.aload_n 0, 1) := by decide +kernel
theorem dX11_task_32 : decode cX11_task 32 = .ok (.getfield 35, 3) := by decide +kernel
theorem dX11_task_35 : decode cX11_task 35 = .ok (.getfield 163, 3) := by decide +kernel
theorem dX11_task_38 : decode cX11_task 38 = .ok (.iload_n 1, 1) := by decide +kernel
theorem dX11_task_39 : decode cX11_task 39 = .ok (.aaload, 1) := by decide +kernel
theorem dX11_task_40 : decode cX11_task 40 = .ok (.iload_n 2, 1) := by decide +kernel
theorem dX11_task_41 : decode cX11_task 41 = .ok (.invokevirtual 167, 3) := by decide +kernel
theorem dX11_task_44 : decode cX11_task 44 = .ok (.ireturn, 1) := by decide +kernel
def vZ (z : Nat × Nat × Nat) (A : Nat → Prop) (U : State) (H : Heap) : Prop := va_Nw (.declares ⟨"java/lang/RuntimeException", "<init>", "(Ljava/lang/String;)V"⟩) U ∧ va_Nw (.declares ⟨"java/lang/Exception", "<init>", "(Ljava/lang/String;)V"⟩) U ∧ va_Nw (.declares ⟨"java/lang/Throwable", "<init>", "(Ljava/lang/String;)V"⟩) U ∧ va_Nw (.castable "java/util/NoSuchElementException" "java/util/NoSuchElementException") U ∧ vx_Zq Bundle.tN "UNASSIGNED_STACK" Bundle.steD A U H ∧ vx_Zq Bundle.tN "SUPPRESSED_SENTINEL" Bundle.listD A U H ∧ vk_R RX11 103 "no such routine" z.1 U ∧ vk_R RX11 161 "no such task" z.2.1 U ∧ vk_R RX11 173 "no such cell" z.2.2 U
theorem vZ_pay {z : Nat × Nat × Nat} {A B : Nat → Prop} {s U : State} {H : Heap} (h : vZ z A s s.heap) (hq : ∀ a : Nat, a < s.heap.size → ¬ A a → H[a]? = s.heap[a]?) (hB : ∀ q, B q → A q) (hU : U.heap = H) (hW : s.WarmedH U.vm) : vZ z B U U.heap := ⟨va_Nw.warmD hW h.1, va_Nw.warmD hW h.2.1, va_Nw.warmD hW h.2.2.1, va_Nw.warmC hW h.2.2.2.1, by rw [hU]; exact vx_Zq.moved hW.alike (vx_Zq.narrow (vx_Zq.kept h.2.2.2.2.1 hq) hB), by rw [hU]; exact vx_Zq.moved hW.alike (vx_Zq.narrow (vx_Zq.kept h.2.2.2.2.2.1 hq) hB), vk_R.warm hW h.2.2.2.2.2.2.1, vk_R.warm hW h.2.2.2.2.2.2.2.1, vk_R.warm hW h.2.2.2.2.2.2.2.2⟩
def tPre (z : Nat × Nat × Nat) (E : kE) (As : List Value) (S : kS) (sz : Nat) : Array Value → State → Prop := va_Pc As (fun U => U.heap.size = sz ∧ va_P E.1 vwCl (cW E S) U.heap ∧ va_K E.1 vwCl (cT E) U ∧ va_D (fun _ => True) (cW E S) ∧ kZ E (va_A (cW E S) sz) U U.heap ∧ vZ z (va_A (cW E S) sz) U U.heap)
theorem tPre_blind {z : Nat × Nat × Nat} {E : kE} {As : List Value} {S : kS} {sz : Nat} : FrameBlind (tPre z E As S sz) := fun a U g mk q => by
  obtain ⟨q0, q1, qP, qK, qD, qZ, v1, v2, v3, v4, v5, v6, v7, v8, v9⟩ := q
  exact ⟨q0, q1, qP, va_K.moved (u := U) (U := U.calling g mk a) (Vm.Alike.refl U.vm) qK, qD, kZ_blind (U := U) (U1 := U.calling g mk a) rfl (va_Nw.same (u := U) rfl rfl qZ.2.2.2.1) (Vm.Alike.refl U.vm) qZ, va_Nw.same (u := U) rfl rfl v1, va_Nw.same (u := U) rfl rfl v2, va_Nw.same (u := U) rfl rfl v3, va_Nw.same (u := U) rfl rfl v4, vx_Zq.moved (u := U) (U := U.calling g mk a) (Vm.Alike.refl U.vm) v5, vx_Zq.moved (u := U) (U := U.calling g mk a) (Vm.Alike.refl U.vm) v6, vk_R.same (u := U) rfl v7, vk_R.same (u := U) rfl v8, vk_R.same (u := U) rfl v9⟩
def tXC (E : kE) (S : kS) (sz : Nat) (X : kS → Prop) : String → State → State → Prop := vx_X X (fun n u t => n = th_N ∧ kB E S sz u t) (va_A (cW E S) sz)
def tMt (l : Launch) (y : MethodName) (cc : ByteArray) (mL : Nat) (ret : Option FieldType) (fr lo : Nat) (z : Nat × Nat × Nat) (As : List Value) (S : kS) (K : kS → Option Int32 → Prop) : Prop := ∀ (E : kE) (sz : Nat), vx_Met l y (.code y cc mL ret :: tb) (kRm fr lo 1 6) (tPre z E As S sz) (kQi E S sz (fun S1 r => K S1 (some r))) (tXC E S sz (fun S1 => K S1 none)) 1 6 (va_A (cW E S) sz)
theorem tv_oft {l : Launch} (hl9 : l.stackTraces = false) {y : MethodName} {cc : ByteArray} {mL fr lo : Nat} {z : Nat × Nat × Nat} {As : List Value} {S : kS} (hfr : 6 ≤ fr) (hlo : 82 ≤ lo) {K : kS → Option Int32 → Prop} (hy : plainName y.cls = true) (hyc : y.cls = RX11) (hlen : (lg_sl As).length ≤ mL)
    (body : ∀ (E : kE) (p : Program) (e : Env) (R : Room) (s : State) (m : MethodId) (args : Array Value) (below : List Frame) (meth : Method) (c : Code) (A : Nat → Prop) (ls : Array Slot) (Q : State → Prop), fr ≤ R.frames → lo ≤ R.locals → kX RX11 p s m args c cc mL E A → vZ z A s s.heap → cM E A s.heap S s.heap [] → lv_has ls mL (lv_args 0 As) →
      (∀ (r : Int32) (S1 : kS) (H : Heap) (locs : List Loc) (pc : Nat) (ls1 : Array Slot), cM E A s.heap S1 H locs → K S1 (some r) → decode cc pc = .ok (.ireturn, 1) → W p l e R s m args below meth c H locs 0 0 Q (F0 m pc ls1 [.int r])) →
      (∀ (S1 : kS) (H : Heap) (locs : List Loc) (pc is sa : Nat) (text : String) (ls1 : Array Slot), cM E A s.heap S1 H locs → K S1 none → vk_R RX11 is text sa s → ls1.size = mL → decode cc pc = .ok (.new 101, 3) → decode cc (pc + 3) = .ok (.dup, 1) → decode cc (pc + 4) = .ok (.ldc is, 2) → decode cc (pc + 6) = .ok (.invokespecial 105, 3) → decode cc (pc + 9) = .ok (.athrow, 1) → W p l e R s m args below meth c H locs 0 0 Q (F0 m pc ls1 [])) → W p l e R s m args below meth c s.heap [] 0 0 Q (F0 m 0 ls [])) : tMt l y cc mL (some .int) fr lo z As S K := by
  intro E sz
  refine vx_ofW (cc := cc) (maxL := mL) (ret := some .int) hy rfl ?_
  intro p e s m args below meth c s₁ B hml ht9 hv
  obtain ⟨rfl, hsz, hP, hK, hD0, hZ, hV⟩ := hv
  have hr := B.returns
  have hlocks := B.notSynchronized
  have hD := hD0.self (sz := s.heap.size)
  subst hsz
  have hts : ∀ w ∈ tb, w.before _ s = true := fun w h => atoms_spec (ws := (.code y cc mL (some .int) :: tb)) B.pre w (List.mem_cons_of_mem _ h)
  have hown : s.vm.findClass RX11 = some m.cls := by rw [← hyc]; exact findClass_of_methodNamed B.named
  rw [lg_entry_eq]
  refine body E p e _ s m _ below meth c (va_A (cW E S) s.heap.size) _ _ (Nat.le_refl _) (Nat.le_refl _) ⟨⟨B.exec, B.bytes, hml, hown, hts⟩, hK, fun q h => Or.inr h, hZ⟩ hV ⟨hP, hD, va_S.rf⟩ (lv_entry _ hlen) (fun r S1 H locs pc ls1 hC hp hd => ?_) (fun S1 H locs pc is sa text ls1 hC hp hvk hls d0 d3 d4 d6 d9 => ?_)
  · exact vx_ret (W.widen (Nat.zero_le 1) (Nat.zero_le 6) (W.iret (v := r) B.exec B.bytes hr (fun t ht hW => ⟨⟨r, (r, S1), rfl, rfl, hp, by rw [ht]; exact hC.1, va_K.moved hW.alike hK, hC.2.1⟩, hC.2.2.F ht⟩) hC.2.2.2.2 hd))
  · have hB : ∀ (av : Array Value), ∀ w ∈ th_B, w.before av s = true := fun av => vx_c (va_Nw.use rfl hV.1) (vx_c (va_Nw.use rfl hV.2.1) (vx_c (va_Nw.use rfl hV.2.2.1) (vx_c (va_Nw.use rfl hV.2.2.2.1) vx_n)))
    exact th_throw (is := is) (text := text) B.exec B.bytes hl9 hown (hts _ wd_1288) (hts _ wd_21) hvk (vx_hat (L := th_L) (fun w h => hts w (th_mem w h)) th_no (hB _)) th_ot hV.2.2.2.2.1 hV.2.2.2.2.2.1 hC.2.2 (by rw [hml]; exact hls) d0 d3 d4 d6 d9 (fun x h => (ht9 x h).elim) (by show 5 < fr; omega) (by show 0 + 82 ≤ lo; omega) (Nat.le_refl _) (Nat.le_refl _) hlocks (fun t hal h1 h2 => ⟨S1, hp, ⟨rfl, hC.1.kept (fun k q hk => h2 q.1 (hC.1 k q hk).lt), va_K.moved hal hK, hC.2.1⟩, Nat.le_trans hC.2.2.1 h1, fun q hq hn => (h2 q (Nat.lt_of_lt_of_le hq hC.2.2.1)).trans (hC.2.2.2.1 q hq hn)⟩) hC.2.2.2.2 (Nat.le_refl _) (Nat.le_refl _)
def wp_X11_routine_20 (K : kS → Option Int32 → Prop) (S : kS) : Prop := K S none
def wp_X11_routine (t0 : Nat) (a0 : Int32) (a1 : Int32) (S : kS) (K : kS → Option Int32 → Prop) : Prop := hasO S t0 11 ∧ ∀ z1 : Option Nat, z1 = S.2.1 74 t0 → ∃ q2 : Nat, z1 = some q2 ∧ hasO S q2 5 ∧ wp_X5_has q2 a0 S (fun (S3 : kS) (r3 : Int32) => ((r3 = 0 → wp_X11_routine_20 K S3) ∧ (¬ r3 = 0 → ((a1 < 0 → wp_X11_routine_20 K S3) ∧ (¬ a1 < 0 → ((a1 ≤ 2 → ((¬ a1 = 0 → ((¬ a1 = 1 → hasO S3 t0 11 ∧ ∀ z9 : Option Nat, z9 = S3.2.1 74 t0 → ∃ q10 : Nat, z9 = some q10 ∧ hasO S3 q10 5 ∧ ∀ z11 : Option Nat, z11 = S3.2.1 36 q10 → ∃ q12 : Nat, z11 = some q12 ∧ hasA S3 q12 12 0 ∧ inR a0 12 ∧ ∀ z13 : Int32, z13 = S3.2.2.1 q12 (ix a0) → ∀ z14 : Int32, z14 = 1 + z13 → K S3 (some z14)) ∧ (a1 = 1 → hasO S3 t0 11 ∧ ∀ z15 : Option Nat, z15 = S3.2.1 74 t0 → ∃ q16 : Nat, z15 = some q16 ∧ hasO S3 q16 5 ∧ ∀ z17 : Option Nat, z17 = S3.2.1 35 q16 → ∃ q18 : Nat, z17 = some q18 ∧ hasA S3 q18 12 0 ∧ inR a0 12 ∧ ∀ z19 : Int32, z19 = S3.2.2.1 q18 (ix a0) → K S3 (some z19)))) ∧ (a1 = 0 → hasO S3 t0 11 ∧ ∀ z20 : Option Nat, z20 = S3.2.1 74 t0 → ∃ q21 : Nat, z20 = some q21 ∧ hasO S3 q21 5 ∧ ∀ z22 : Option Nat, z22 = S3.2.1 34 q21 → ∃ q23 : Nat, z22 = some q23 ∧ hasA S3 q23 12 0 ∧ inR a0 12 ∧ ∀ z24 : Int32, z24 = S3.2.2.1 q23 (ix a0) → K S3 (some z24)))) ∧ (¬ a1 ≤ 2 → wp_X11_routine_20 K S3)))))))
set_option maxHeartbeats 4000000 in
set_option maxRecDepth 100000 in
theorem kt_X11_routine (l : Launch) (hl9 : l.stackTraces = false) (z : Nat × Nat × Nat) (S : kS) (t0 : Nat) (a0 : Int32) (a1 : Int32) (K : kS → Option Int32 → Prop) (h : wp_X11_routine t0 a0 a1 S K) : tMt l yX11_routine cX11_routine 3 (some .int) 6 82 z [.ref t0, .int a0, .int a1] S K := by
  refine tv_oft hl9 (by decide) (by decide) (by decide) rfl (Nat.le_of_ble_eq_true rfl) ?_
  intro E p e R s m args below meth c A ls Q hRf hRl hX hV hC hl hret hthr
  have hx := hX.1.1
  have hb := hX.1.2.1
  have hown := hX.1.2.2.2.1
  have hts := hX.1.2.2.2.2
  have cut20 : ∀ (S : kS) (H : Heap) (locs : List Loc) (ls : Array Slot), wp_X11_routine_20 K S → cM E A s.heap S H locs → lv_has ls 3 [] → W p l e R s m args below meth c H locs 0 0 Q (F0 m 20 ls []) := by
    intro S H locs ls h hC hl
    unfold wp_X11_routine_20 at h
    exact hthr _ _ _ _ _ _ _ _ hC h hV.2.2.2.2.2.2.1 hl.1 dX11_routine_20 dX11_routine_23 dX11_routine_24 dX11_routine_26 dX11_routine_29
  have hl : lv_has ls 3 [(0, .ref t0), (1, .int a0), (2, .int a1)] := hl
  unfold wp_X11_routine at h
  refine lv_aload_n hx hb dX11_routine_0 rfl (lv_at hl 0 rfl) ?_
  refine cq_getr (ci := 11) (k := 5) (f := 74) hX hC rfl in_X11 (by decide) wd_483 (fun _ h9 => h9) (fun _ _ => rfl) dX11_routine_1 h (fun z1 h => ?_)
  refine lv_iload_n hx hb dX11_routine_4 rfl (lv_at hl 1 rfl) ?_
  obtain ⟨q2, e9, hh⟩ := h
  subst e9
  have h := hh
  clear hh
  refine kv_calli [.int a0] (rest := []) (ci := 5) rfl hX hC h.1 (kt_X5_has l S q2 a0 _ h.2 E _) (cw_X11_97 hts (by omega) (by omega)) rfl hl.1 (Nat.le_of_ble_eq_true rfl) ⟨Nat.zero_le _, Nat.zero_le _⟩ dX11_routine_5 (fun r3 S3 H locs hC h => ?_)
  refine lv_if_eq (tgt := 20) hx hb dX11_routine_8 (by decide) (fun c4 => ?_) (fun c4 => ?_)
  · have h := h.1 c4
    exact cut20 S3 _ _ _ h hC (lv_sub hl [] rfl)
  · have h := h.2 c4
    refine lv_iload_n hx hb dX11_routine_11 rfl (lv_at hl 2 rfl) ?_
    refine lv_if_lt (tgt := 20) hx hb dX11_routine_12 (by decide) (fun c5 => ?_) (fun c5 => ?_)
    · have h := h.1 c5
      exact cut20 S3 _ _ _ h hC (lv_sub hl [] rfl)
    · have h := h.2 c5
      refine lv_iload_n hx hb dX11_routine_15 rfl (lv_at hl 2 rfl) ?_
      refine lv_iconst (v := 2) hx hb dX11_routine_16 (by decide) ?_
      refine lv_icmp_le (tgt := 30) hx hb dX11_routine_17 (by decide) (fun c6 => ?_) (fun c6 => ?_)
      · have h := h.1 c6
        refine lv_iload_n hx hb dX11_routine_30 rfl (lv_at hl 2 rfl) ?_
        refine lv_if_ne (tgt := 44) hx hb dX11_routine_31 (by decide) (fun c7 => ?_) (fun c7 => ?_)
        · have h := h.1 c7
          refine lv_iload_n hx hb dX11_routine_44 rfl (lv_at hl 2 rfl) ?_
          refine lv_iconst (v := 1) hx hb dX11_routine_45 (by decide) ?_
          refine lv_icmp_ne (tgt := 61) hx hb dX11_routine_46 (by decide) (fun c8 => ?_) (fun c8 => ?_)
          · have h := h.1 c8
            refine lv_iconst (v := 1) hx hb dX11_routine_61 (by decide) ?_
            refine lv_aload_n hx hb dX11_routine_62 rfl (lv_at hl 0 rfl) ?_
            refine cq_getr (ci := 11) (k := 5) (f := 74) hX hC rfl in_X11 (by decide) wd_483 (fun _ h9 => h9) (fun _ _ => rfl) dX11_routine_63 h (fun z9 h => ?_)
            obtain ⟨q10, e9, hh⟩ := h
            subst e9
            have h := hh
            clear hh
            refine cq_getr (ci := 5) (k := 10) (f := 36) hX hC rfl in_X5 (by decide) wd_428 (fun _ h9 => h9) (fun _ _ => rfl) dX11_routine_66 h (fun z11 h => ?_)
            refine lv_iload_n hx hb dX11_routine_69 rfl (lv_at hl 1 rfl) ?_
            obtain ⟨q12, e9, hh⟩ := h
            subst e9
            have h := hh
            clear hh
            refine cq_ild hX hC dX11_routine_70 h (fun z13 h => ?_)
            refine lq_iadd hx hb dX11_routine_71 h (fun z14 h => ?_)
            exact hret _ _ _ _ _ _ hC h dX11_routine_72
          · have h := h.2 c8
            refine lv_aload_n hx hb dX11_routine_49 rfl (lv_at hl 0 rfl) ?_
            refine cq_getr (ci := 11) (k := 5) (f := 74) hX hC rfl in_X11 (by decide) wd_483 (fun _ h9 => h9) (fun _ _ => rfl) dX11_routine_50 h (fun z15 h => ?_)
            obtain ⟨q16, e9, hh⟩ := h
            subst e9
            have h := hh
            clear hh
            refine cq_getr (ci := 5) (k := 9) (f := 35) hX hC rfl in_X5 (by decide) wd_426 (fun _ h9 => h9) (fun _ _ => rfl) dX11_routine_53 h (fun z17 h => ?_)
            refine lv_iload_n hx hb dX11_routine_56 rfl (lv_at hl 1 rfl) ?_
            obtain ⟨q18, e9, hh⟩ := h
            subst e9
            have h := hh
            clear hh
            refine cq_ild hX hC dX11_routine_57 h (fun z19 h => ?_)
            refine lv_goto (tgt := 72) hx hb dX11_routine_58 (by decide) ?_
            exact hret _ _ _ _ _ _ hC h dX11_routine_72
        · have h := h.2 c7
          refine lv_aload_n hx hb dX11_routine_34 rfl (lv_at hl 0 rfl) ?_
          refine cq_getr (ci := 11) (k := 5) (f := 74) hX hC rfl in_X11 (by decide) wd_483 (fun _ h9 => h9) (fun _ _ => rfl) dX11_routine_35 h (fun z20 h => ?_)
          obtain ⟨q21, e9, hh⟩ := h
          subst e9
          have h := hh
          clear hh
          refine cq_getr (ci := 5) (k := 8) (f := 34) hX hC rfl in_X5 (by decide) wd_422 (fun _ h9 => h9) (fun _ _ => rfl) dX11_routine_38 h (fun z22 h => ?_)
          refine lv_iload_n hx hb dX11_routine_41 rfl (lv_at hl 1 rfl) ?_
          obtain ⟨q23, e9, hh⟩ := h
          subst e9
          have h := hh
          clear hh
          refine cq_ild hX hC dX11_routine_42 h (fun z24 h => ?_)
          exact hret _ _ _ _ _ _ hC h dX11_routine_43
      · have h := h.2 c6
        exact cut20 S3 _ _ _ h hC (lv_sub hl [] rfl)
def wT_X11_routine_20 (K : kS → Option Int32 → Prop) (S : kS) : Prop := K S none
def wT_X11_routine (t0 : Nat) (a0 : Int32) (a1 : Int32) (S : kS) (K : kS → Option Int32 → Prop) : Prop := ∀ z1 : Option Nat, z1 = S.2.1 74 t0 → ∃ q2 : Nat, z1 = some q2 ∧ wT_X5_has q2 a0 S (fun (S3 : kS) (r3 : Int32) => ((r3 = 0 → wT_X11_routine_20 K S3) ∧ (¬ r3 = 0 → ((a1 < 0 → wT_X11_routine_20 K S3) ∧ (¬ a1 < 0 → ((a1 ≤ 2 → ((¬ a1 = 0 → ((¬ a1 = 1 → ∀ z9 : Option Nat, z9 = S3.2.1 74 t0 → ∃ q10 : Nat, z9 = some q10 ∧ ∀ z11 : Option Nat, z11 = S3.2.1 36 q10 → ∀ q12 : Nat, z11 = some q12 → inR a0 12 ∧ ∀ z13 : Int32, z13 = S3.2.2.1 q12 (ix a0) → ∀ z14 : Int32, z14 = 1 + z13 → K S3 (some z14)) ∧ (a1 = 1 → ∀ z15 : Option Nat, z15 = S3.2.1 74 t0 → ∃ q16 : Nat, z15 = some q16 ∧ ∀ z17 : Option Nat, z17 = S3.2.1 35 q16 → ∀ q18 : Nat, z17 = some q18 → inR a0 12 ∧ ∀ z19 : Int32, z19 = S3.2.2.1 q18 (ix a0) → K S3 (some z19)))) ∧ (a1 = 0 → ∀ z20 : Option Nat, z20 = S3.2.1 74 t0 → ∃ q21 : Nat, z20 = some q21 ∧ ∀ z22 : Option Nat, z22 = S3.2.1 34 q21 → ∀ q23 : Nat, z22 = some q23 → inR a0 12 ∧ ∀ z24 : Int32, z24 = S3.2.2.1 q23 (ix a0) → K S3 (some z24)))) ∧ (¬ a1 ≤ 2 → wT_X11_routine_20 K S3)))))))
theorem ty_X11_routine_20 {d : List (Nat × cK)} {K K' : kS → Option Int32 → Prop} (hk : ∀ S1 r1, WT d S1 → K S1 r1 → K' S1 r1) {S : kS} (hW : WT d S) (h : wT_X11_routine_20 K S) : wp_X11_routine_20 K' S := by
  unfold wT_X11_routine_20 at h
  unfold wp_X11_routine_20
  exact hk _ _ hW h
theorem ty_X11_routine {d : List (Nat × cK)} {t0 : Nat} {a0 : Int32} {a1 : Int32} (t_t0 : (t0, Sum.inl 11) ∈ d) {S : kS} {K K' : kS → Option Int32 → Prop} (hW : WT d S) (hk : ∀ S1 r1, WT d S1 → K S1 r1 → K' S1 r1) (h : wT_X11_routine t0 a0 a1 S K) : wp_X11_routine t0 a0 a1 S K' := by
  unfold wT_X11_routine at h
  unfold wp_X11_routine
  refine ⟨hasO_of hW t_t0, ?_⟩
  intro z1 e_z1
  replace h := h z1 e_z1
  have t_z1 : ∀ b, z1 = some b → (b, Sum.inl 5) ∈ d := fun b hb => hW.2.1 74 _ b t_t0 (by rw [← e_z1]; exact hb)
  obtain ⟨q2, e_q2, h9⟩ := h
  replace h := h9
  clear h9
  refine ⟨q2, e_q2, ?_⟩
  have t_q2 := t_z1 q2 e_q2
  refine ⟨hasO_of hW t_q2, ?_⟩
  refine ty_X5_has t_q2 hW (fun S3 r3 hW h => ?_) h
  refine ⟨fun c => ?_, fun c => ?_⟩
  · replace h := h.1 c
    exact ty_X11_routine_20 hk hW h
  · replace h := h.2 c
    refine ⟨fun c => ?_, fun c => ?_⟩
    · replace h := h.1 c
      exact ty_X11_routine_20 hk hW h
    · replace h := h.2 c
      refine ⟨fun c => ?_, fun c => ?_⟩
      · replace h := h.1 c
        refine ⟨fun c => ?_, fun c => ?_⟩
        · replace h := h.1 c
          refine ⟨fun c => ?_, fun c => ?_⟩
          · replace h := h.1 c
            refine ⟨hasO_of hW t_t0, ?_⟩
            intro z9 e_z9
            replace h := h z9 e_z9
            have t_z9 : ∀ b, z9 = some b → (b, Sum.inl 5) ∈ d := fun b hb => hW.2.1 74 _ b t_t0 (by rw [← e_z9]; exact hb)
            obtain ⟨q10, e_q10, h9⟩ := h
            replace h := h9
            clear h9
            refine ⟨q10, e_q10, ?_⟩
            have t_q10 := t_z9 q10 e_q10
            refine ⟨hasO_of hW t_q10, ?_⟩
            intro z11 e_z11
            replace h := h z11 e_z11
            have t_z11 : ∀ b, z11 = some b → (b, Sum.inr (12, 0)) ∈ d := fun b hb => hW.2.1 36 _ b t_q10 (by rw [← e_z11]; exact hb)
            have n_z11 := wt_nn (f := 36) hW (by decide) t_q10 e_z11
            obtain ⟨q12, e_q12⟩ := n_z11
            refine ⟨q12, e_q12, ?_⟩
            replace h := h q12 e_q12
            have t_q12 := t_z11 q12 e_q12
            refine ⟨hasA_of hW t_q12, ?_⟩
            have hin := h.1
            refine ⟨h.1, ?_⟩
            replace h := h.2
            intro z13 e_z13
            replace h := h z13 e_z13
            intro z14 e_z14
            replace h := h z14 e_z14
            exact hk _ _ hW h
          · replace h := h.2 c
            refine ⟨hasO_of hW t_t0, ?_⟩
            intro z15 e_z15
            replace h := h z15 e_z15
            have t_z15 : ∀ b, z15 = some b → (b, Sum.inl 5) ∈ d := fun b hb => hW.2.1 74 _ b t_t0 (by rw [← e_z15]; exact hb)
            obtain ⟨q16, e_q16, h9⟩ := h
            replace h := h9
            clear h9
            refine ⟨q16, e_q16, ?_⟩
            have t_q16 := t_z15 q16 e_q16
            refine ⟨hasO_of hW t_q16, ?_⟩
            intro z17 e_z17
            replace h := h z17 e_z17
            have t_z17 : ∀ b, z17 = some b → (b, Sum.inr (12, 0)) ∈ d := fun b hb => hW.2.1 35 _ b t_q16 (by rw [← e_z17]; exact hb)
            have n_z17 := wt_nn (f := 35) hW (by decide) t_q16 e_z17
            obtain ⟨q18, e_q18⟩ := n_z17
            refine ⟨q18, e_q18, ?_⟩
            replace h := h q18 e_q18
            have t_q18 := t_z17 q18 e_q18
            refine ⟨hasA_of hW t_q18, ?_⟩
            have hin := h.1
            refine ⟨h.1, ?_⟩
            replace h := h.2
            intro z19 e_z19
            replace h := h z19 e_z19
            exact hk _ _ hW h
        · replace h := h.2 c
          refine ⟨hasO_of hW t_t0, ?_⟩
          intro z20 e_z20
          replace h := h z20 e_z20
          have t_z20 : ∀ b, z20 = some b → (b, Sum.inl 5) ∈ d := fun b hb => hW.2.1 74 _ b t_t0 (by rw [← e_z20]; exact hb)
          obtain ⟨q21, e_q21, h9⟩ := h
          replace h := h9
          clear h9
          refine ⟨q21, e_q21, ?_⟩
          have t_q21 := t_z20 q21 e_q21
          refine ⟨hasO_of hW t_q21, ?_⟩
          intro z22 e_z22
          replace h := h z22 e_z22
          have t_z22 : ∀ b, z22 = some b → (b, Sum.inr (12, 0)) ∈ d := fun b hb => hW.2.1 34 _ b t_q21 (by rw [← e_z22]; exact hb)
          have n_z22 := wt_nn (f := 34) hW (by decide) t_q21 e_z22
          obtain ⟨q23, e_q23⟩ := n_z22
          refine ⟨q23, e_q23, ?_⟩
          replace h := h q23 e_q23
          have t_q23 := t_z22 q23 e_q23
          refine ⟨hasA_of hW t_q23, ?_⟩
          have hin := h.1
          refine ⟨h.1, ?_⟩
          replace h := h.2
          intro z24 e_z24
          replace h := h z24 e_z24
          exact hk _ _ hW h
      · replace h := h.2 c
        exact ty_X11_routine_20 hk hW h
def wp_X11_task_21 (K : kS → Option Int32 → Prop) (S : kS) : Prop := K S none
def wp_X11_task (t0 : Nat) (a0 : Int32) (a1 : Int32) (S : kS) (K : kS → Option Int32 → Prop) : Prop := hasO S t0 11 ∧ ∀ z1 : Option Nat, z1 = S.2.1 72 t0 → ∃ q2 : Nat, z1 = some q2 ∧ hasO S q2 1 ∧ wp_X1_has q2 a0 S (fun (S3 : kS) (r3 : Int32) => ((r3 = 0 → wp_X11_task_21 K S3) ∧ (¬ r3 = 0 → ((a1 < 0 → wp_X11_task_21 K S3) ∧ (¬ a1 < 0 → ((a1 ≤ 7 → hasO S3 t0 11 ∧ ∀ z7 : Option Nat, z7 = S3.2.1 72 t0 → ∃ q8 : Nat, z7 = some q8 ∧ hasO S3 q8 1 ∧ ∀ z9 : Option Nat, z9 = S3.2.1 3 q8 → ∃ q10 : Nat, z9 = some q10 ∧ hasA S3 q10 200 2 ∧ inR a0 200 ∧ ∀ z11 : Option Nat, z11 = S3.2.2.2.2.1 q10 (ix a0) → ∃ q12 : Nat, z11 = some q12 ∧ hasO S3 q12 9 ∧ wp_X9_tell q12 a1 S3 (fun (S13 : kS) (r13 : Int32) => K S13 (some r13))) ∧ (¬ a1 ≤ 7 → wp_X11_task_21 K S3)))))))
theorem cw_X11_160 {R : Room} {s : State} {args : Array Value} {fr lo : Nat} (hts : ∀ w ∈ tb, w.before args s = true) (h1 : fr + 1 ≤ R.frames) (h2 : 8 + (2 + 11) + lo ≤ R.locals) : CallW R s args RX11 RX1 160 yX1_has cX1_has 2 (some .boolean) (.code yX1_has cX1_has 2 (some .boolean) :: tb) (mRm fr lo) 0 0 1 := cwV 1 hts (gd_V wd_1360 wd_1241 wd_1242 wd_9 wd_1243) rfl rfl rfl (by decide +kernel) ⟨h1, h2⟩
theorem cw_X11_167 {R : Room} {s : State} {args : Array Value} {fr lo : Nat} (hts : ∀ w ∈ tb, w.before args s = true) (h1 : fr + 1 ≤ R.frames) (h2 : 8 + (2 + 11) + lo ≤ R.locals) : CallW R s args RX11 RX9 167 yX9_tell cX9_tell 2 (some .int) (.code yX9_tell cX9_tell 2 (some .int) :: tb) (mRm fr lo) 0 0 1 := cwV 1 hts (gd_V wd_1362 wd_1363 wd_1364 wd_22 wd_1365) rfl rfl rfl (by decide +kernel) ⟨h1, h2⟩
set_option maxHeartbeats 4000000 in
set_option maxRecDepth 100000 in
theorem kt_X11_task (l : Launch) (hl9 : l.stackTraces = false) (z : Nat × Nat × Nat) (S : kS) (t0 : Nat) (a0 : Int32) (a1 : Int32) (K : kS → Option Int32 → Prop) (h : wp_X11_task t0 a0 a1 S K) : tMt l yX11_task cX11_task 3 (some .int) 6 82 z [.ref t0, .int a0, .int a1] S K := by
  refine tv_oft hl9 (by decide) (by decide) (by decide) rfl (Nat.le_of_ble_eq_true rfl) ?_
  intro E p e R s m args below meth c A ls Q hRf hRl hX hV hC hl hret hthr
  have hx := hX.1.1
  have hb := hX.1.2.1
  have hown := hX.1.2.2.2.1
  have hts := hX.1.2.2.2.2
  have cut21 : ∀ (S : kS) (H : Heap) (locs : List Loc) (ls : Array Slot), wp_X11_task_21 K S → cM E A s.heap S H locs → lv_has ls 3 [] → W p l e R s m args below meth c H locs 0 0 Q (F0 m 21 ls []) := by
    intro S H locs ls h hC hl
    unfold wp_X11_task_21 at h
    exact hthr _ _ _ _ _ _ _ _ hC h hV.2.2.2.2.2.2.2.1 hl.1 dX11_task_21 dX11_task_24 dX11_task_25 dX11_task_27 dX11_task_30
  have hl : lv_has ls 3 [(0, .ref t0), (1, .int a0), (2, .int a1)] := hl
  unfold wp_X11_task at h
  refine lv_aload_n hx hb dX11_task_0 rfl (lv_at hl 0 rfl) ?_
  refine cq_getr (ci := 11) (k := 3) (f := 72) hX hC rfl in_X11 (by decide) wd_481 (fun _ h9 => h9) (fun _ _ => rfl) dX11_task_1 h (fun z1 h => ?_)
  refine lv_iload_n hx hb dX11_task_4 rfl (lv_at hl 1 rfl) ?_
  obtain ⟨q2, e9, hh⟩ := h
  subst e9
  have h := hh
  clear hh
  refine kv_calli [.int a0] (rest := []) (ci := 1) rfl hX hC h.1 (kt_X1_has l S q2 a0 _ h.2 E _) (cw_X11_160 hts (by omega) (by omega)) rfl hl.1 (Nat.le_of_ble_eq_true rfl) ⟨Nat.zero_le _, Nat.zero_le _⟩ dX11_task_5 (fun r3 S3 H locs hC h => ?_)
  refine lv_if_eq (tgt := 21) hx hb dX11_task_8 (by decide) (fun c4 => ?_) (fun c4 => ?_)
  · have h := h.1 c4
    exact cut21 S3 _ _ _ h hC (lv_sub hl [] rfl)
  · have h := h.2 c4
    refine lv_iload_n hx hb dX11_task_11 rfl (lv_at hl 2 rfl) ?_
    refine lv_if_lt (tgt := 21) hx hb dX11_task_12 (by decide) (fun c5 => ?_) (fun c5 => ?_)
    · have h := h.1 c5
      exact cut21 S3 _ _ _ h hC (lv_sub hl [] rfl)
    · have h := h.2 c5
      refine lv_iload_n hx hb dX11_task_15 rfl (lv_at hl 2 rfl) ?_
      refine lv_bipush (v := 7) hx hb dX11_task_16 (by decide) ?_
      refine lv_icmp_le (tgt := 31) hx hb dX11_task_18 (by decide) (fun c6 => ?_) (fun c6 => ?_)
      · have h := h.1 c6
        refine lv_aload_n hx hb dX11_task_31 rfl (lv_at hl 0 rfl) ?_
        refine cq_getr (ci := 11) (k := 3) (f := 72) hX hC rfl in_X11 (by decide) wd_481 (fun _ h9 => h9) (fun _ _ => rfl) dX11_task_32 h (fun z7 h => ?_)
        obtain ⟨q8, e9, hh⟩ := h
        subst e9
        have h := hh
        clear hh
        refine cq_getr (ci := 1) (k := 1) (f := 3) hX hC rfl in_X1 (by decide) wd_236 (fun _ h9 => h9) (fun _ _ => rfl) dX11_task_35 h (fun z9 h => ?_)
        refine lv_iload_n hx hb dX11_task_38 rfl (lv_at hl 1 rfl) ?_
        obtain ⟨q10, e9, hh⟩ := h
        subst e9
        have h := hh
        clear hh
        refine cq_qld2 hX hC dX11_task_39 h (fun z11 h => ?_)
        refine lv_iload_n hx hb dX11_task_40 rfl (lv_at hl 2 rfl) ?_
        obtain ⟨q12, e9, hh⟩ := h
        subst e9
        have h := hh
        clear hh
        refine kv_calli [.int a1] (rest := []) (ci := 9) rfl hX hC h.1 (kt_X9_tell l S3 q12 a1 _ h.2 E _) (cw_X11_167 hts (by omega) (by omega)) rfl hl.1 (Nat.le_of_ble_eq_true rfl) ⟨Nat.zero_le _, Nat.zero_le _⟩ dX11_task_41 (fun r13 S13 H locs hC h => ?_)
        exact hret _ _ _ _ _ _ hC h dX11_task_44
      · have h := h.2 c6
        exact cut21 S3 _ _ _ h hC (lv_sub hl [] rfl)
def wT_X11_task_21 (K : kS → Option Int32 → Prop) (S : kS) : Prop := K S none
def wT_X11_task (t0 : Nat) (a0 : Int32) (a1 : Int32) (S : kS) (K : kS → Option Int32 → Prop) : Prop := ∀ z1 : Option Nat, z1 = S.2.1 72 t0 → ∀ q2 : Nat, z1 = some q2 → wT_X1_has q2 a0 S (fun (S3 : kS) (r3 : Int32) => ((r3 = 0 → wT_X11_task_21 K S3) ∧ (¬ r3 = 0 → ((a1 < 0 → wT_X11_task_21 K S3) ∧ (¬ a1 < 0 → ((a1 ≤ 7 → ∀ z7 : Option Nat, z7 = S3.2.1 72 t0 → ∀ q8 : Nat, z7 = some q8 → ∀ z9 : Option Nat, z9 = S3.2.1 3 q8 → ∀ q10 : Nat, z9 = some q10 → inR a0 200 ∧ ∀ z11 : Option Nat, z11 = S3.2.2.2.2.1 q10 (ix a0) → ∃ q12 : Nat, z11 = some q12 ∧ wT_X9_tell q12 a1 S3 (fun (S13 : kS) (r13 : Int32) => K S13 (some r13))) ∧ (¬ a1 ≤ 7 → wT_X11_task_21 K S3)))))))
theorem ty_X11_task_21 {d : List (Nat × cK)} {K K' : kS → Option Int32 → Prop} (hk : ∀ S1 r1, WT d S1 → K S1 r1 → K' S1 r1) {S : kS} (hW : WT d S) (h : wT_X11_task_21 K S) : wp_X11_task_21 K' S := by
  unfold wT_X11_task_21 at h
  unfold wp_X11_task_21
  exact hk _ _ hW h
theorem ty_X11_task {d : List (Nat × cK)} {t0 : Nat} {a0 : Int32} {a1 : Int32} (t_t0 : (t0, Sum.inl 11) ∈ d) {S : kS} {K K' : kS → Option Int32 → Prop} (hW : WT d S) (hk : ∀ S1 r1, WT d S1 → K S1 r1 → K' S1 r1) (h : wT_X11_task t0 a0 a1 S K) : wp_X11_task t0 a0 a1 S K' := by
  unfold wT_X11_task at h
  unfold wp_X11_task
  refine ⟨hasO_of hW t_t0, ?_⟩
  intro z1 e_z1
  replace h := h z1 e_z1
  have t_z1 : ∀ b, z1 = some b → (b, Sum.inl 1) ∈ d := fun b hb => hW.2.1 72 _ b t_t0 (by rw [← e_z1]; exact hb)
  have n_z1 := wt_nn (f := 72) hW (by decide) t_t0 e_z1
  obtain ⟨q2, e_q2⟩ := n_z1
  refine ⟨q2, e_q2, ?_⟩
  replace h := h q2 e_q2
  have t_q2 := t_z1 q2 e_q2
  refine ⟨hasO_of hW t_q2, ?_⟩
  refine ty_X1_has t_q2 hW (fun S3 r3 hW h => ?_) h
  refine ⟨fun c => ?_, fun c => ?_⟩
  · replace h := h.1 c
    exact ty_X11_task_21 hk hW h
  · replace h := h.2 c
    refine ⟨fun c => ?_, fun c => ?_⟩
    · replace h := h.1 c
      exact ty_X11_task_21 hk hW h
    · replace h := h.2 c
      refine ⟨fun c => ?_, fun c => ?_⟩
      · replace h := h.1 c
        refine ⟨hasO_of hW t_t0, ?_⟩
        intro z7 e_z7
        replace h := h z7 e_z7
        have t_z7 : ∀ b, z7 = some b → (b, Sum.inl 1) ∈ d := fun b hb => hW.2.1 72 _ b t_t0 (by rw [← e_z7]; exact hb)
        have n_z7 := wt_nn (f := 72) hW (by decide) t_t0 e_z7
        obtain ⟨q8, e_q8⟩ := n_z7
        refine ⟨q8, e_q8, ?_⟩
        replace h := h q8 e_q8
        have t_q8 := t_z7 q8 e_q8
        refine ⟨hasO_of hW t_q8, ?_⟩
        intro z9 e_z9
        replace h := h z9 e_z9
        have t_z9 : ∀ b, z9 = some b → (b, Sum.inr (200, 2)) ∈ d := fun b hb => hW.2.1 3 _ b t_q8 (by rw [← e_z9]; exact hb)
        have n_z9 := wt_nn (f := 3) hW (by decide) t_q8 e_z9
        obtain ⟨q10, e_q10⟩ := n_z9
        refine ⟨q10, e_q10, ?_⟩
        replace h := h q10 e_q10
        have t_q10 := t_z9 q10 e_q10
        refine ⟨hasA_of hW t_q10, ?_⟩
        have hin := h.1
        refine ⟨h.1, ?_⟩
        replace h := h.2
        intro z11 e_z11
        replace h := h z11 e_z11
        have t_z11 : ∀ b, z11 = some b → (b, Sum.inl 9) ∈ d := fun b hb => hW.2.2.2.1 _ _ b t_q10 (by rw [← e_z11]; exact hb)
        obtain ⟨q12, e_q12, h9⟩ := h
        replace h := h9
        clear h9
        refine ⟨q12, e_q12, ?_⟩
        have t_q12 := t_z11 q12 e_q12
        refine ⟨hasO_of hW t_q12, ?_⟩
        refine ty_X9_tell t_q12 hW (fun S13 r13 hW h => ?_) h
        exact hk _ _ hW h
      · replace h := h.2 c
        exact ty_X11_task_21 hk hW h
def wp_X11_cell_39 (K : kS → Option Int32 → Prop) (S : kS) : Prop := K S none
def wp_X11_cell (t0 : Nat) (a0 : Int32) (a1 : Int32) (S : kS) (K : kS → Option Int32 → Prop) : Prop := hasO S t0 11 ∧ ∀ z1 : Option Nat, z1 = S.2.1 72 t0 → ∃ q2 : Nat, z1 = some q2 ∧ hasO S q2 1 ∧ wp_X1_has q2 a0 S (fun (S3 : kS) (r3 : Int32) => ((r3 = 0 → wp_X11_cell_39 K S3) ∧ (¬ r3 = 0 → ((a1 < 0 → wp_X11_cell_39 K S3) ∧ (¬ a1 < 0 → hasO S3 t0 11 ∧ ∀ z6 : Option Nat, z6 = S3.2.1 74 t0 → ∃ q7 : Nat, z6 = some q7 ∧ hasO S3 q7 5 ∧ ∀ z8 : Option Nat, z8 = S3.2.1 35 q7 → hasO S3 t0 11 ∧ ∀ z9 : Option Nat, z9 = S3.2.1 72 t0 → ∃ q10 : Nat, z9 = some q10 ∧ hasO S3 q10 1 ∧ ∀ z11 : Option Nat, z11 = S3.2.1 3 q10 → ∃ q12 : Nat, z11 = some q12 ∧ hasA S3 q12 200 2 ∧ inR a0 200 ∧ ∀ z13 : Option Nat, z13 = S3.2.2.2.2.1 q12 (ix a0) → ∃ q14 : Nat, z13 = some q14 ∧ hasO S3 q14 9 ∧ ∀ z15 : Int32, z15 = S3.1 29 q14 → ∃ q16 : Nat, z8 = some q16 ∧ hasA S3 q16 12 0 ∧ inR z15 12 ∧ ∀ z17 : Int32, z17 = S3.2.2.1 q16 (ix z15) → ((a1 < z17 → hasO S3 t0 11 ∧ ∀ z19 : Option Nat, z19 = S3.2.1 72 t0 → ∃ q20 : Nat, z19 = some q20 ∧ hasO S3 q20 1 ∧ ∀ z21 : Option Nat, z21 = S3.2.1 3 q20 → ∃ q22 : Nat, z21 = some q22 ∧ hasA S3 q22 200 2 ∧ inR a0 200 ∧ ∀ z23 : Option Nat, z23 = S3.2.2.2.2.1 q22 (ix a0) → ∃ q24 : Nat, z23 = some q24 ∧ hasO S3 q24 9 ∧ wp_X9_look q24 a1 S3 (fun (S25 : kS) (r25 : Int32) => K S25 (some r25))) ∧ (¬ a1 < z17 → wp_X11_cell_39 K S3)))))))
theorem cw_X11_175 {R : Room} {s : State} {args : Array Value} {fr lo : Nat} (hts : ∀ w ∈ tb, w.before args s = true) (h1 : fr + 1 ≤ R.frames) (h2 : 8 + (2 + 11) + lo ≤ R.locals) : CallW R s args RX11 RX9 175 yX9_look cX9_look 2 (some .int) (.code yX9_look cX9_look 2 (some .int) :: tb) (mRm fr lo) 0 0 1 := cwV 1 hts (gd_V wd_1374 wd_1010 wd_1011 wd_22 wd_1012) rfl rfl rfl (by decide +kernel) ⟨h1, h2⟩
set_option maxHeartbeats 4000000 in
set_option maxRecDepth 100000 in
theorem kt_X11_cell (l : Launch) (hl9 : l.stackTraces = false) (z : Nat × Nat × Nat) (S : kS) (t0 : Nat) (a0 : Int32) (a1 : Int32) (K : kS → Option Int32 → Prop) (h : wp_X11_cell t0 a0 a1 S K) : tMt l yX11_cell cX11_cell 3 (some .int) 6 82 z [.ref t0, .int a0, .int a1] S K := by
  refine tv_oft hl9 (by decide) (by decide) (by decide) rfl (Nat.le_of_ble_eq_true rfl) ?_
  intro E p e R s m args below meth c A ls Q hRf hRl hX hV hC hl hret hthr
  have hx := hX.1.1
  have hb := hX.1.2.1
  have hown := hX.1.2.2.2.1
  have hts := hX.1.2.2.2.2
  have cut39 : ∀ (S : kS) (H : Heap) (locs : List Loc) (ls : Array Slot), wp_X11_cell_39 K S → cM E A s.heap S H locs → lv_has ls 3 [] → W p l e R s m args below meth c H locs 0 0 Q (F0 m 39 ls []) := by
    intro S H locs ls h hC hl
    unfold wp_X11_cell_39 at h
    exact hthr _ _ _ _ _ _ _ _ hC h hV.2.2.2.2.2.2.2.2 hl.1 dX11_cell_39 dX11_cell_42 dX11_cell_43 dX11_cell_45 dX11_cell_48
  have hl : lv_has ls 3 [(0, .ref t0), (1, .int a0), (2, .int a1)] := hl
  unfold wp_X11_cell at h
  refine lv_aload_n hx hb dX11_cell_0 rfl (lv_at hl 0 rfl) ?_
  refine cq_getr (ci := 11) (k := 3) (f := 72) hX hC rfl in_X11 (by decide) wd_481 (fun _ h9 => h9) (fun _ _ => rfl) dX11_cell_1 h (fun z1 h => ?_)
  refine lv_iload_n hx hb dX11_cell_4 rfl (lv_at hl 1 rfl) ?_
  obtain ⟨q2, e9, hh⟩ := h
  subst e9
  have h := hh
  clear hh
  refine kv_calli [.int a0] (rest := []) (ci := 1) rfl hX hC h.1 (kt_X1_has l S q2 a0 _ h.2 E _) (cw_X11_160 hts (by omega) (by omega)) rfl hl.1 (Nat.le_of_ble_eq_true rfl) ⟨Nat.zero_le _, Nat.zero_le _⟩ dX11_cell_5 (fun r3 S3 H locs hC h => ?_)
  refine lv_if_eq (tgt := 39) hx hb dX11_cell_8 (by decide) (fun c4 => ?_) (fun c4 => ?_)
  · have h := h.1 c4
    exact cut39 S3 _ _ _ h hC (lv_sub hl [] rfl)
  · have h := h.2 c4
    refine lv_iload_n hx hb dX11_cell_11 rfl (lv_at hl 2 rfl) ?_
    refine lv_if_lt (tgt := 39) hx hb dX11_cell_12 (by decide) (fun c5 => ?_) (fun c5 => ?_)
    · have h := h.1 c5
      exact cut39 S3 _ _ _ h hC (lv_sub hl [] rfl)
    · have h := h.2 c5
      refine lv_iload_n hx hb dX11_cell_15 rfl (lv_at hl 2 rfl) ?_
      refine lv_aload_n hx hb dX11_cell_16 rfl (lv_at hl 0 rfl) ?_
      refine cq_getr (ci := 11) (k := 5) (f := 74) hX hC rfl in_X11 (by decide) wd_483 (fun _ h9 => h9) (fun _ _ => rfl) dX11_cell_17 h (fun z6 h => ?_)
      obtain ⟨q7, e9, hh⟩ := h
      subst e9
      have h := hh
      clear hh
      refine cq_getr (ci := 5) (k := 9) (f := 35) hX hC rfl in_X5 (by decide) wd_426 (fun _ h9 => h9) (fun _ _ => rfl) dX11_cell_20 h (fun z8 h => ?_)
      refine lv_aload_n hx hb dX11_cell_23 rfl (lv_at hl 0 rfl) ?_
      refine cq_getr (ci := 11) (k := 3) (f := 72) hX hC rfl in_X11 (by decide) wd_481 (fun _ h9 => h9) (fun _ _ => rfl) dX11_cell_24 h (fun z9 h => ?_)
      obtain ⟨q10, e9, hh⟩ := h
      subst e9
      have h := hh
      clear hh
      refine cq_getr (ci := 1) (k := 1) (f := 3) hX hC rfl in_X1 (by decide) wd_236 (fun _ h9 => h9) (fun _ _ => rfl) dX11_cell_27 h (fun z11 h => ?_)
      refine lv_iload_n hx hb dX11_cell_30 rfl (lv_at hl 1 rfl) ?_
      obtain ⟨q12, e9, hh⟩ := h
      subst e9
      have h := hh
      clear hh
      refine cq_qld2 hX hC dX11_cell_31 h (fun z13 h => ?_)
      obtain ⟨q14, e9, hh⟩ := h
      subst e9
      have h := hh
      clear hh
      refine cq_geti (ci := 9) (k := 1) (f := 29) hX hC rfl in_X9 (by decide) wd_868 (fun _ h9 => h9) (fun _ _ => rfl) dX11_cell_32 h (fun z15 h => ?_)
      obtain ⟨q16, e9, hh⟩ := h
      subst e9
      have h := hh
      clear hh
      refine cq_ild hX hC dX11_cell_35 h (fun z17 h => ?_)
      refine lv_icmp_lt (tgt := 49) hx hb dX11_cell_36 (by decide) (fun c18 => ?_) (fun c18 => ?_)
      · have h := h.1 c18
        refine lv_aload_n hx hb dX11_cell_49 rfl (lv_at hl 0 rfl) ?_
        refine cq_getr (ci := 11) (k := 3) (f := 72) hX hC rfl in_X11 (by decide) wd_481 (fun _ h9 => h9) (fun _ _ => rfl) dX11_cell_50 h (fun z19 h => ?_)
        obtain ⟨q20, e9, hh⟩ := h
        subst e9
        have h := hh
        clear hh
        refine cq_getr (ci := 1) (k := 1) (f := 3) hX hC rfl in_X1 (by decide) wd_236 (fun _ h9 => h9) (fun _ _ => rfl) dX11_cell_53 h (fun z21 h => ?_)
        refine lv_iload_n hx hb dX11_cell_56 rfl (lv_at hl 1 rfl) ?_
        obtain ⟨q22, e9, hh⟩ := h
        subst e9
        have h := hh
        clear hh
        refine cq_qld2 hX hC dX11_cell_57 h (fun z23 h => ?_)
        refine lv_iload_n hx hb dX11_cell_58 rfl (lv_at hl 2 rfl) ?_
        obtain ⟨q24, e9, hh⟩ := h
        subst e9
        have h := hh
        clear hh
        refine kv_calli [.int a1] (rest := []) (ci := 9) rfl hX hC h.1 (kt_X9_look l S3 q24 a1 _ h.2 E _) (cw_X11_175 hts (by omega) (by omega)) rfl hl.1 (Nat.le_of_ble_eq_true rfl) ⟨Nat.zero_le _, Nat.zero_le _⟩ dX11_cell_59 (fun r25 S25 H locs hC h => ?_)
        exact hret _ _ _ _ _ _ hC h dX11_cell_62
      · have h := h.2 c18
        exact cut39 S3 _ _ _ h hC (lv_sub hl [] rfl)
def wT_X11_cell_39 (K : kS → Option Int32 → Prop) (S : kS) : Prop := K S none
def wT_X11_cell (t0 : Nat) (a0 : Int32) (a1 : Int32) (S : kS) (K : kS → Option Int32 → Prop) : Prop := ∀ z1 : Option Nat, z1 = S.2.1 72 t0 → ∀ q2 : Nat, z1 = some q2 → wT_X1_has q2 a0 S (fun (S3 : kS) (r3 : Int32) => ((r3 = 0 → wT_X11_cell_39 K S3) ∧ (¬ r3 = 0 → ((a1 < 0 → wT_X11_cell_39 K S3) ∧ (¬ a1 < 0 → ∀ z6 : Option Nat, z6 = S3.2.1 74 t0 → ∃ q7 : Nat, z6 = some q7 ∧ ∀ z8 : Option Nat, z8 = S3.2.1 35 q7 → ∀ z9 : Option Nat, z9 = S3.2.1 72 t0 → ∀ q10 : Nat, z9 = some q10 → ∀ z11 : Option Nat, z11 = S3.2.1 3 q10 → ∀ q12 : Nat, z11 = some q12 → inR a0 200 ∧ ∀ z13 : Option Nat, z13 = S3.2.2.2.2.1 q12 (ix a0) → ∃ q14 : Nat, z13 = some q14 ∧ ∀ z15 : Int32, z15 = S3.1 29 q14 → ∀ q16 : Nat, z8 = some q16 → inR z15 12 ∧ ∀ z17 : Int32, z17 = S3.2.2.1 q16 (ix z15) → ((a1 < z17 → ∀ z19 : Option Nat, z19 = S3.2.1 72 t0 → ∀ q20 : Nat, z19 = some q20 → ∀ z21 : Option Nat, z21 = S3.2.1 3 q20 → ∀ q22 : Nat, z21 = some q22 → inR a0 200 ∧ ∀ z23 : Option Nat, z23 = S3.2.2.2.2.1 q22 (ix a0) → ∃ q24 : Nat, z23 = some q24 ∧ wT_X9_look q24 a1 S3 (fun (S25 : kS) (r25 : Int32) => K S25 (some r25))) ∧ (¬ a1 < z17 → wT_X11_cell_39 K S3)))))))
theorem ty_X11_cell_39 {d : List (Nat × cK)} {K K' : kS → Option Int32 → Prop} (hk : ∀ S1 r1, WT d S1 → K S1 r1 → K' S1 r1) {S : kS} (hW : WT d S) (h : wT_X11_cell_39 K S) : wp_X11_cell_39 K' S := by
  unfold wT_X11_cell_39 at h
  unfold wp_X11_cell_39
  exact hk _ _ hW h
theorem ty_X11_cell {d : List (Nat × cK)} {t0 : Nat} {a0 : Int32} {a1 : Int32} (t_t0 : (t0, Sum.inl 11) ∈ d) {S : kS} {K K' : kS → Option Int32 → Prop} (hW : WT d S) (hk : ∀ S1 r1, WT d S1 → K S1 r1 → K' S1 r1) (h : wT_X11_cell t0 a0 a1 S K) : wp_X11_cell t0 a0 a1 S K' := by
  unfold wT_X11_cell at h
  unfold wp_X11_cell
  refine ⟨hasO_of hW t_t0, ?_⟩
  intro z1 e_z1
  replace h := h z1 e_z1
  have t_z1 : ∀ b, z1 = some b → (b, Sum.inl 1) ∈ d := fun b hb => hW.2.1 72 _ b t_t0 (by rw [← e_z1]; exact hb)
  have n_z1 := wt_nn (f := 72) hW (by decide) t_t0 e_z1
  obtain ⟨q2, e_q2⟩ := n_z1
  refine ⟨q2, e_q2, ?_⟩
  replace h := h q2 e_q2
  have t_q2 := t_z1 q2 e_q2
  refine ⟨hasO_of hW t_q2, ?_⟩
  refine ty_X1_has t_q2 hW (fun S3 r3 hW h => ?_) h
  refine ⟨fun c => ?_, fun c => ?_⟩
  · replace h := h.1 c
    exact ty_X11_cell_39 hk hW h
  · replace h := h.2 c
    refine ⟨fun c => ?_, fun c => ?_⟩
    · replace h := h.1 c
      exact ty_X11_cell_39 hk hW h
    · replace h := h.2 c
      refine ⟨hasO_of hW t_t0, ?_⟩
      intro z6 e_z6
      replace h := h z6 e_z6
      have t_z6 : ∀ b, z6 = some b → (b, Sum.inl 5) ∈ d := fun b hb => hW.2.1 74 _ b t_t0 (by rw [← e_z6]; exact hb)
      obtain ⟨q7, e_q7, h9⟩ := h
      replace h := h9
      clear h9
      refine ⟨q7, e_q7, ?_⟩
      have t_q7 := t_z6 q7 e_q7
      refine ⟨hasO_of hW t_q7, ?_⟩
      intro z8 e_z8
      replace h := h z8 e_z8
      have t_z8 : ∀ b, z8 = some b → (b, Sum.inr (12, 0)) ∈ d := fun b hb => hW.2.1 35 _ b t_q7 (by rw [← e_z8]; exact hb)
      have n_z8 := wt_nn (f := 35) hW (by decide) t_q7 e_z8
      refine ⟨hasO_of hW t_t0, ?_⟩
      intro z9 e_z9
      replace h := h z9 e_z9
      have t_z9 : ∀ b, z9 = some b → (b, Sum.inl 1) ∈ d := fun b hb => hW.2.1 72 _ b t_t0 (by rw [← e_z9]; exact hb)
      have n_z9 := wt_nn (f := 72) hW (by decide) t_t0 e_z9
      obtain ⟨q10, e_q10⟩ := n_z9
      refine ⟨q10, e_q10, ?_⟩
      replace h := h q10 e_q10
      have t_q10 := t_z9 q10 e_q10
      refine ⟨hasO_of hW t_q10, ?_⟩
      intro z11 e_z11
      replace h := h z11 e_z11
      have t_z11 : ∀ b, z11 = some b → (b, Sum.inr (200, 2)) ∈ d := fun b hb => hW.2.1 3 _ b t_q10 (by rw [← e_z11]; exact hb)
      have n_z11 := wt_nn (f := 3) hW (by decide) t_q10 e_z11
      obtain ⟨q12, e_q12⟩ := n_z11
      refine ⟨q12, e_q12, ?_⟩
      replace h := h q12 e_q12
      have t_q12 := t_z11 q12 e_q12
      refine ⟨hasA_of hW t_q12, ?_⟩
      have hin := h.1
      refine ⟨h.1, ?_⟩
      replace h := h.2
      intro z13 e_z13
      replace h := h z13 e_z13
      have t_z13 : ∀ b, z13 = some b → (b, Sum.inl 9) ∈ d := fun b hb => hW.2.2.2.1 _ _ b t_q12 (by rw [← e_z13]; exact hb)
      obtain ⟨q14, e_q14, h9⟩ := h
      replace h := h9
      clear h9
      refine ⟨q14, e_q14, ?_⟩
      have t_q14 := t_z13 q14 e_q14
      refine ⟨hasO_of hW t_q14, ?_⟩
      intro z15 e_z15
      replace h := h z15 e_z15
      obtain ⟨q16, e_q16⟩ := n_z8
      refine ⟨q16, e_q16, ?_⟩
      replace h := h q16 e_q16
      have t_q16 := t_z8 q16 e_q16
      refine ⟨hasA_of hW t_q16, ?_⟩
      have hin := h.1
      refine ⟨h.1, ?_⟩
      replace h := h.2
      intro z17 e_z17
      replace h := h z17 e_z17
      refine ⟨fun c => ?_, fun c => ?_⟩
      · replace h := h.1 c
        refine ⟨hasO_of hW t_t0, ?_⟩
        intro z19 e_z19
        replace h := h z19 e_z19
        have t_z19 : ∀ b, z19 = some b → (b, Sum.inl 1) ∈ d := fun b hb => hW.2.1 72 _ b t_t0 (by rw [← e_z19]; exact hb)
        have n_z19 := wt_nn (f := 72) hW (by decide) t_t0 e_z19
        obtain ⟨q20, e_q20⟩ := n_z19
        refine ⟨q20, e_q20, ?_⟩
        replace h := h q20 e_q20
        have t_q20 := t_z19 q20 e_q20
        refine ⟨hasO_of hW t_q20, ?_⟩
        intro z21 e_z21
        replace h := h z21 e_z21
        have t_z21 : ∀ b, z21 = some b → (b, Sum.inr (200, 2)) ∈ d := fun b hb => hW.2.1 3 _ b t_q20 (by rw [← e_z21]; exact hb)
        have n_z21 := wt_nn (f := 3) hW (by decide) t_q20 e_z21
        obtain ⟨q22, e_q22⟩ := n_z21
        refine ⟨q22, e_q22, ?_⟩
        replace h := h q22 e_q22
        have t_q22 := t_z21 q22 e_q22
        refine ⟨hasA_of hW t_q22, ?_⟩
        have hin := h.1
        refine ⟨h.1, ?_⟩
        replace h := h.2
        intro z23 e_z23
        replace h := h z23 e_z23
        have t_z23 : ∀ b, z23 = some b → (b, Sum.inl 9) ∈ d := fun b hb => hW.2.2.2.1 _ _ b t_q22 (by rw [← e_z23]; exact hb)
        obtain ⟨q24, e_q24, h9⟩ := h
        replace h := h9
        clear h9
        refine ⟨q24, e_q24, ?_⟩
        have t_q24 := t_z23 q24 e_q24
        refine ⟨hasO_of hW t_q24, ?_⟩
        refine ty_X9_look t_q24 hW (fun S25 r25 hW h => ?_) h
        exact hk _ _ hW h
      · replace h := h.2 c
        exact ty_X11_cell_39 hk hW h
