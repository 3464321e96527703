theorem wd_1 : (Jvm.Cond.initialized "Sleepers") ∈ tb := tb_at 1 (by decide +kernel) (by decide +kernel)
theorem wd_1283 : (Jvm.Cond.classLink "SleepersLaw" (13 : Nat) "java/util/NoSuchElementException") ∈ tb := tb_at 1283 (by decide +kernel) (by decide +kernel)
theorem wd_1284 : (Jvm.Cond.methodLink "SleepersLaw" (7 : Nat) ({ cls := "Sleepers", name := "routine", desc := "(II)I" } : Jvm.MethodName)) ∈ tb := tb_at 1284 (by decide +kernel) (by decide +kernel)
theorem wd_1285 : (Jvm.Cond.instanceMethod ({ cls := "Sleepers", name := "routine", desc := "(II)I" } : Jvm.MethodName)) ∈ tb := tb_at 1285 (by decide +kernel) (by decide +kernel)
theorem wd_1286 : (Jvm.Cond.selects "Sleepers" ({ cls := "Sleepers", name := "routine", desc := "(II)I" } : Jvm.MethodName) ({ cls := "Sleepers", name := "routine", desc := "(II)I" } : Jvm.MethodName)) ∈ tb := tb_at 1286 (by decide +kernel) (by decide +kernel)
theorem wd_1287 : (Jvm.Cond.code ({ cls := "Sleepers", name := "routine", desc := "(II)I" } : Jvm.MethodName) prog_1_method_5_code (3 : Nat) (Option.some Jvm.ClassFile.FieldType.int)) ∈ tb := tb_at 1287 (by decide +kernel) (by decide +kernel)
theorem wd_1356 : (Jvm.Cond.methodLink "SleepersLaw" (15 : Nat) ({ cls := "Sleepers", name := "task", desc := "(II)I" } : Jvm.MethodName)) ∈ tb := tb_at 1356 (by decide +kernel) (by decide +kernel)
theorem wd_1357 : (Jvm.Cond.instanceMethod ({ cls := "Sleepers", name := "task", desc := "(II)I" } : Jvm.MethodName)) ∈ tb := tb_at 1357 (by decide +kernel) (by decide +kernel)
theorem wd_1358 : (Jvm.Cond.selects "Sleepers" ({ cls := "Sleepers", name := "task", desc := "(II)I" } : Jvm.MethodName) ({ cls := "Sleepers", name := "task", desc := "(II)I" } : Jvm.MethodName)) ∈ tb := tb_at 1358 (by decide +kernel) (by decide +kernel)
theorem wd_1359 : (Jvm.Cond.code ({ cls := "Sleepers", name := "task", desc := "(II)I" } : Jvm.MethodName) prog_1_method_14_code (3 : Nat) (Option.some Jvm.ClassFile.FieldType.int)) ∈ tb := tb_at 1359 (by decide +kernel) (by decide +kernel)
theorem wd_1369 : (Jvm.Cond.methodLink "SleepersLaw" (18 : Nat) ({ cls := "Sleepers", name := "cell", desc := "(II)I" } : Jvm.MethodName)) ∈ tb := tb_at 1369 (by decide +kernel) (by decide +kernel)
theorem wd_1370 : (Jvm.Cond.instanceMethod ({ cls := "Sleepers", name := "cell", desc := "(II)I" } : Jvm.MethodName)) ∈ tb := tb_at 1370 (by decide +kernel) (by decide +kernel)
theorem wd_1371 : (Jvm.Cond.selects "Sleepers" ({ cls := "Sleepers", name := "cell", desc := "(II)I" } : Jvm.MethodName) ({ cls := "Sleepers", name := "cell", desc := "(II)I" } : Jvm.MethodName)) ∈ tb := tb_at 1371 (by decide +kernel) (by decide +kernel)
theorem wd_1372 : (Jvm.Cond.code ({ cls := "Sleepers", name := "cell", desc := "(II)I" } : Jvm.MethodName) prog_1_method_15_code (3 : Nat) (Option.some Jvm.ClassFile.FieldType.int)) ∈ tb := tb_at 1372 (by decide +kernel) (by decide +kernel)
theorem dL_cell_0 : decode cL_cell 0 = .ok (.aload_n 3, 1) := by decide +kernel
theorem dL_cell_1 : decode cL_cell 1 = .ok (.iconst 0, 1) := by decide +kernel
theorem dL_cell_2 : decode cL_cell 2 = .ok (.aload_n 0, 1) := by decide +kernel
theorem dL_cell_3 : decode cL_cell 3 = .ok (.iload_n 1, 1) := by decide +kernel
theorem dL_cell_4 : decode cL_cell 4 = .ok (.iload_n 2, 1) := by decide +kernel
theorem dL_cell_5 : decode cL_cell 5 = .ok (.invokevirtual 18, 3) := by decide +kernel
theorem dL_cell_8 : decode cL_cell 8 = .ok (.i2l, 1) := by decide +kernel
theorem dL_cell_9 : decode cL_cell 9 = .ok (.lastore, 1) := by decide +kernel
theorem dL_cell_10 : decode cL_cell 10 = .ok (.goto 7, 3) := by decide +kernel
theorem dL_cell_13 : decode cL_cell 13 = .ok (.astore 4, 2) := by decide +kernel
theorem dL_cell_15 : decode cL_cell 15 = .ok (.iconst 1, 1) := by decide +kernel
theorem dL_cell_16 : decode cL_cell 16 = .ok (.ireturn, 1) := by decide +kernel
theorem dL_cell_17 : decode cL_cell 17 = .ok (.iconst 0, 1) := by decide +kernel
theorem dL_cell_18 : decode cL_cell 18 = .ok (.ireturn, 1) := by decide +kernel
theorem dL_routine_0 : decode cL_routine 0 = .ok (.aload_n 3, 1) := by decide +kernel
theorem dL_routine_1 : decode cL_routine 1 = .ok (.iconst 0, 1) := by decide +kernel
theorem dL_routine_2 : decode cL_routine 2 = .ok (.aload_n 0, 1) := by decide +kernel
theorem dL_routine_3 : decode cL_routine 3 = .ok (.iload_n 1, 1) := by decide +kernel
theorem dL_routine_4 : decode cL_routine 4 = .ok (.iload_n 2, 1) := by decide +kernel
theorem dL_routine_5 : decode cL_routine 5 = .ok (.invokevirtual 7, 3) := by decide +kernel
theorem dL_routine_8 : decode cL_routine 8 = .ok (.i2l, 1) := by decide +kernel
theorem dL_routine_9 : decode cL_routine 9 = .ok (.lastore, 1) := by decide +kernel
theorem dL_routine_10 : decode cL_routine 10 = .ok (.goto 7, 3) := by decide +kernel
theorem dL_routine_13 : decode cL_routine 13 = .ok (.astore 4, 2) := by decide +kernel
theorem dL_routine_15 : decode cL_routine 15 = .ok (.iconst 1, 1) := by decide +kernel
theorem dL_routine_16 : decode cL_routine 16 = .ok (.ireturn, 1) := by decide +kernel
theorem dL_routine_17 : decode cL_routine 17 = .ok (.iconst 0, 1) := by decide +kernel
theorem dL_routine_18 : decode cL_routine 18 = .ok (.ireturn, 1) := by decide +kernel
theorem dL_task_0 : decode cL_task 0 = .ok (.aload_n 3, 1) := by decide +kernel
theorem dL_task_1 : decode cL_task 1 = .ok (.iconst 0, 1) := by decide +kernel
theorem dL_task_2 : decode cL_task 2 = .ok (.aload_n 0, 1) := by decide +kernel
theorem dL_task_3 : decode cL_task 3 = .ok (.iload_n 1, 1) := by decide +kernel
theorem dL_task_4 : decode cL_task 4 = .ok (.iload_n 2, 1) := by decide +kernel
theorem dL_task_5 : decode cL_task 5 = .ok (.invokevirtual 15, 3) := by decide +kernel
theorem dL_task_8 : decode cL_task 8 = .ok (.i2l, 1) := by decide +kernel
theorem dL_task_9 : decode cL_task 9 = .ok (.lastore, 1) := by decide +kernel
theorem dL_task_10 : decode cL_task 10 = .ok (.goto 7, 3) := by decide +kernel
theorem dL_task_13 : decode cL_task 13 = .ok (.astore 4, 2) := by decide +kernel
theorem dL_task_15 : decode cL_task 15 = .ok (.iconst 1, 1) := by decide +kernel
theorem dL_task_16 : decode cL_task 16 = .ok (.ireturn, 1) := by decide +kernel
theorem dL_task_17 : decode cL_task 17 = .ok (.iconst 0, 1) := by decide +kernel
theorem dL_task_18 : decode cL_task 18 = .ok (.ireturn, 1) := by decide +kernel
def wp_L_routine (t0 : Nat) (i j : Int32) (o : Nat) (S : kS) (K : kS → Int32 → Prop) : Prop := hasO S t0 11 ∧ wp_X11_routine t0 i j S (fun S1 r => match r with
  | none => K S1 1
  | some v => hasA S1 o 1 1 ∧ ∀ S2 : kS, S2 = cL S1 o (ix 0) (Int32.toInt64 v) → K S2 0)
set_option maxHeartbeats 4000000 in
set_option maxRecDepth 100000 in
theorem hp_routine (l : Launch) (hl9 : l.stackTraces = false) (z : Nat × Nat × Nat) (S : kS) (t0 : Nat) (i j : Int32) (o : Nat) (K : kS → Int32 → Prop) (h : wp_L_routine t0 i j o S K) : ∀ (E : kE) (sz : Nat), Met l yL_routine (.codeWith yL_routine cL_routine 5 (some .int) [(0, 10, 13, 13)] :: tb) (kRm 7 104 1 6) (tPre z E [.ref t0, .int i, .int j, .ref o] S sz) (kQi E S sz K) 1 6 (va_A (cW E S) sz) := by
  intro E sz
  refine va_MetW (hh := [(0, 10, 13, 13)]) (cc := cL_routine) (maxL := 5) (ret := (some .int)) (by decide) rfl ?_
  intro p e s m args below meth c s₁ B hml hv
  obtain ⟨rfl, hsz, hP, hK, hD0, hZ, hV⟩ := hv
  have hx := B.exec
  have hb := B.bytes
  have hr := B.returns
  have hts : ∀ w ∈ tb, w.before _ s = true := fun w h => atoms_spec (ws := (.codeWith yL_routine cL_routine 5 (some .int) [(0, 10, 13, 13)] :: tb)) B.pre w (List.mem_cons_of_mem _ h)
  have hown : s.vm.findClass RL = some m.cls := findClass_of_methodNamed B.named
  have hlocks := B.notSynchronized
  have htab : c.exceptionTable.toList = [⟨0, 10, 13, 13⟩] := vx_table (x := yL_routine) B (atoms_spec (ws := (.codeWith yL_routine cL_routine 5 (some .int) [(0, 10, 13, 13)] :: tb)) B.pre _ List.mem_cons_self)
  subst hsz
  have hD := hD0.self (sz := s.heap.size)
  have hl := lv_entry ([.ref t0, .int i, .int j, .ref o]) (n := 5) (Nat.le_of_ble_eq_true rfl)
  rw [lg_entry_eq]
  generalize (lg_sl ([.ref t0, .int i, .int j, .ref o]) ++ List.replicate (5 - (lg_sl ([.ref t0, .int i, .int j, .ref o])).length) Slot.unset).toArray = ls at hl ⊢
  have hl : lv_has ls 5 [(0, .ref t0), (1, .int i), (2, .int j), (3, .ref o)] := hl
  have hX : kX RL p s m ([.ref t0, .int i, .int j, .ref o] : List Value).toArray c cL_routine 5 E (va_A (cW E S) s.heap.size) := ⟨⟨hx, hb, hml, hown, hts⟩, hK, fun q h => Or.inr h, hZ⟩
  have hC : cM E (va_A (cW E S) s.heap.size) s.heap S s.heap [] := ⟨hP, hD, va_S.rf⟩
  have hFc := kM_free hX hC
  refine lv_aload_n hx hb dL_routine_0 rfl (lv_at hl 3 rfl) ?_
  refine lv_iconst (v := 0) hx hb dL_routine_1 (by decide) ?_
  refine lv_aload_n hx hb dL_routine_2 rfl (lv_at hl 0 rfl) ?_
  refine lv_iload_n hx hb dL_routine_3 rfl (lv_at hl 1 rfl) ?_
  refine lv_iload_n hx hb dL_routine_4 rfl (lv_at hl 2 rfl) ?_
  refine vx_calli (vx_runV (As := [.int i, .int j]) (rest := [.int 0, .ref o]) hX.1 (kt_X11_routine l hl9 z S t0 i j _ h.2 E s.heap.size) (cwV 2 hts (gd_V wd_1284 wd_1285 wd_1286 wd_1 wd_1287) rfl rfl rfl (by decide +kernel) ⟨by decide, by decide⟩) ⟨tPre_blind, kRecv hX hC (ci := 11) rfl h.1, fun U hU hW => ⟨rfl, by rw [hU], by rw [hU]; exact hC.1, va_K.moved hW.alike hX.2.1, hC.2.1.weaken (fun _ _ _ _ => trivial), kZ_pay hX.2.2.2 hC.2.2.2.1 hFc hU hW, vZ_pay hV hC.2.2.2.1 hFc hU hW⟩⟩ rfl rfl hl.1 rfl (lv_room (Nat.le_of_ble_eq_true rfl)) dL_routine_5 ⟨Nat.le_refl _, Nat.le_refl _⟩) hC.2.2 (fun q _ h => hFc q h) hFc (fun q _ h => hFc q h) (fun E9 ce q9 u t H1 locs ht hvm hu hE hz1 hk1 hS hc9 hv9 hf9 => ?_) (fun r u t H1 locs ht hvm hw hB hz1 hk1 hS => ?_)
  · obtain ⟨hE, hP1, hK1, hD1⟩ := hE
    obtain rfl := hE
    rw [ht] at hP1
    refine th_catch (name := "java/util/NoSuchElementException") hown htab (by decide) (by decide) (hts _ wd_1283) (va_Nw.use rfl hV.2.2.2.1) hc9 hv9 hf9 ?_
    refine lv_astore (lv' := [(4, .ref q9), (0, .ref t0), (1, .int i), (2, .int j), (3, .ref o)]) hx hb dL_routine_13 hl (by decide) rfl (fun ls hl => ?_)
    refine lv_iconst (v := 1) hx hb dL_routine_15 (by decide) ?_
    exact W.iret (v := 1) hx hb hr (fun t ht hW => ⟨⟨1, (1, u), rfl, rfl, hu, by rw [ht]; exact hP1, va_K.moved hW.alike hK, hD1.weaken (fun k q _ h => hFc q.1 h)⟩, hS.F ht⟩) hS.2.2 dL_routine_16
  · obtain ⟨hp, hP1, hK1, hD1⟩ := hB
    subst hw
    rw [ht] at hP1
    have hC1 : cM E (va_A (cW E S) s.heap.size) s.heap u.2 H1 locs := ⟨hP1, hD1.weaken (fun k q _ h => hFc q.1 h), hS⟩
    have hp : hasA u.2 o 1 1 ∧ ∀ S2 : kS, S2 = cL u.2 o (ix 0) (Int32.toInt64 u.1) → K S2 0 := hp
    refine lv_i2l hx hb dL_routine_8 rfl ?_
    refine cq_lst hX hC1 dL_routine_9 hp.1 ⟨by decide, by decide⟩ hp.2 (fun S2 H locs hC2 h2 => ?_)
    refine lv_goto (tgt := 17) hx hb dL_routine_10 (by decide) ?_
    refine lv_iconst (v := 0) hx hb dL_routine_17 (by decide) ?_
    exact W.iret (v := 0) hx hb hr (fun t ht hW => ⟨⟨0, (0, S2), rfl, rfl, h2, by rw [ht]; exact hC2.1, va_K.moved hW.alike hK, hC2.2.1⟩, hC2.2.2.F ht⟩) hC2.2.2.2.2 dL_routine_18
def wp_L_task (t0 : Nat) (i j : Int32) (o : Nat) (S : kS) (K : kS → Int32 → Prop) : Prop := hasO S t0 11 ∧ wp_X11_task t0 i j S (fun S1 r => match r with
  | none => K S1 1
  | some v => hasA S1 o 1 1 ∧ ∀ S2 : kS, S2 = cL S1 o (ix 0) (Int32.toInt64 v) → K S2 0)
set_option maxHeartbeats 4000000 in
set_option maxRecDepth 100000 in
theorem hp_task (l : Launch) (hl9 : l.stackTraces = false) (z : Nat × Nat × Nat) (S : kS) (t0 : Nat) (i j : Int32) (o : Nat) (K : kS → Int32 → Prop) (h : wp_L_task t0 i j o S K) : ∀ (E : kE) (sz : Nat), Met l yL_task (.codeWith yL_task cL_task 5 (some .int) [(0, 10, 13, 13)] :: tb) (kRm 7 104 1 6) (tPre z E [.ref t0, .int i, .int j, .ref o] S sz) (kQi E S sz K) 1 6 (va_A (cW E S) sz) := by
  intro E sz
  refine va_MetW (hh := [(0, 10, 13, 13)]) (cc := cL_task) (maxL := 5) (ret := (some .int)) (by decide) rfl ?_
  intro p e s m args below meth c s₁ B hml hv
  obtain ⟨rfl, hsz, hP, hK, hD0, hZ, hV⟩ := hv
  have hx := B.exec
  have hb := B.bytes
  have hr := B.returns
  have hts : ∀ w ∈ tb, w.before _ s = true := fun w h => atoms_spec (ws := (.codeWith yL_task cL_task 5 (some .int) [(0, 10, 13, 13)] :: tb)) B.pre w (List.mem_cons_of_mem _ h)
  have hown : s.vm.findClass RL = some m.cls := findClass_of_methodNamed B.named
  have hlocks := B.notSynchronized
  have htab : c.exceptionTable.toList = [⟨0, 10, 13, 13⟩] := vx_table (x := yL_task) B (atoms_spec (ws := (.codeWith yL_task cL_task 5 (some .int) [(0, 10, 13, 13)] :: tb)) B.pre _ List.mem_cons_self)
  subst hsz
  have hD := hD0.self (sz := s.heap.size)
  have hl := lv_entry ([.ref t0, .int i, .int j, .ref o]) (n := 5) (Nat.le_of_ble_eq_true rfl)
  rw [lg_entry_eq]
  generalize (lg_sl ([.ref t0, .int i, .int j, .ref o]) ++ List.replicate (5 - (lg_sl ([.ref t0, .int i, .int j, .ref o])).length) Slot.unset).toArray = ls at hl ⊢
  have hl : lv_has ls 5 [(0, .ref t0), (1, .int i), (2, .int j), (3, .ref o)] := hl
  have hX : kX RL p s m ([.ref t0, .int i, .int j, .ref o] : List Value).toArray c cL_task 5 E (va_A (cW E S) s.heap.size) := ⟨⟨hx, hb, hml, hown, hts⟩, hK, fun q h => Or.inr h, hZ⟩
  have hC : cM E (va_A (cW E S) s.heap.size) s.heap S s.heap [] := ⟨hP, hD, va_S.rf⟩
  have hFc := kM_free hX hC
  refine lv_aload_n hx hb dL_task_0 rfl (lv_at hl 3 rfl) ?_
  refine lv_iconst (v := 0) hx hb dL_task_1 (by decide) ?_
  refine lv_aload_n hx hb dL_task_2 rfl (lv_at hl 0 rfl) ?_
  refine lv_iload_n hx hb dL_task_3 rfl (lv_at hl 1 rfl) ?_
  refine lv_iload_n hx hb dL_task_4 rfl (lv_at hl 2 rfl) ?_
  refine vx_calli (vx_runV (As := [.int i, .int j]) (rest := [.int 0, .ref o]) hX.1 (kt_X11_task l hl9 z S t0 i j _ h.2 E s.heap.size) (cwV 2 hts (gd_V wd_1356 wd_1357 wd_1358 wd_1 wd_1359) rfl rfl rfl (by decide +kernel) ⟨by decide, by decide⟩) ⟨tPre_blind, kRecv hX hC (ci := 11) rfl h.1, fun U hU hW => ⟨rfl, by rw [hU], by rw [hU]; exact hC.1, va_K.moved hW.alike hX.2.1, hC.2.1.weaken (fun _ _ _ _ => trivial), kZ_pay hX.2.2.2 hC.2.2.2.1 hFc hU hW, vZ_pay hV hC.2.2.2.1 hFc hU hW⟩⟩ rfl rfl hl.1 rfl (lv_room (Nat.le_of_ble_eq_true rfl)) dL_task_5 ⟨Nat.le_refl _, Nat.le_refl _⟩) hC.2.2 (fun q _ h => hFc q h) hFc (fun q _ h => hFc q h) (fun E9 ce q9 u t H1 locs ht hvm hu hE hz1 hk1 hS hc9 hv9 hf9 => ?_) (fun r u t H1 locs ht hvm hw hB hz1 hk1 hS => ?_)
  · obtain ⟨hE, hP1, hK1, hD1⟩ := hE
    obtain rfl := hE
    rw [ht] at hP1
    refine th_catch (name := "java/util/NoSuchElementException") hown htab (by decide) (by decide) (hts _ wd_1283) (va_Nw.use rfl hV.2.2.2.1) hc9 hv9 hf9 ?_
    refine lv_astore (lv' := [(4, .ref q9), (0, .ref t0), (1, .int i), (2, .int j), (3, .ref o)]) hx hb dL_task_13 hl (by decide) rfl (fun ls hl => ?_)
    refine lv_iconst (v := 1) hx hb dL_task_15 (by decide) ?_
    exact W.iret (v := 1) hx hb hr (fun t ht hW => ⟨⟨1, (1, u), rfl, rfl, hu, by rw [ht]; exact hP1, va_K.moved hW.alike hK, hD1.weaken (fun k q _ h => hFc q.1 h)⟩, hS.F ht⟩) hS.2.2 dL_task_16
  · obtain ⟨hp, hP1, hK1, hD1⟩ := hB
    subst hw
    rw [ht] at hP1
    have hC1 : cM E (va_A (cW E S) s.heap.size) s.heap u.2 H1 locs := ⟨hP1, hD1.weaken (fun k q _ h => hFc q.1 h), hS⟩
    have hp : hasA u.2 o 1 1 ∧ ∀ S2 : kS, S2 = cL u.2 o (ix 0) (Int32.toInt64 u.1) → K S2 0 := hp
    refine lv_i2l hx hb dL_task_8 rfl ?_
    refine cq_lst hX hC1 dL_task_9 hp.1 ⟨by decide, by decide⟩ hp.2 (fun S2 H locs hC2 h2 => ?_)
    refine lv_goto (tgt := 17) hx hb dL_task_10 (by decide) ?_
    refine lv_iconst (v := 0) hx hb dL_task_17 (by decide) ?_
    exact W.iret (v := 0) hx hb hr (fun t ht hW => ⟨⟨0, (0, S2), rfl, rfl, h2, by rw [ht]; exact hC2.1, va_K.moved hW.alike hK, hC2.2.1⟩, hC2.2.2.F ht⟩) hC2.2.2.2.2 dL_task_18
def wp_L_cell (t0 : Nat) (i j : Int32) (o : Nat) (S : kS) (K : kS → Int32 → Prop) : Prop := hasO S t0 11 ∧ wp_X11_cell t0 i j S (fun S1 r => match r with
  | none => K S1 1
  | some v => hasA S1 o 1 1 ∧ ∀ S2 : kS, S2 = cL S1 o (ix 0) (Int32.toInt64 v) → K S2 0)
set_option maxHeartbeats 4000000 in
set_option maxRecDepth 100000 in
theorem hp_cell (l : Launch) (hl9 : l.stackTraces = false) (z : Nat × Nat × Nat) (S : kS) (t0 : Nat) (i j : Int32) (o : Nat) (K : kS → Int32 → Prop) (h : wp_L_cell t0 i j o S K) : ∀ (E : kE) (sz : Nat), Met l yL_cell (.codeWith yL_cell cL_cell 5 (some .int) [(0, 10, 13, 13)] :: tb) (kRm 7 104 1 6) (tPre z E [.ref t0, .int i, .int j, .ref o] S sz) (kQi E S sz K) 1 6 (va_A (cW E S) sz) := by
  intro E sz
  refine va_MetW (hh := [(0, 10, 13, 13)]) (cc := cL_cell) (maxL := 5) (ret := (some .int)) (by decide) rfl ?_
  intro p e s m args below meth c s₁ B hml hv
  obtain ⟨rfl, hsz, hP, hK, hD0, hZ, hV⟩ := hv
  have hx := B.exec
  have hb := B.bytes
  have hr := B.returns
  have hts : ∀ w ∈ tb, w.before _ s = true := fun w h => atoms_spec (ws := (.codeWith yL_cell cL_cell 5 (some .int) [(0, 10, 13, 13)] :: tb)) B.pre w (List.mem_cons_of_mem _ h)
  have hown : s.vm.findClass RL = some m.cls := findClass_of_methodNamed B.named
  have hlocks := B.notSynchronized
  have htab : c.exceptionTable.toList = [⟨0, 10, 13, 13⟩] := vx_table (x := yL_cell) B (atoms_spec (ws := (.codeWith yL_cell cL_cell 5 (some .int) [(0, 10, 13, 13)] :: tb)) B.pre _ List.mem_cons_self)
  subst hsz
  have hD := hD0.self (sz := s.heap.size)
  have hl := lv_entry ([.ref t0, .int i, .int j, .ref o]) (n := 5) (Nat.le_of_ble_eq_true rfl)
  rw [lg_entry_eq]
  generalize (lg_sl ([.ref t0, .int i, .int j, .ref o]) ++ List.replicate (5 - (lg_sl ([.ref t0, .int i, .int j, .ref o])).length) Slot.unset).toArray = ls at hl ⊢
  have hl : lv_has ls 5 [(0, .ref t0), (1, .int i), (2, .int j), (3, .ref o)] := hl
  have hX : kX RL p s m ([.ref t0, .int i, .int j, .ref o] : List Value).toArray c cL_cell 5 E (va_A (cW E S) s.heap.size) := ⟨⟨hx, hb, hml, hown, hts⟩, hK, fun q h => Or.inr h, hZ⟩
  have hC : cM E (va_A (cW E S) s.heap.size) s.heap S s.heap [] := ⟨hP, hD, va_S.rf⟩
  have hFc := kM_free hX hC
  refine lv_aload_n hx hb dL_cell_0 rfl (lv_at hl 3 rfl) ?_
  refine lv_iconst (v := 0) hx hb dL_cell_1 (by decide) ?_
  refine lv_aload_n hx hb dL_cell_2 rfl (lv_at hl 0 rfl) ?_
  refine lv_iload_n hx hb dL_cell_3 rfl (lv_at hl 1 rfl) ?_
  refine lv_iload_n hx hb dL_cell_4 rfl (lv_at hl 2 rfl) ?_
  refine vx_calli (vx_runV (As := [.int i, .int j]) (rest := [.int 0, .ref o]) hX.1 (kt_X11_cell l hl9 z S t0 i j _ h.2 E s.heap.size) (cwV 2 hts (gd_V wd_1369 wd_1370 wd_1371 wd_1 wd_1372) rfl rfl rfl (by decide +kernel) ⟨by decide, by decide⟩) ⟨tPre_blind, kRecv hX hC (ci := 11) rfl h.1, fun U hU hW => ⟨rfl, by rw [hU], by rw [hU]; exact hC.1, va_K.moved hW.alike hX.2.1, hC.2.1.weaken (fun _ _ _ _ => trivial), kZ_pay hX.2.2.2 hC.2.2.2.1 hFc hU hW, vZ_pay hV hC.2.2.2.1 hFc hU hW⟩⟩ rfl rfl hl.1 rfl (lv_room (Nat.le_of_ble_eq_true rfl)) dL_cell_5 ⟨Nat.le_refl _, Nat.le_refl _⟩) hC.2.2 (fun q _ h => hFc q h) hFc (fun q _ h => hFc q h) (fun E9 ce q9 u t H1 locs ht hvm hu hE hz1 hk1 hS hc9 hv9 hf9 => ?_) (fun r u t H1 locs ht hvm hw hB hz1 hk1 hS => ?_)
  · obtain ⟨hE, hP1, hK1, hD1⟩ := hE
    obtain rfl := hE
    rw [ht] at hP1
    refine th_catch (name := "java/util/NoSuchElementException") hown htab (by decide) (by decide) (hts _ wd_1283) (va_Nw.use rfl hV.2.2.2.1) hc9 hv9 hf9 ?_
    refine lv_astore (lv' := [(4, .ref q9), (0, .ref t0), (1, .int i), (2, .int j), (3, .ref o)]) hx hb dL_cell_13 hl (by decide) rfl (fun ls hl => ?_)
    refine lv_iconst (v := 1) hx hb dL_cell_15 (by decide) ?_
    exact W.iret (v := 1) hx hb hr (fun t ht hW => ⟨⟨1, (1, u), rfl, rfl, hu, by rw [ht]; exact hP1, va_K.moved hW.alike hK, hD1.weaken (fun k q _ h => hFc q.1 h)⟩, hS.F ht⟩) hS.2.2 dL_cell_16
  · obtain ⟨hp, hP1, hK1, hD1⟩ := hB
    subst hw
    rw [ht] at hP1
    have hC1 : cM E (va_A (cW E S) s.heap.size) s.heap u.2 H1 locs := ⟨hP1, hD1.weaken (fun k q _ h => hFc q.1 h), hS⟩
    have hp : hasA u.2 o 1 1 ∧ ∀ S2 : kS, S2 = cL u.2 o (ix 0) (Int32.toInt64 u.1) → K S2 0 := hp
    refine lv_i2l hx hb dL_cell_8 rfl ?_
    refine cq_lst hX hC1 dL_cell_9 hp.1 ⟨by decide, by decide⟩ hp.2 (fun S2 H locs hC2 h2 => ?_)
    refine lv_goto (tgt := 17) hx hb dL_cell_10 (by decide) ?_
    refine lv_iconst (v := 0) hx hb dL_cell_17 (by decide) ?_
    exact W.iret (v := 0) hx hb hr (fun t ht hW => ⟨⟨0, (0, S2), rfl, rfl, h2, by rw [ht]; exact hC2.1, va_K.moved hW.alike hK, hC2.2.1⟩, hC2.2.2.F ht⟩) hC2.2.2.2.2 dL_cell_18
