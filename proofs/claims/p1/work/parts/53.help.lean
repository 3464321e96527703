theorem wd_1 : (Jvm.Cond.initialized "Sleepers") ∈ tb := tb_at 1 (by decide +kernel) (by decide +kernel)
theorem wd_1283 : (Jvm.Cond.classLink "SleepersLaw" (13 : Nat) "java/util/NoSuchElementException") ∈ tb := tb_at 1283 (by decide +kernel) (by decide +kernel)
theorem wd_1284 : (Jvm.Cond.methodLink "SleepersLaw" (7 : Nat) ({ cls := "Sleepers", name := "routine", desc := "(II)I" } : Jvm.MethodName)) ∈ tb := tb_at 1284 (by decide +kernel) (by decide +kernel)
theorem wd_1285 : (Jvm.Cond.instanceMethod ({ cls := "Sleepers", name := "routine", desc := "(II)I" } : Jvm.MethodName)) ∈ tb := tb_at 1285 (by decide +kernel) (by decide +kernel)
theorem wd_1286 : (Jvm.Cond.selects "Sleepers" ({ cls := "Sleepers", name := "routine", desc := "(II)I" } : Jvm.MethodName) ({ cls := "Sleepers", name := "routine", desc := "(II)I" } : Jvm.MethodName)) ∈ tb := tb_at 1286 (by decide +kernel) (by decide +kernel)
theorem wd_1287 : (Jvm.Cond.code ({ cls := "Sleepers", name := "routine", desc := "(II)I" } : Jvm.MethodName) prog_1_method_5_code (3 : Nat) (Option.some Jvm.ClassFile.FieldType.int)) ∈ tb := tb_at 1287 (by decide +kernel) (by decide +kernel)
theorem wd_1356 : (Jvm.Cond.methodLink "SleepersLaw" (15 : Nat) ({ cls := "Sleepers", name := "task", desc := "(II)I" } : Jvm.MethodName)) ∈ tb := tb_at 1356 (by decide +kernel) (by decide +kernel)
theorem wd_1357 : (Jvm.Cond.instanceMethod ({ cls := "Sleepers", name := "task", desc := "(II)I" } : Jvm.MethodName)) ∈ tb := tb_at 1357 (by decide +kernel) (by decide +kernel)
theorem wd_1358 : (Jvm.Cond.selects "Sleepers" ({ cls := "Sleepers", name := "task", desc := "(II)I" } : Jvm.MethodName) ({ cls := "Sleepers", name := "task", desc := "(II)I" } : Jvm.MethodName)) ∈ tb := tb_at 1358 (by decide +kernel) (by decide +kernel)
theorem wd_1359 : (Jvm.Cond.code ({ cls := "Sleepers", name := "task", desc := "(II)I" } : Jvm.MethodName) prog_1_method_14_code (3 : Nat) (Option.some Jvm.ClassFile.FieldType.int)) ∈ tb := tb_at 1359 (by decide +kernel) (by decide +kernel)
theorem wd_1369 : (Jvm.Cond.methodLink "SleepersLaw" (18 : Nat) ({ cls := "Sleepers", name := "cell", desc := "(II)I" } : Jvm.MethodName)) ∈ tb := tb_at 1369 (by decide +kernel) (by decide +kernel)
theorem wd_1370 : (Jvm.Cond.instanceMethod ({ cls := "Sleepers", name := "cell", desc := "(II)I" } : Jvm.MethodName)) ∈ tb := tb_at 1370 (by decide +kernel) (by decide +kernel)
theorem wd_1371 : (Jvm.Cond.selects "Sleepers" ({ cls := "Sleepers", name := "cell", desc := "(II)I" } : Jvm.MethodName) ({ cls := "Sleepers", name := "cell", desc := "(II)I" } : Jvm.MethodName)) ∈ tb := tb_at 1371 (by decide +kernel) (by decide +kernel)
theorem wd_1372 : (Jvm.Cond.code ({ cls := "Sleepers", name := "cell", desc := "(II)I" } : Jvm.MethodName) prog_1_method_15_code (3 : Nat) (Option.some Jvm.ClassFile.FieldType.int)) ∈ tb := tb_at 1372 (by decide +kernel) (by decide +kernel)
theorem dL_cell_0 : decode cL_cell 0 = .ok (.aload_n 3, 1) := by decide +kernel
theorem dL_cell_1 : decode cL_cell 1 = .ok (.iconst 0, 1) := by decide +kernel
theorem dL_cell_2 : decode cL_cell 2 = .ok (.aload_n 0, 1) := by decide +kernel
theorem dL_cell_3 : decode cL_cell 3 = .ok (.iload_n 1, 1) := by decide +kernel
theorem dL_cell_4 : decode cL_cell 4 = .ok (.iload_n 2, 1) := by decide +kernel
theorem dL_cell_5 : decode cL_cell 5 = .ok (.invokevirtual 18, 3) := by decide +kernel
theorem dL_cell_8 : decode cL_cell 8 = .ok (.i2l, 1) := by decide +kernel
theorem dL_cell_9 : decode cL_cell 9 = .ok (.lastore, 1) := by decide +kernel
theorem dL_cell_10 : decode cL_cell 10 = .ok (.goto 7, 3) := by decide +kernel
theorem dL_cell_13 : decode cL_cell 13 = .ok (.astore 4, 2) := by decide +kernel
theorem dL_cell_15 : decode cL_cell 15 = .ok (.iconst 1, 1) := by decide +kernel
theorem dL_cell_16 : decode cL_cell 16 = .ok (.ireturn, 1) := by decide +kernel
theorem dL_cell_17 : decode cL_cell 17 = .ok (.iconst 0, 1) := by decide +kernel
theorem dL_cell_18 : decode cL_cell 18 = .ok (.ireturn, 1) := by decide +kernel
theorem dL_routine_0 : decode cL_routine 0 = .ok (.aload_n 3, 1) := by decide +kernel
theorem dL_routine_1 : decode cL_routine 1 = .ok (.iconst 0, 1) := by decide +kernel
theorem dL_routine_2 : decode cL_routine 2 = .ok (.aload_n 0, 1) := by decide +kernel
theorem dL_routine_3 : decode cL_routine 3 = .ok (.iload_n 1, 1) := by decide +kernel
theorem dL_routine_4 : decode cL_routine 4 = .ok (.iload_n 2, 1) := by decide +kernel
theorem dL_routine_5 : decode cL_routine 5 = .ok (.invokevirtual 7, 3) := by decide +kernel
theorem dL_routine_8 : decode cL_routine 8 = .ok (.i2l, 1) := by decide +kernel
theorem dL_routine_9 : decode cL_routine 9 = .ok (.lastore, 1) := by decide +kernel
theorem dL_routine_10 : decode cL_routine 10 = .ok (.goto 7, 3) := by decide +kernel
theorem dL_routine_13 : decode cL_routine 13 = .ok (.astore 4, 2) := by decide +kernel
theorem dL_routine_15 : decode cL_routine 15 = .ok (.iconst 1, 1) := by decide +kernel
theorem dL_routine_16 : decode cL_routine 16 = .ok (.ireturn, 1) := by decide +kernel
theorem dL_routine_17 : decode cL_routine 17 = .ok (.iconst 0, 1) := by decide +kernel
theorem dL_routine_18 : decode cL_routine 18 = .ok (.ireturn, 1) := by decide +kernel
theorem dL_task_0 : decode cL_task 0 = .ok (.aload_n 3, 1) := by decide +kernel
theorem dL_task_1 : decode cL_task 1 = .ok (.iconst 0, 1) := by decide +kernel
theorem dL_task_2 : decode cL_task 2 = .ok (.aload_n 0, 1) := by decide +kernel
theorem dL_task_3 : decode cL_task 3 = .ok (.iload_n 1, 1) := by decide +kernel
theorem dL_task_4 : decode cL_task 4 = .ok (.iload_n 2, 1) := by decide +kernel
theorem dL_task_5 : decode cL_task 5 = .ok (.invokevirtual 15, 3) := by decide +kernel
theorem dL_task_8 : decode cL_task 8 = .ok (.i2l, 1) := by decide +kernel
theorem dL_task_9 : decode cL_task 9 = .ok (.lastore, 1) := by decide +kernel
theorem dL_task_10 : decode cL_task 10 = .ok (.goto 7, 3) := by decide +kernel
theorem dL_task_13 : decode cL_task 13 = .ok (.astore 4, 2) := by decide +kernel
theorem dL_task_15 : decode cL_task 15 = .ok (.iconst 1, 1) := by decide +kernel
theorem dL_task_16 : decode cL_task 16 = .ok (.ireturn, 1) := by decide +kernel
theorem dL_task_17 : decode cL_task 17 = .ok (.iconst 0, 1) := by decide +kernel
theorem dL_task_18 : decode cL_task 18 = .ok (.ireturn, 1) := by decide +kernel
set_option maxHeartbeats 4000000 in
set_option maxRecDepth 100000 in
theorem ct_L_routine (l : Launch) (hl9 : l.stackTraces = false) (dC : Nat → ClassId) (dI : Nat → Nat → Nat) (h0 : Nat) (tk : Nat) (pa : Nat) (ta : Nat) (ha : Nat) (ru : Nat) (to : Nat) (sp : Nat) (qt : Nat → Nat) (ts : Nat) (sa : Nat) (i : Int32) (j : Int32) (oq : Nat) (sz : Nat) : Met l yL_routine (.codeWith yL_routine cL_routine 5 (some .int) [(0, 10, 13, 13)] :: tb) ({ frames := 7, cells := 1, slots := 6, locals := 104 }) (va_Pc [.ref h0, .int i, .int j, .ref oq] (fun U => U.heap.size = sz ∧ va_P (dC, dI) vwCl [(h0, .inr (11, [.ref tk, .ref pa, .ref ta, .ref ha, .ref ru, .ref to, .ref sp])), (to, .inr (5, [.int 0, .ref (qt 0), .ref (qt 1), .ref (qt 2), .ref ts, .int 0, .ref (qt 3), .ref (qt 4), .ref (qt 5), .ref (qt 6), .ref (qt 7), .ref (qt 8), .ref (qt 9), .ref (qt 10)]))] U.heap ∧ va_K (dC, dI) vwCl [] U ∧ va_D (fun _ => True) [(h0, .inr (11, [.ref tk, .ref pa, .ref ta, .ref ha, .ref ru, .ref to, .ref sp])), (to, .inr (5, [.int 0, .ref (qt 0), .ref (qt 1), .ref (qt 2), .ref ts, .int 0, .ref (qt 3), .ref (qt 4), .ref (qt 5), .ref (qt 6), .ref (qt 7), .ref (qt 8), .ref (qt 9), .ref (qt 10)]))] ∧ vk_R RX11 103 "no such routine" sa U ∧ va_Nw (.declares ⟨"java/lang/RuntimeException", "<init>", "(Ljava/lang/String;)V"⟩) U ∧ va_Nw (.declares ⟨"java/lang/Exception", "<init>", "(Ljava/lang/String;)V"⟩) U ∧ va_Nw (.declares ⟨"java/lang/Throwable", "<init>", "(Ljava/lang/String;)V"⟩) U ∧ va_Nw (.castable "java/util/NoSuchElementException" "java/util/NoSuchElementException") U ∧ vx_Zq Bundle.tN "UNASSIGNED_STACK" Bundle.steD (va_A [(h0, .inr (11, [.ref tk, .ref pa, .ref ta, .ref ha, .ref ru, .ref to, .ref sp])), (to, .inr (5, [.int 0, .ref (qt 0), .ref (qt 1), .ref (qt 2), .ref ts, .int 0, .ref (qt 3), .ref (qt 4), .ref (qt 5), .ref (qt 6), .ref (qt 7), .ref (qt 8), .ref (qt 9), .ref (qt 10)]))] sz) U U.heap ∧ vx_Zq Bundle.tN "SUPPRESSED_SENTINEL" Bundle.listD (va_A [(h0, .inr (11, [.ref tk, .ref pa, .ref ta, .ref ha, .ref ru, .ref to, .ref sp])), (to, .inr (5, [.int 0, .ref (qt 0), .ref (qt 1), .ref (qt 2), .ref ts, .int 0, .ref (qt 3), .ref (qt 4), .ref (qt 5), .ref (qt 6), .ref (qt 7), .ref (qt 8), .ref (qt 9), .ref (qt 10)]))] sz) U U.heap)) (va_Qi (fun (r : Int32) (_ : Unit) => r = 1) (fun (_ : Unit) t => va_P (dC, dI) vwCl [] t.heap ∧ va_K (dC, dI) vwCl [] t ∧ va_D (va_A [(h0, .inr (11, [.ref tk, .ref pa, .ref ta, .ref ha, .ref ru, .ref to, .ref sp])), (to, .inr (5, [.int 0, .ref (qt 0), .ref (qt 1), .ref (qt 2), .ref ts, .int 0, .ref (qt 3), .ref (qt 4), .ref (qt 5), .ref (qt 6), .ref (qt 7), .ref (qt 8), .ref (qt 9), .ref (qt 10)]))] sz) []) (va_A [(h0, .inr (11, [.ref tk, .ref pa, .ref ta, .ref ha, .ref ru, .ref to, .ref sp])), (to, .inr (5, [.int 0, .ref (qt 0), .ref (qt 1), .ref (qt 2), .ref ts, .int 0, .ref (qt 3), .ref (qt 4), .ref (qt 5), .ref (qt 6), .ref (qt 7), .ref (qt 8), .ref (qt 9), .ref (qt 10)]))] sz)) 1 6 (va_A [(h0, .inr (11, [.ref tk, .ref pa, .ref ta, .ref ha, .ref ru, .ref to, .ref sp])), (to, .inr (5, [.int 0, .ref (qt 0), .ref (qt 1), .ref (qt 2), .ref ts, .int 0, .ref (qt 3), .ref (qt 4), .ref (qt 5), .ref (qt 6), .ref (qt 7), .ref (qt 8), .ref (qt 9), .ref (qt 10)]))] sz) := by
  refine va_MetW (hh := [(0, 10, 13, 13)]) (cc := cL_routine) (maxL := 5) (ret := (some .int)) (by decide) rfl ?_
  intro p e s m args below meth c s₁ B hml hv
  obtain ⟨rfl, hsz, hP, hK, hD0, hZ0, hZ1, hZ2, hZ3, hZ4, hZ5, hZ6⟩ := hv
  have hx := B.exec
  have hb := B.bytes
  have hr := B.returns
  have hts : ∀ w ∈ tb, w.before _ s = true := fun w h => atoms_spec (ws := (.codeWith yL_routine cL_routine 5 (some .int) [(0, 10, 13, 13)] :: tb)) B.pre w (List.mem_cons_of_mem _ h)
  have hown : s.vm.findClass RL = some m.cls := findClass_of_methodNamed B.named
  have hlocks := B.notSynchronized
  subst hsz
  have hD := hD0.self (sz := s.heap.size)
  generalize hAe : va_A [(h0, .inr (11, [.ref tk, .ref pa, .ref ta, .ref ha, .ref ru, .ref to, .ref sp])), (to, .inr (5, [.int 0, .ref (qt 0), .ref (qt 1), .ref (qt 2), .ref ts, .int 0, .ref (qt 3), .ref (qt 4), .ref (qt 5), .ref (qt 6), .ref (qt 7), .ref (qt 8), .ref (qt 9), .ref (qt 10)]))] s.heap.size = A at hD hZ5 hZ6 ⊢
  have hA : ∀ q : Nat, s.heap.size ≤ q → A q := fun q h => by rw [← hAe]; exact Or.inr h
  have hS : va_S A s.heap s.heap [] := va_S.rf
  have hP : va_P (dC, dI) vwCl [(h0, .inr (11, [.ref tk, .ref pa, .ref ta, .ref ha, .ref ru, .ref to, .ref sp])), (to, .inr (5, [.int 0, .ref (qt 0), .ref (qt 1), .ref (qt 2), .ref ts, .int 0, .ref (qt 3), .ref (qt 4), .ref (qt 5), .ref (qt 6), .ref (qt 7), .ref (qt 8), .ref (qt 9), .ref (qt 10)]))] s.heap := hP
  have hl := lv_entry ([.ref h0, .int i, .int j, .ref oq]) (n := 5) (Nat.le_of_ble_eq_true rfl)
  rw [lg_entry_eq]
  generalize (lg_sl ([.ref h0, .int i, .int j, .ref oq]) ++ List.replicate (5 - (lg_sl ([.ref h0, .int i, .int j, .ref oq])).length) Slot.unset).toArray = ls at hl ⊢
  have hl : lv_has ls 5 [(0, .ref h0), (1, .int i), (2, .int j), (3, .ref oq)] := hl
  have htab : c.exceptionTable.toList = [⟨0, 10, 13, 13⟩] := vx_table (x := yL_routine) B (atoms_spec (ws := (.codeWith yL_routine cL_routine 5 (some .int) [(0, 10, 13, 13)] :: tb)) B.pre _ List.mem_cons_self)
  refine lv_aload_n hx hb dL_routine_0 rfl (lv_at hl 3 rfl) ?_
  refine lv_iconst (v := 0) hx hb dL_routine_1 (by decide) ?_
  refine lv_aload_n hx hb dL_routine_2 rfl (lv_at hl 0 rfl) ?_
  refine lv_iload_n hx hb dL_routine_3 rfl (lv_at hl 1 rfl) ?_
  refine lv_iload_n hx hb dL_routine_4 rfl (lv_at hl 2 rfl) ?_
  have hPc := hP.sub (ws' := [(h0, .inr (11, [.ref tk, .ref pa, .ref ta, .ref ha, .ref ru, .ref to, .ref sp])), (to, .inr (5, [.int 0, .ref (qt 0), .ref (qt 1), .ref (qt 2), .ref ts, .int 0, .ref (qt 3), .ref (qt 4), .ref (qt 5), .ref (qt 6), .ref (qt 7), .ref (qt 8), .ref (qt 9), .ref (qt 10)]))]) [0, 1] rfl
  have hDc := hD.sub (ws' := [(h0, .inr (11, [.ref tk, .ref pa, .ref ta, .ref ha, .ref ru, .ref to, .ref sp])), (to, .inr (5, [.int 0, .ref (qt 0), .ref (qt 1), .ref (qt 2), .ref ts, .int 0, .ref (qt 3), .ref (qt 4), .ref (qt 5), .ref (qt 6), .ref (qt 7), .ref (qt 8), .ref (qt 9), .ref (qt 10)]))]) [0, 1] (by decide) rfl
  have hKc := hK.sub (tys' := []) [] rfl
  have hFc := va_free (wc := [(h0, .inr (11, [.ref tk, .ref pa, .ref ta, .ref ha, .ref ru, .ref to, .ref sp])), (to, .inr (5, [.int 0, .ref (qt 0), .ref (qt 1), .ref (qt 2), .ref ts, .int 0, .ref (qt 3), .ref (qt 4), .ref (qt 5), .ref (qt 6), .ref (qt 7), .ref (qt 8), .ref (qt 9), .ref (qt 10)]))]) hD hS hA [0, 1] rfl
  refine vx_calli (vx_runV (As := [.int i, .int j]) (rest := [.int 0, .ref oq]) ⟨hx, hb, hml, hown, hts⟩ (ct_X11_routine l hl9 dC dI h0 tk pa ta ha ru to sp qt ts sa i j s.heap.size) (cwV 2 hts (gd_V wd_1284 wd_1285 wd_1286 wd_1 wd_1287) rfl rfl rfl (by decide +kernel) ⟨Nat.le_of_ble_eq_true rfl, Nat.le_of_ble_eq_true rfl⟩) ⟨fun a U g mk q => by obtain ⟨q0, q1, qP, qK, qD, qZ0, qZ1, qZ2, qZ3, qZ4, qZ5, qZ6⟩ := q; exact ⟨q0, q1, qP, va_K.moved (u := U) (U := U.calling g mk a) (Vm.Alike.refl U.vm) qK, qD, vk_R.same (u := U) rfl qZ0, va_Nw.same (u := U) rfl rfl qZ1, va_Nw.same (u := U) rfl rfl qZ2, va_Nw.same (u := U) rfl rfl qZ3, va_Nw.same (u := U) rfl rfl qZ4, vx_Zq.moved (u := U) (U := U.calling g mk a) (Vm.Alike.refl U.vm) qZ5, vx_Zq.moved (u := U) (U := U.calling g mk a) (Vm.Alike.refl U.vm) qZ6⟩, va_recv hKc hPc (ci := 11) (q0 := 0) rfl rfl, fun U hU hW => ⟨rfl, by rw [hU], by rw [hU]; exact hPc, va_K.moved hW.alike hKc, hDc.weaken (fun _ _ _ _ => trivial), vk_R.warm hW hZ0, va_Nw.warmD hW hZ1, va_Nw.warmD hW hZ2, va_Nw.warmD hW hZ3, va_Nw.warmC hW hZ4, (by rw [hU]; exact vx_Zq.moved hW.alike (vx_Zq.narrow (vx_Zq.kept hZ5 hS.2.1) hFc)), (by rw [hU]; exact vx_Zq.moved hW.alike (vx_Zq.narrow (vx_Zq.kept hZ6 hS.2.1) hFc))⟩⟩ rfl rfl hl.1 rfl (lv_room (Nat.le_of_ble_eq_true rfl)) dL_routine_5 ⟨Nat.le_of_ble_eq_true rfl, Nat.le_of_ble_eq_true rfl⟩) hS (fun q _ h => hFc q h) hFc (fun q _ h => hFc q h) (fun E ce q9 u t H1 locs ht hvm hu hE hz1 hk1 hS hc9 hv9 hf9 => ?_) (fun r u t H1 locs ht hvm hw hB hz1 hk1 hS => hw.elim)
  obtain rfl := hE
  refine th_catch (name := "java/util/NoSuchElementException") hown htab (by decide) (by decide) (hts _ wd_1283) (va_Nw.use rfl hZ4) hc9 hv9 hf9 ?_
  refine W.widen (k := 1) (n := 6) (Nat.le_of_ble_eq_true rfl) (Nat.le_of_ble_eq_true rfl) ?_
  generalize H1 = H at hS ⊢
  have hP : va_P (dC, dI) vwCl [] H := fun k q h => by simp at h
  have hD : va_D A [] := ⟨fun i j p q h => by simp at h, fun k q h => by simp at h⟩
  refine lv_astore (lv' := [(4, .ref q9), (0, .ref h0), (1, .int i), (2, .int j), (3, .ref oq)]) hx hb dL_routine_13 hl (by decide) rfl (fun ls hl => ?_)
  refine lv_iconst (v := 1) hx hb dL_routine_15 (by decide) ?_
  have hP9 := hP.sub (ws' := []) [] rfl
  have hD9 := hD.sub (ws' := []) [] (by decide) rfl
  have hK9 := hK.sub (tys' := []) [] rfl
  refine W.widen (k := 1) (n := 6) (Nat.le_of_ble_eq_true rfl) (Nat.le_of_ble_eq_true rfl) ?_
  exact W.iret (v := 1) hx hb hr (fun t ht hW => ⟨⟨1, (), rfl, rfl, by rw [ht]; exact hP9, va_K.moved hW.alike hK9, hD9⟩, hS.F ht⟩) hS.2.2 dL_routine_16
set_option maxHeartbeats 4000000 in
set_option maxRecDepth 100000 in
theorem ct_L_task (l : Launch) (hl9 : l.stackTraces = false) (dC : Nat → ClassId) (dI : Nat → Nat → Nat) (h0 : Nat) (tk : Nat) (pa : Nat) (ta : Nat) (ha : Nat) (ru : Nat) (to : Nat) (sp : Nat) (pv : Value) (xt : Nat) (xr : Nat) (le : Nat) (lc : Nat) (ln : Nat) (al : Nat) (lo : Nat) (xg : Nat) (sa : Nat) (i : Int32) (j : Int32) (oq : Nat) (sz : Nat) : Met l yL_task (.codeWith yL_task cL_task 5 (some .int) [(0, 10, 13, 13)] :: tb) ({ frames := 7, cells := 1, slots := 6, locals := 104 }) (va_Pc [.ref h0, .int i, .int j, .ref oq] (fun U => U.heap.size = sz ∧ va_P (dC, dI) vwCl [(h0, .inr (11, [.ref tk, .ref pa, .ref ta, .ref ha, .ref ru, .ref to, .ref sp])), (ha, .inr (1, [pv, .ref xt, .int 0, .int 0, .ref xr, .int 0, .int 0, .ref le, .ref lc, .ref ln, .ref al, .ref lo, .ref xg, .int 0, .null]))] U.heap ∧ va_K (dC, dI) vwCl [] U ∧ va_D (fun _ => True) [(h0, .inr (11, [.ref tk, .ref pa, .ref ta, .ref ha, .ref ru, .ref to, .ref sp])), (ha, .inr (1, [pv, .ref xt, .int 0, .int 0, .ref xr, .int 0, .int 0, .ref le, .ref lc, .ref ln, .ref al, .ref lo, .ref xg, .int 0, .null]))] ∧ vk_R RX11 161 "no such task" sa U ∧ va_Nw (.declares ⟨"java/lang/RuntimeException", "<init>", "(Ljava/lang/String;)V"⟩) U ∧ va_Nw (.declares ⟨"java/lang/Exception", "<init>", "(Ljava/lang/String;)V"⟩) U ∧ va_Nw (.declares ⟨"java/lang/Throwable", "<init>", "(Ljava/lang/String;)V"⟩) U ∧ va_Nw (.castable "java/util/NoSuchElementException" "java/util/NoSuchElementException") U ∧ vx_Zq Bundle.tN "UNASSIGNED_STACK" Bundle.steD (va_A [(h0, .inr (11, [.ref tk, .ref pa, .ref ta, .ref ha, .ref ru, .ref to, .ref sp])), (ha, .inr (1, [pv, .ref xt, .int 0, .int 0, .ref xr, .int 0, .int 0, .ref le, .ref lc, .ref ln, .ref al, .ref lo, .ref xg, .int 0, .null]))] sz) U U.heap ∧ vx_Zq Bundle.tN "SUPPRESSED_SENTINEL" Bundle.listD (va_A [(h0, .inr (11, [.ref tk, .ref pa, .ref ta, .ref ha, .ref ru, .ref to, .ref sp])), (ha, .inr (1, [pv, .ref xt, .int 0, .int 0, .ref xr, .int 0, .int 0, .ref le, .ref lc, .ref ln, .ref al, .ref lo, .ref xg, .int 0, .null]))] sz) U U.heap)) (va_Qi (fun (r : Int32) (_ : Unit) => r = 1) (fun (_ : Unit) t => va_P (dC, dI) vwCl [] t.heap ∧ va_K (dC, dI) vwCl [] t ∧ va_D (va_A [(h0, .inr (11, [.ref tk, .ref pa, .ref ta, .ref ha, .ref ru, .ref to, .ref sp])), (ha, .inr (1, [pv, .ref xt, .int 0, .int 0, .ref xr, .int 0, .int 0, .ref le, .ref lc, .ref ln, .ref al, .ref lo, .ref xg, .int 0, .null]))] sz) []) (va_A [(h0, .inr (11, [.ref tk, .ref pa, .ref ta, .ref ha, .ref ru, .ref to, .ref sp])), (ha, .inr (1, [pv, .ref xt, .int 0, .int 0, .ref xr, .int 0, .int 0, .ref le, .ref lc, .ref ln, .ref al, .ref lo, .ref xg, .int 0, .null]))] sz)) 1 6 (va_A [(h0, .inr (11, [.ref tk, .ref pa, .ref ta, .ref ha, .ref ru, .ref to, .ref sp])), (ha, .inr (1, [pv, .ref xt, .int 0, .int 0, .ref xr, .int 0, .int 0, .ref le, .ref lc, .ref ln, .ref al, .ref lo, .ref xg, .int 0, .null]))] sz) := by
  refine va_MetW (hh := [(0, 10, 13, 13)]) (cc := cL_task) (maxL := 5) (ret := (some .int)) (by decide) rfl ?_
  intro p e s m args below meth c s₁ B hml hv
  obtain ⟨rfl, hsz, hP, hK, hD0, hZ0, hZ1, hZ2, hZ3, hZ4, hZ5, hZ6⟩ := hv
  have hx := B.exec
  have hb := B.bytes
  have hr := B.returns
  have hts : ∀ w ∈ tb, w.before _ s = true := fun w h => atoms_spec (ws := (.codeWith yL_task cL_task 5 (some .int) [(0, 10, 13, 13)] :: tb)) B.pre w (List.mem_cons_of_mem _ h)
  have hown : s.vm.findClass RL = some m.cls := findClass_of_methodNamed B.named
  have hlocks := B.notSynchronized
  subst hsz
  have hD := hD0.self (sz := s.heap.size)
  generalize hAe : va_A [(h0, .inr (11, [.ref tk, .ref pa, .ref ta, .ref ha, .ref ru, .ref to, .ref sp])), (ha, .inr (1, [pv, .ref xt, .int 0, .int 0, .ref xr, .int 0, .int 0, .ref le, .ref lc, .ref ln, .ref al, .ref lo, .ref xg, .int 0, .null]))] s.heap.size = A at hD hZ5 hZ6 ⊢
  have hA : ∀ q : Nat, s.heap.size ≤ q → A q := fun q h => by rw [← hAe]; exact Or.inr h
  have hS : va_S A s.heap s.heap [] := va_S.rf
  have hP : va_P (dC, dI) vwCl [(h0, .inr (11, [.ref tk, .ref pa, .ref ta, .ref ha, .ref ru, .ref to, .ref sp])), (ha, .inr (1, [pv, .ref xt, .int 0, .int 0, .ref xr, .int 0, .int 0, .ref le, .ref lc, .ref ln, .ref al, .ref lo, .ref xg, .int 0, .null]))] s.heap := hP
  have hl := lv_entry ([.ref h0, .int i, .int j, .ref oq]) (n := 5) (Nat.le_of_ble_eq_true rfl)
  rw [lg_entry_eq]
  generalize (lg_sl ([.ref h0, .int i, .int j, .ref oq]) ++ List.replicate (5 - (lg_sl ([.ref h0, .int i, .int j, .ref oq])).length) Slot.unset).toArray = ls at hl ⊢
  have hl : lv_has ls 5 [(0, .ref h0), (1, .int i), (2, .int j), (3, .ref oq)] := hl
  have htab : c.exceptionTable.toList = [⟨0, 10, 13, 13⟩] := vx_table (x := yL_task) B (atoms_spec (ws := (.codeWith yL_task cL_task 5 (some .int) [(0, 10, 13, 13)] :: tb)) B.pre _ List.mem_cons_self)
  refine lv_aload_n hx hb dL_task_0 rfl (lv_at hl 3 rfl) ?_
  refine lv_iconst (v := 0) hx hb dL_task_1 (by decide) ?_
  refine lv_aload_n hx hb dL_task_2 rfl (lv_at hl 0 rfl) ?_
  refine lv_iload_n hx hb dL_task_3 rfl (lv_at hl 1 rfl) ?_
  refine lv_iload_n hx hb dL_task_4 rfl (lv_at hl 2 rfl) ?_
  have hPc := hP.sub (ws' := [(h0, .inr (11, [.ref tk, .ref pa, .ref ta, .ref ha, .ref ru, .ref to, .ref sp])), (ha, .inr (1, [(pv : Value), .ref xt, .int 0, .int 0, .ref xr, .int 0, .int 0, .ref le, .ref lc, .ref ln, .ref al, .ref lo, .ref xg, .int 0, .null]))]) [0, 1] rfl
  have hDc := hD.sub (ws' := [(h0, .inr (11, [.ref tk, .ref pa, .ref ta, .ref ha, .ref ru, .ref to, .ref sp])), (ha, .inr (1, [(pv : Value), .ref xt, .int 0, .int 0, .ref xr, .int 0, .int 0, .ref le, .ref lc, .ref ln, .ref al, .ref lo, .ref xg, .int 0, .null]))]) [0, 1] (by decide) rfl
  have hKc := hK.sub (tys' := []) [] rfl
  have hFc := va_free (wc := [(h0, .inr (11, [.ref tk, .ref pa, .ref ta, .ref ha, .ref ru, .ref to, .ref sp])), (ha, .inr (1, [(pv : Value), .ref xt, .int 0, .int 0, .ref xr, .int 0, .int 0, .ref le, .ref lc, .ref ln, .ref al, .ref lo, .ref xg, .int 0, .null]))]) hD hS hA [0, 1] rfl
  refine vx_calli (vx_runV (As := [.int i, .int j]) (rest := [.int 0, .ref oq]) ⟨hx, hb, hml, hown, hts⟩ (ct_X11_task l hl9 dC dI h0 tk pa ta ha ru to sp (pv : Value) xt xr le lc ln al lo xg sa i j s.heap.size) (cwV 2 hts (gd_V wd_1356 wd_1357 wd_1358 wd_1 wd_1359) rfl rfl rfl (by decide +kernel) ⟨Nat.le_of_ble_eq_true rfl, Nat.le_of_ble_eq_true rfl⟩) ⟨fun a U g mk q => by obtain ⟨q0, q1, qP, qK, qD, qZ0, qZ1, qZ2, qZ3, qZ4, qZ5, qZ6⟩ := q; exact ⟨q0, q1, qP, va_K.moved (u := U) (U := U.calling g mk a) (Vm.Alike.refl U.vm) qK, qD, vk_R.same (u := U) rfl qZ0, va_Nw.same (u := U) rfl rfl qZ1, va_Nw.same (u := U) rfl rfl qZ2, va_Nw.same (u := U) rfl rfl qZ3, va_Nw.same (u := U) rfl rfl qZ4, vx_Zq.moved (u := U) (U := U.calling g mk a) (Vm.Alike.refl U.vm) qZ5, vx_Zq.moved (u := U) (U := U.calling g mk a) (Vm.Alike.refl U.vm) qZ6⟩, va_recv hKc hPc (ci := 11) (q0 := 0) rfl rfl, fun U hU hW => ⟨rfl, by rw [hU], by rw [hU]; exact hPc, va_K.moved hW.alike hKc, hDc.weaken (fun _ _ _ _ => trivial), vk_R.warm hW hZ0, va_Nw.warmD hW hZ1, va_Nw.warmD hW hZ2, va_Nw.warmD hW hZ3, va_Nw.warmC hW hZ4, (by rw [hU]; exact vx_Zq.moved hW.alike (vx_Zq.narrow (vx_Zq.kept hZ5 hS.2.1) hFc)), (by rw [hU]; exact vx_Zq.moved hW.alike (vx_Zq.narrow (vx_Zq.kept hZ6 hS.2.1) hFc))⟩⟩ rfl rfl hl.1 rfl (lv_room (Nat.le_of_ble_eq_true rfl)) dL_task_5 ⟨Nat.le_of_ble_eq_true rfl, Nat.le_of_ble_eq_true rfl⟩) hS (fun q _ h => hFc q h) hFc (fun q _ h => hFc q h) (fun E ce q9 u t H1 locs ht hvm hu hE hz1 hk1 hS hc9 hv9 hf9 => ?_) (fun r u t H1 locs ht hvm hw hB hz1 hk1 hS => hw.elim)
  obtain rfl := hE
  refine th_catch (name := "java/util/NoSuchElementException") hown htab (by decide) (by decide) (hts _ wd_1283) (va_Nw.use rfl hZ4) hc9 hv9 hf9 ?_
  refine W.widen (k := 1) (n := 6) (Nat.le_of_ble_eq_true rfl) (Nat.le_of_ble_eq_true rfl) ?_
  generalize H1 = H at hS ⊢
  have hP : va_P (dC, dI) vwCl [] H := fun k q h => by simp at h
  have hD : va_D A [] := ⟨fun i j p q h => by simp at h, fun k q h => by simp at h⟩
  refine lv_astore (lv' := [(4, .ref q9), (0, .ref h0), (1, .int i), (2, .int j), (3, .ref oq)]) hx hb dL_task_13 hl (by decide) rfl (fun ls hl => ?_)
  refine lv_iconst (v := 1) hx hb dL_task_15 (by decide) ?_
  have hP9 := hP.sub (ws' := []) [] rfl
  have hD9 := hD.sub (ws' := []) [] (by decide) rfl
  have hK9 := hK.sub (tys' := []) [] rfl
  refine W.widen (k := 1) (n := 6) (Nat.le_of_ble_eq_true rfl) (Nat.le_of_ble_eq_true rfl) ?_
  exact W.iret (v := 1) hx hb hr (fun t ht hW => ⟨⟨1, (), rfl, rfl, by rw [ht]; exact hP9, va_K.moved hW.alike hK9, hD9⟩, hS.F ht⟩) hS.2.2 dL_task_16
set_option maxHeartbeats 4000000 in
set_option maxRecDepth 100000 in
theorem ct_L_cell (l : Launch) (hl9 : l.stackTraces = false) (dC : Nat → ClassId) (dI : Nat → Nat → Nat) (h0 : Nat) (tk : Nat) (pa : Nat) (ta : Nat) (ha : Nat) (ru : Nat) (to : Nat) (sp : Nat) (pv : Value) (xt : Nat) (xr : Nat) (le : Nat) (lc : Nat) (ln : Nat) (al : Nat) (lo : Nat) (xg : Nat) (sa : Nat) (i : Int32) (j : Int32) (oq : Nat) (sz : Nat) : Met l yL_cell (.codeWith yL_cell cL_cell 5 (some .int) [(0, 10, 13, 13)] :: tb) ({ frames := 7, cells := 1, slots := 6, locals := 104 }) (va_Pc [.ref h0, .int i, .int j, .ref oq] (fun U => U.heap.size = sz ∧ va_P (dC, dI) vwCl [(h0, .inr (11, [.ref tk, .ref pa, .ref ta, .ref ha, .ref ru, .ref to, .ref sp])), (ha, .inr (1, [pv, .ref xt, .int 0, .int 0, .ref xr, .int 0, .int 0, .ref le, .ref lc, .ref ln, .ref al, .ref lo, .ref xg, .int 0, .null]))] U.heap ∧ va_K (dC, dI) vwCl [] U ∧ va_D (fun _ => True) [(h0, .inr (11, [.ref tk, .ref pa, .ref ta, .ref ha, .ref ru, .ref to, .ref sp])), (ha, .inr (1, [pv, .ref xt, .int 0, .int 0, .ref xr, .int 0, .int 0, .ref le, .ref lc, .ref ln, .ref al, .ref lo, .ref xg, .int 0, .null]))] ∧ vk_R RX11 173 "no such cell" sa U ∧ va_Nw (.declares ⟨"java/lang/RuntimeException", "<init>", "(Ljava/lang/String;)V"⟩) U ∧ va_Nw (.declares ⟨"java/lang/Exception", "<init>", "(Ljava/lang/String;)V"⟩) U ∧ va_Nw (.declares ⟨"java/lang/Throwable", "<init>", "(Ljava/lang/String;)V"⟩) U ∧ va_Nw (.castable "java/util/NoSuchElementException" "java/util/NoSuchElementException") U ∧ vx_Zq Bundle.tN "UNASSIGNED_STACK" Bundle.steD (va_A [(h0, .inr (11, [.ref tk, .ref pa, .ref ta, .ref ha, .ref ru, .ref to, .ref sp])), (ha, .inr (1, [pv, .ref xt, .int 0, .int 0, .ref xr, .int 0, .int 0, .ref le, .ref lc, .ref ln, .ref al, .ref lo, .ref xg, .int 0, .null]))] sz) U U.heap ∧ vx_Zq Bundle.tN "SUPPRESSED_SENTINEL" Bundle.listD (va_A [(h0, .inr (11, [.ref tk, .ref pa, .ref ta, .ref ha, .ref ru, .ref to, .ref sp])), (ha, .inr (1, [pv, .ref xt, .int 0, .int 0, .ref xr, .int 0, .int 0, .ref le, .ref lc, .ref ln, .ref al, .ref lo, .ref xg, .int 0, .null]))] sz) U U.heap)) (va_Qi (fun (r : Int32) (_ : Unit) => r = 1) (fun (_ : Unit) t => va_P (dC, dI) vwCl [] t.heap ∧ va_K (dC, dI) vwCl [] t ∧ va_D (va_A [(h0, .inr (11, [.ref tk, .ref pa, .ref ta, .ref ha, .ref ru, .ref to, .ref sp])), (ha, .inr (1, [pv, .ref xt, .int 0, .int 0, .ref xr, .int 0, .int 0, .ref le, .ref lc, .ref ln, .ref al, .ref lo, .ref xg, .int 0, .null]))] sz) []) (va_A [(h0, .inr (11, [.ref tk, .ref pa, .ref ta, .ref ha, .ref ru, .ref to, .ref sp])), (ha, .inr (1, [pv, .ref xt, .int 0, .int 0, .ref xr, .int 0, .int 0, .ref le, .ref lc, .ref ln, .ref al, .ref lo, .ref xg, .int 0, .null]))] sz)) 1 6 (va_A [(h0, .inr (11, [.ref tk, .ref pa, .ref ta, .ref ha, .ref ru, .ref to, .ref sp])), (ha, .inr (1, [pv, .ref xt, .int 0, .int 0, .ref xr, .int 0, .int 0, .ref le, .ref lc, .ref ln, .ref al, .ref lo, .ref xg, .int 0, .null]))] sz) := by
  refine va_MetW (hh := [(0, 10, 13, 13)]) (cc := cL_cell) (maxL := 5) (ret := (some .int)) (by decide) rfl ?_
  intro p e s m args below meth c s₁ B hml hv
  obtain ⟨rfl, hsz, hP, hK, hD0, hZ0, hZ1, hZ2, hZ3, hZ4, hZ5, hZ6⟩ := hv
  have hx := B.exec
  have hb := B.bytes
  have hr := B.returns
  have hts : ∀ w ∈ tb, w.before _ s = true := fun w h => atoms_spec (ws := (.codeWith yL_cell cL_cell 5 (some .int) [(0, 10, 13, 13)] :: tb)) B.pre w (List.mem_cons_of_mem _ h)
  have hown : s.vm.findClass RL = some m.cls := findClass_of_methodNamed B.named
  have hlocks := B.notSynchronized
  subst hsz
  have hD := hD0.self (sz := s.heap.size)
  generalize hAe : va_A [(h0, .inr (11, [.ref tk, .ref pa, .ref ta, .ref ha, .ref ru, .ref to, .ref sp])), (ha, .inr (1, [pv, .ref xt, .int 0, .int 0, .ref xr, .int 0, .int 0, .ref le, .ref lc, .ref ln, .ref al, .ref lo, .ref xg, .int 0, .null]))] s.heap.size = A at hD hZ5 hZ6 ⊢
  have hA : ∀ q : Nat, s.heap.size ≤ q → A q := fun q h => by rw [← hAe]; exact Or.inr h
  have hS : va_S A s.heap s.heap [] := va_S.rf
  have hP : va_P (dC, dI) vwCl [(h0, .inr (11, [.ref tk, .ref pa, .ref ta, .ref ha, .ref ru, .ref to, .ref sp])), (ha, .inr (1, [pv, .ref xt, .int 0, .int 0, .ref xr, .int 0, .int 0, .ref le, .ref lc, .ref ln, .ref al, .ref lo, .ref xg, .int 0, .null]))] s.heap := hP
  have hl := lv_entry ([.ref h0, .int i, .int j, .ref oq]) (n := 5) (Nat.le_of_ble_eq_true rfl)
  rw [lg_entry_eq]
  generalize (lg_sl ([.ref h0, .int i, .int j, .ref oq]) ++ List.replicate (5 - (lg_sl ([.ref h0, .int i, .int j, .ref oq])).length) Slot.unset).toArray = ls at hl ⊢
  have hl : lv_has ls 5 [(0, .ref h0), (1, .int i), (2, .int j), (3, .ref oq)] := hl
  have htab : c.exceptionTable.toList = [⟨0, 10, 13, 13⟩] := vx_table (x := yL_cell) B (atoms_spec (ws := (.codeWith yL_cell cL_cell 5 (some .int) [(0, 10, 13, 13)] :: tb)) B.pre _ List.mem_cons_self)
  refine lv_aload_n hx hb dL_cell_0 rfl (lv_at hl 3 rfl) ?_
  refine lv_iconst (v := 0) hx hb dL_cell_1 (by decide) ?_
  refine lv_aload_n hx hb dL_cell_2 rfl (lv_at hl 0 rfl) ?_
  refine lv_iload_n hx hb dL_cell_3 rfl (lv_at hl 1 rfl) ?_
  refine lv_iload_n hx hb dL_cell_4 rfl (lv_at hl 2 rfl) ?_
  have hPc := hP.sub (ws' := [(h0, .inr (11, [.ref tk, .ref pa, .ref ta, .ref ha, .ref ru, .ref to, .ref sp])), (ha, .inr (1, [(pv : Value), .ref xt, .int 0, .int 0, .ref xr, .int 0, .int 0, .ref le, .ref lc, .ref ln, .ref al, .ref lo, .ref xg, .int 0, .null]))]) [0, 1] rfl
  have hDc := hD.sub (ws' := [(h0, .inr (11, [.ref tk, .ref pa, .ref ta, .ref ha, .ref ru, .ref to, .ref sp])), (ha, .inr (1, [(pv : Value), .ref xt, .int 0, .int 0, .ref xr, .int 0, .int 0, .ref le, .ref lc, .ref ln, .ref al, .ref lo, .ref xg, .int 0, .null]))]) [0, 1] (by decide) rfl
  have hKc := hK.sub (tys' := []) [] rfl
  have hFc := va_free (wc := [(h0, .inr (11, [.ref tk, .ref pa, .ref ta, .ref ha, .ref ru, .ref to, .ref sp])), (ha, .inr (1, [(pv : Value), .ref xt, .int 0, .int 0, .ref xr, .int 0, .int 0, .ref le, .ref lc, .ref ln, .ref al, .ref lo, .ref xg, .int 0, .null]))]) hD hS hA [0, 1] rfl
  refine vx_calli (vx_runV (As := [.int i, .int j]) (rest := [.int 0, .ref oq]) ⟨hx, hb, hml, hown, hts⟩ (ct_X11_cell l hl9 dC dI h0 tk pa ta ha ru to sp (pv : Value) xt xr le lc ln al lo xg sa i j s.heap.size) (cwV 2 hts (gd_V wd_1369 wd_1370 wd_1371 wd_1 wd_1372) rfl rfl rfl (by decide +kernel) ⟨Nat.le_of_ble_eq_true rfl, Nat.le_of_ble_eq_true rfl⟩) ⟨fun a U g mk q => by obtain ⟨q0, q1, qP, qK, qD, qZ0, qZ1, qZ2, qZ3, qZ4, qZ5, qZ6⟩ := q; exact ⟨q0, q1, qP, va_K.moved (u := U) (U := U.calling g mk a) (Vm.Alike.refl U.vm) qK, qD, vk_R.same (u := U) rfl qZ0, va_Nw.same (u := U) rfl rfl qZ1, va_Nw.same (u := U) rfl rfl qZ2, va_Nw.same (u := U) rfl rfl qZ3, va_Nw.same (u := U) rfl rfl qZ4, vx_Zq.moved (u := U) (U := U.calling g mk a) (Vm.Alike.refl U.vm) qZ5, vx_Zq.moved (u := U) (U := U.calling g mk a) (Vm.Alike.refl U.vm) qZ6⟩, va_recv hKc hPc (ci := 11) (q0 := 0) rfl rfl, fun U hU hW => ⟨rfl, by rw [hU], by rw [hU]; exact hPc, va_K.moved hW.alike hKc, hDc.weaken (fun _ _ _ _ => trivial), vk_R.warm hW hZ0, va_Nw.warmD hW hZ1, va_Nw.warmD hW hZ2, va_Nw.warmD hW hZ3, va_Nw.warmC hW hZ4, (by rw [hU]; exact vx_Zq.moved hW.alike (vx_Zq.narrow (vx_Zq.kept hZ5 hS.2.1) hFc)), (by rw [hU]; exact vx_Zq.moved hW.alike (vx_Zq.narrow (vx_Zq.kept hZ6 hS.2.1) hFc))⟩⟩ rfl rfl hl.1 rfl (lv_room (Nat.le_of_ble_eq_true rfl)) dL_cell_5 ⟨Nat.le_of_ble_eq_true rfl, Nat.le_of_ble_eq_true rfl⟩) hS (fun q _ h => hFc q h) hFc (fun q _ h => hFc q h) (fun E ce q9 u t H1 locs ht hvm hu hE hz1 hk1 hS hc9 hv9 hf9 => ?_) (fun r u t H1 locs ht hvm hw hB hz1 hk1 hS => hw.elim)
  obtain rfl := hE
  refine th_catch (name := "java/util/NoSuchElementException") hown htab (by decide) (by decide) (hts _ wd_1283) (va_Nw.use rfl hZ4) hc9 hv9 hf9 ?_
  refine W.widen (k := 1) (n := 6) (Nat.le_of_ble_eq_true rfl) (Nat.le_of_ble_eq_true rfl) ?_
  generalize H1 = H at hS ⊢
  have hP : va_P (dC, dI) vwCl [] H := fun k q h => by simp at h
  have hD : va_D A [] := ⟨fun i j p q h => by simp at h, fun k q h => by simp at h⟩
  refine lv_astore (lv' := [(4, .ref q9), (0, .ref h0), (1, .int i), (2, .int j), (3, .ref oq)]) hx hb dL_cell_13 hl (by decide) rfl (fun ls hl => ?_)
  refine lv_iconst (v := 1) hx hb dL_cell_15 (by decide) ?_
  have hP9 := hP.sub (ws' := []) [] rfl
  have hD9 := hD.sub (ws' := []) [] (by decide) rfl
  have hK9 := hK.sub (tys' := []) [] rfl
  refine W.widen (k := 1) (n := 6) (Nat.le_of_ble_eq_true rfl) (Nat.le_of_ble_eq_true rfl) ?_
  exact W.iret (v := 1) hx hb hr (fun t ht hW => ⟨⟨1, (), rfl, rfl, by rw [ht]; exact hP9, va_K.moved hW.alike hK9, hD9⟩, hS.F ht⟩) hS.2.2 dL_cell_16
