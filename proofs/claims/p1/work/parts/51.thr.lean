theorem wd_21 : (Jvm.Cond.initialized "java/util/NoSuchElementException") ∈ tb := tb_at 21 (by decide +kernel) (by decide +kernel)
theorem wd_1288 : (Jvm.Cond.classLink "Sleepers" (101 : Nat) "java/util/NoSuchElementException") ∈ tb := tb_at 1288 (by decide +kernel) (by decide +kernel)
theorem wd_1360 : (Jvm.Cond.methodLink "Sleepers" (160 : Nat) ({ cls := "Sleepers$Hall", name := "has", desc := "(I)Z" } : Jvm.MethodName)) ∈ tb := tb_at 1360 (by decide +kernel) (by decide +kernel)
theorem dX11_cell_0 : decode cX11_cell 0 = .ok (.aload_n 0, 1) := by decide +kernel
theorem dX11_cell_1 : decode cX11_cell 1 = .ok (.getfield 35, 3) := by decide +kernel
theorem dX11_cell_4 : decode cX11_cell 4 = .ok (.iload_n 1, 1) := by decide +kernel
theorem dX11_cell_5 : decode cX11_cell 5 = .ok (.invokevirtual 160, 3) := by decide +kernel
theorem dX11_cell_8 : decode cX11_cell 8 = .ok (.ifCond .eq 31, 3) := by decide +kernel
theorem dX11_cell_11 : decode cX11_cell 11 = .ok (.iload_n 2, 1) := by decide +kernel
theorem dX11_cell_12 : decode cX11_cell 12 = .ok (.ifCond .lt 27, 3) := by decide +kernel
theorem dX11_cell_15 : decode cX11_cell 15 = .ok (.iload_n 2, 1) := by decide +kernel
theorem dX11_cell_16 : decode cX11_cell 16 = .ok (.aload_n 0, 1) := by decide +kernel
theorem dX11_cell_17 : decode cX11_cell 17 = .ok (.getfield 51, 3) := by decide +kernel
theorem dX11_cell_20 : decode cX11_cell 20 = .ok (.getfield 112, 3) := by decide +kernel
theorem dX11_cell_23 : decode cX11_cell 23 = .ok (.aload_n 0, 1) := by decide +kernel
theorem dX11_cell_24 : decode cX11_cell 24 = .ok (.getfield 35, 3) := by decide +kernel
theorem dX11_cell_27 : decode cX11_cell 27 = .ok (.getfield 163, 3) := by decide +kernel
theorem dX11_cell_30 : decode cX11_cell 30 = .ok (.iload_n 1, 1) := by decide +kernel
theorem dX11_cell_31 : decode cX11_cell 31 = .ok (.aaload, 1) := by decide +kernel
theorem dX11_cell_32 : decode cX11_cell 32 = .ok (.getfield 170, 3) := by decide +kernel
theorem dX11_cell_35 : decode cX11_cell 35 = .ok (.iaload, 1) := by decide +kernel
theorem dX11_cell_36 : decode cX11_cell 36 = .ok (.if_icmp .lt 13, 3) := by decide +kernel
theorem dX11_cell_39 : decode cX11_cell 39 = .ok (.new 101, 3) := by decide +kernel
theorem dX11_cell_42 : decode cX11_cell 42 = .ok (.dup, 1) := by decide +kernel
theorem dX11_cell_43 : decode cX11_cell 43 = .ok (.ldc 173, 2) := by decide +kernel
theorem dX11_cell_45 : decode cX11_cell 45 = .ok (.invokespecial 105, 3) := by decide +kernel
theorem dX11_cell_48 : decode cX11_cell 48 = .ok (.athrow, 1) := by decide +kernel
theorem dX11_cell_49 : decode cX11_cell 49 = .ok (.aload_n 0, 1) := by decide +kernel
theorem dX11_cell_50 : decode cX11_cell 50 = .ok (.getfield 35, 3) := by decide +kernel
theorem dX11_cell_53 : decode cX11_cell 53 = .ok (.getfield 163, 3) := by decide +kernel
theorem dX11_cell_56 : decode cX11_cell 56 = .ok (.iload_n 1, 1) := by decide +kernel
theorem dX11_cell_57 : decode cX11_cell 57 = .ok (.aaload, 1) := by decide +kernel
theorem dX11_cell_58 : decode cX11_cell 58 = .ok (.iload_n 2, 1) := by decide +kernel
theorem dX11_cell_59 : decode cX11_cell 59 = .ok (.invokevirtual 175, 3) := by decide +kernel
theorem dX11_cell_62 : decode cX11_cell 62 = .ok (.ireturn, 1) := by decide +kernel
theorem dX11_routine_0 : decode cX11_routine 0 = .ok (.aload_n 0, 1) := by decide +kernel
theorem dX11_routine_1 : decode cX11_routine 1 = .ok (.getfield 51, 3) := by decide +kernel
theorem dX11_routine_4 : decode cX11_routine 4 = .ok (.iload_n 1, 1) := by decide +kernel
theorem dX11_routine_5 : decode cX11_routine 5 = .ok (.invokevirtual 97, 3) := by decide +kernel
theorem dX11_routine_8 : decode cX11_routine 8 = .ok (.ifCond .eq 12, 3) := by decide +kernel
theorem dX11_routine_11 : decode cX11_routine 11 = .ok (.iload_n 2, 1) := by decide +kernel
theorem dX11_routine_12 : decode cX11_routine 12 = .ok (.ifCond .lt 8, 3) := by decide +kernel
theorem dX11_routine_15 : decode cX11_routine 15 = .ok (.iload_n 2, 1) := by decide +kernel
theorem dX11_routine_16 : decode cX11_routine 16 = .ok (.iconst 2, 1) := by decide +kernel
theorem dX11_routine_17 : decode cX11_routine 17 = .ok (.if_icmp .le 13, 3) := by decide +kernel
theorem dX11_routine_20 : decode cX11_routine 20 = .ok (.new 101, 3) := by decide +kernel
theorem dX11_routine_23 : decode cX11_routine 23 = .ok (.dup, 1) := by decide +kernel
theorem dX11_routine_24 : decode cX11_routine 24 = .ok (.ldc 103, 2) := by decide +kernel
theorem dX11_routine_26 : decode cX11_routine 26 = .ok (.invokespecial 105, 3) := by decide +kernel
theorem dX11_routine_29 : decode cX11_routine 29 = .ok (.athrow, 1) := by decide +kernel
theorem dX11_routine_30 : decode cX11_routine 30 = .ok (.iload_n 2, 1) := by decide +kernel
theorem dX11_routine_31 : decode cX11_routine 31 = .ok (.ifCond .ne 13, 3) := by decide +kernel
theorem dX11_routine_34 : decode cX11_routine 34 = .ok (.aload_n 0, 1) := by decide +kernel
theorem dX11_routine_35 : decode cX11_routine 35 = .ok (.getfield 51, 3) := by decide +kernel
theorem dX11_routine_38 : decode cX11_routine 38 = .ok (.getfield 108, 3) := by decide +kernel
theorem dX11_routine_41 : decode cX11_routine 41 = .ok (.iload_n 1, 1) := by decide +kernel
theorem dX11_routine_42 : decode cX11_routine 42 = .ok (.iaload, 1) := by decide +kernel
theorem dX11_routine_43 : decode cX11_routine 43 = .ok (.ireturn, 1) := by decide +kernel
theorem dX11_routine_44 : decode cX11_routine 44 = .ok (.iload_n 2, 1) := by decide +kernel
theorem dX11_routine_45 : decode cX11_routine 45 = .ok (.iconst 1, 1) := by decide +kernel
theorem dX11_routine_46 : decode cX11_routine 46 = .ok (.if_icmp .ne 15, 3) := by decide +kernel
theorem dX11_routine_49 : decode cX11_routine 49 = .ok (.aload_n 0, 1) := by decide +kernel
theorem dX11_routine_50 : decode cX11_routine 50 = .ok (.getfield 51, 3) := by decide +kernel
theorem dX11_routine_53 : decode cX11_routine 53 = .ok (.getfield 112, 3) := by decide +kernel
theorem dX11_routine_56 : decode cX11_routine 56 = .ok (.iload_n 1, 1) := by decide +kernel
theorem dX11_routine_57 : decode cX11_routine 57 = .ok (.iaload, 1) := by decide +kernel
theorem dX11_routine_58 : decode cX11_routine 58 = .ok (.goto 14, 3) := by decide +kernel
theorem dX11_routine_61 : decode cX11_routine 61 = .ok (.iconst 1, 1) := by decide +kernel
theorem dX11_routine_62 : decode cX11_routine 62 = .ok (.aload_n 0, 1) := by decide +kernel
theorem dX11_routine_63 : decode cX11_routine 63 = .ok (.getfield 51, 3) := by decide +kernel
theorem dX11_routine_66 : decode cX11_routine 66 = .ok (.getfield 115, 3) := by decide +kernel
theorem dX11_routine_69 : decode cX11_routine 69 = .ok (.iload_n 1, 1) := by decide +kernel
theorem dX11_routine_70 : decode cX11_routine 70 = .ok (.iaload, 1) := by decide +kernel
theorem dX11_routine_71 : decode cX11_routine 71 = .ok (.iadd, 1) := by decide +kernel
theorem dX11_routine_72 : decode cX11_routine 72 = .ok (.ireturn, 1) := by decide +kernel
theorem dX11_task_0 : decode cX11_task 0 = .ok (.aload_n 0, 1) := by decide +kernel
theorem dX11_task_1 : decode cX11_task 1 = .ok (.getfield 35, 3) := by decide +kernel
theorem dX11_task_4 : decode cX11_task 4 = .ok (.iload_n 1, 1) := by decide +kernel
theorem dX11_task_5 : decode cX11_task 5 = .ok (.invokevirtual 160, 3) := by decide +kernel
theorem dX11_task_8 : decode cX11_task 8 = .ok (.ifCond .eq 13, 3) := by decide +kernel
theorem dX11_task_11 : decode cX11_task 11 = .ok (.iload_n 2, 1) := by decide +kernel
theorem dX11_task_12 : decode cX11_task 12 = .ok (.ifCond .lt 9, 3) := by decide +kernel
theorem dX11_task_15 : decode cX11_task 15 = .ok (.iload_n 2, 1) := by decide +kernel
theorem dX11_task_16 : decode cX11_task 16 = .ok (.bipush 7, 2) := by decide +kernel
theorem dX11_task_18 : decode cX11_task 18 = .ok (.if_icmp .le 13, 3) := by decide +kernel
theorem dX11_task_21 : decode cX11_task 21 = .ok (.new 101, 3) := by decide +kernel
theorem dX11_task_24 : decode cX11_task 24 = .ok (.dup, 1) := by decide +kernel
theorem dX11_task_25 : decode cX11_task 25 = .ok (.ldc 161, 2) := by decide +kernel
theorem dX11_task_27 : decode cX11_task 27 = .ok (.invokespecial 105, 3) := by decide +kernel
theorem dX11_task_30 : decode cX11_task 30 = .ok (.athrow, 1) := by decide +kernel
theorem dX11_task_31 : decode cX11_task 31 = .ok (.aload_n 0, 1) := by decide +kernel
theorem dX11_task_32 : decode cX11_task 32 = .ok (.getfield 35, 3) := by decide +kernel
theorem dX11_task_35 : decode cX11_task 35 = .ok (.getfield 163, 3) := by decide +kernel
theorem dX11_task_38 : decode cX11_task 38 = .ok (.iload_n 1, 1) := by decide +kernel
theorem dX11_task_39 : decode cX11_task 39 = .ok (.aaload, 1) := by decide +kernel
theorem dX11_task_40 : decode cX11_task 40 = .ok (.iload_n 2, 1) := by decide +kernel
theorem dX11_task_41 : decode cX11_task 41 = .ok (.invokevirtual 167, 3) := by decide +kernel
theorem dX11_task_44 : decode cX11_task 44 = .ok (.ireturn, 1) := by decide +kernel
set_option maxHeartbeats 4000000 in
set_option maxRecDepth 100000 in
theorem ct_X11_routine (l : Launch) (hl9 : l.stackTraces = false) (dC : Nat → ClassId) (dI : Nat → Nat → Nat) (h0 : Nat) (tk : Nat) (pa : Nat) (ta : Nat) (ha : Nat) (ru : Nat) (to : Nat) (sp : Nat) (qt : Nat → Nat) (ts : Nat) (sa : Nat) (i : Int32) (j : Int32) (sz : Nat) : vx_Met l yX11_routine (.code yX11_routine cX11_routine 3 (some .int) :: tb) ({ frames := 6, cells := 1, slots := 6, locals := 82 }) (va_Pc [.ref h0, .int i, .int j] (fun U => U.heap.size = sz ∧ va_P (dC, dI) vwCl [(h0, .inr (11, [.ref tk, .ref pa, .ref ta, .ref ha, .ref ru, .ref to, .ref sp])), (to, .inr (5, [.int 0, .ref (qt 0), .ref (qt 1), .ref (qt 2), .ref ts, .int 0, .ref (qt 3), .ref (qt 4), .ref (qt 5), .ref (qt 6), .ref (qt 7), .ref (qt 8), .ref (qt 9), .ref (qt 10)]))] U.heap ∧ va_K (dC, dI) vwCl [] U ∧ va_D (fun _ => True) [(h0, .inr (11, [.ref tk, .ref pa, .ref ta, .ref ha, .ref ru, .ref to, .ref sp])), (to, .inr (5, [.int 0, .ref (qt 0), .ref (qt 1), .ref (qt 2), .ref ts, .int 0, .ref (qt 3), .ref (qt 4), .ref (qt 5), .ref (qt 6), .ref (qt 7), .ref (qt 8), .ref (qt 9), .ref (qt 10)]))] ∧ vk_R RX11 103 "no such routine" sa U ∧ va_Nw (.declares ⟨"java/lang/RuntimeException", "<init>", "(Ljava/lang/String;)V"⟩) U ∧ va_Nw (.declares ⟨"java/lang/Exception", "<init>", "(Ljava/lang/String;)V"⟩) U ∧ va_Nw (.declares ⟨"java/lang/Throwable", "<init>", "(Ljava/lang/String;)V"⟩) U ∧ va_Nw (.castable "java/util/NoSuchElementException" "java/util/NoSuchElementException") U ∧ vx_Zq Bundle.tN "UNASSIGNED_STACK" Bundle.steD (va_A [(h0, .inr (11, [.ref tk, .ref pa, .ref ta, .ref ha, .ref ru, .ref to, .ref sp])), (to, .inr (5, [.int 0, .ref (qt 0), .ref (qt 1), .ref (qt 2), .ref ts, .int 0, .ref (qt 3), .ref (qt 4), .ref (qt 5), .ref (qt 6), .ref (qt 7), .ref (qt 8), .ref (qt 9), .ref (qt 10)]))] sz) U U.heap ∧ vx_Zq Bundle.tN "SUPPRESSED_SENTINEL" Bundle.listD (va_A [(h0, .inr (11, [.ref tk, .ref pa, .ref ta, .ref ha, .ref ru, .ref to, .ref sp])), (to, .inr (5, [.int 0, .ref (qt 0), .ref (qt 1), .ref (qt 2), .ref ts, .int 0, .ref (qt 3), .ref (qt 4), .ref (qt 5), .ref (qt 6), .ref (qt 7), .ref (qt 8), .ref (qt 9), .ref (qt 10)]))] sz) U U.heap)) (va_Qi (fun (_ : Int32) (_ : Unit) => False) (fun _ _ => True) (va_A [(h0, .inr (11, [.ref tk, .ref pa, .ref ta, .ref ha, .ref ru, .ref to, .ref sp])), (to, .inr (5, [.int 0, .ref (qt 0), .ref (qt 1), .ref (qt 2), .ref ts, .int 0, .ref (qt 3), .ref (qt 4), .ref (qt 5), .ref (qt 6), .ref (qt 7), .ref (qt 8), .ref (qt 9), .ref (qt 10)]))] sz)) (vx_X (fun (_ : Unit) => True) (fun E _ _ => E = "java/util/NoSuchElementException") (va_A [(h0, .inr (11, [.ref tk, .ref pa, .ref ta, .ref ha, .ref ru, .ref to, .ref sp])), (to, .inr (5, [.int 0, .ref (qt 0), .ref (qt 1), .ref (qt 2), .ref ts, .int 0, .ref (qt 3), .ref (qt 4), .ref (qt 5), .ref (qt 6), .ref (qt 7), .ref (qt 8), .ref (qt 9), .ref (qt 10)]))] sz)) 1 6 (va_A [(h0, .inr (11, [.ref tk, .ref pa, .ref ta, .ref ha, .ref ru, .ref to, .ref sp])), (to, .inr (5, [.int 0, .ref (qt 0), .ref (qt 1), .ref (qt 2), .ref ts, .int 0, .ref (qt 3), .ref (qt 4), .ref (qt 5), .ref (qt 6), .ref (qt 7), .ref (qt 8), .ref (qt 9), .ref (qt 10)]))] sz) := by
  refine vx_ofW (cc := cX11_routine) (maxL := 3) (ret := (some .int)) (by decide) rfl ?_
  intro p e s m args below meth c s₁ B hml ht9 hv
  obtain ⟨rfl, hsz, hP, hK, hD0, hZ0, hZ1, hZ2, hZ3, hZ4, hZ5, hZ6⟩ := hv
  have hx := B.exec
  have hb := B.bytes
  have hr := B.returns
  have hts : ∀ w ∈ tb, w.before _ s = true := fun w h => atoms_spec (ws := (.code yX11_routine cX11_routine 3 (some .int) :: tb)) B.pre w (List.mem_cons_of_mem _ h)
  have hown : s.vm.findClass RX11 = some m.cls := findClass_of_methodNamed B.named
  have hlocks := B.notSynchronized
  subst hsz
  have hD := hD0.self (sz := s.heap.size)
  generalize hAe : va_A [(h0, .inr (11, [.ref tk, .ref pa, .ref ta, .ref ha, .ref ru, .ref to, .ref sp])), (to, .inr (5, [.int 0, .ref (qt 0), .ref (qt 1), .ref (qt 2), .ref ts, .int 0, .ref (qt 3), .ref (qt 4), .ref (qt 5), .ref (qt 6), .ref (qt 7), .ref (qt 8), .ref (qt 9), .ref (qt 10)]))] s.heap.size = A at hD hZ5 hZ6 ⊢
  have hA : ∀ q : Nat, s.heap.size ≤ q → A q := fun q h => by rw [← hAe]; exact Or.inr h
  have hS : va_S A s.heap s.heap [] := va_S.rf
  have hP : va_P (dC, dI) vwCl [(h0, .inr (11, [.ref tk, .ref pa, .ref ta, .ref ha, .ref ru, .ref to, .ref sp])), (to, .inr (5, [.int 0, .ref (qt 0), .ref (qt 1), .ref (qt 2), .ref ts, .int 0, .ref (qt 3), .ref (qt 4), .ref (qt 5), .ref (qt 6), .ref (qt 7), .ref (qt 8), .ref (qt 9), .ref (qt 10)]))] s.heap := hP
  have hl := lv_entry ([.ref h0, .int i, .int j]) (n := 3) (Nat.le_of_ble_eq_true rfl)
  rw [lg_entry_eq]
  generalize (lg_sl ([.ref h0, .int i, .int j]) ++ List.replicate (3 - (lg_sl ([.ref h0, .int i, .int j])).length) Slot.unset).toArray = ls at hl ⊢
  have hl : lv_has ls 3 [(0, .ref h0), (1, .int i), (2, .int j)] := hl
  refine lv_aload_n hx hb dX11_routine_0 rfl (lv_at hl 0 rfl) ?_
  refine va_get (D := (dC, dI)) (ci := 11) (v := .ref to) (C := RX11) (T := TX11) (N := 7) hx hb hts in_X11 hown hK hP 0 rfl rfl 5 (by decide) (hts _ wd_483) (fun _ h9 => h9) rfl dX11_routine_1 ?_
  refine lv_iload_n hx hb dX11_routine_4 rfl (lv_at hl 1 rfl) ?_
  have hPc := hP.sub (ws' := [(to, .inr (5, [.int 0, .ref (qt 0), .ref (qt 1), .ref (qt 2), .ref ts, .int 0, .ref (qt 3), .ref (qt 4), .ref (qt 5), .ref (qt 6), .ref (qt 7), .ref (qt 8), .ref (qt 9), .ref (qt 10)]))]) [1] rfl
  have hDc := hD.sub (ws' := [(to, .inr (5, [.int 0, .ref (qt 0), .ref (qt 1), .ref (qt 2), .ref ts, .int 0, .ref (qt 3), .ref (qt 4), .ref (qt 5), .ref (qt 6), .ref (qt 7), .ref (qt 8), .ref (qt 9), .ref (qt 10)]))]) [1] (by decide) rfl
  have hKc := hK.sub (tys' := []) [] rfl
  have hFc := va_free (wc := [(to, .inr (5, [.int 0, .ref (qt 0), .ref (qt 1), .ref (qt 2), .ref ts, .int 0, .ref (qt 3), .ref (qt 4), .ref (qt 5), .ref (qt 6), .ref (qt 7), .ref (qt 8), .ref (qt 9), .ref (qt 10)]))]) hD hS hA [1] rfl
  refine va_calli (va_runV (As := [.int i]) (rest := []) ⟨hx, hb, hml, hown, hts⟩ (ct_X5_has l dC dI to qt ts i s.heap.size) (cwV 1 hts (gd_V wd_851 wd_649 wd_650 wd_13 wd_651) rfl rfl rfl (by decide +kernel) ⟨Nat.le_of_ble_eq_true rfl, Nat.le_of_ble_eq_true rfl⟩) ⟨fun a U g mk q => by obtain ⟨q0, q1, qP, qK, qD⟩ := q; exact ⟨q0, q1, qP, va_K.moved (u := U) (U := U.calling g mk a) (Vm.Alike.refl U.vm) qK, qD⟩, va_recv hKc hPc (ci := 5) (q0 := 0) rfl rfl, fun U hU hW => ⟨rfl, by rw [hU], by rw [hU]; exact hPc, va_K.moved hW.alike hKc, hDc.weaken (fun _ _ _ _ => trivial)⟩⟩ rfl rfl hl.1 rfl (lv_room (Nat.le_of_ble_eq_true rfl)) dX11_routine_5 ⟨Nat.le_of_ble_eq_true rfl, Nat.le_of_ble_eq_true rfl⟩) hS (fun q _ h => hFc q h) hFc (fun r1 u t H1 locs ht hvm hw hB hz1 hk1 hS => ?_)
  obtain ⟨hP1, hK1, hD1⟩ := hB
  rw [ht] at hP1
  have hK1 := va_K.moved hvm.symm hK1
  obtain ⟨hP, hD⟩ := va_join (wr := [(h0, .inr (11, [.ref tk, .ref pa, .ref ta, .ref ha, .ref ru, .ref to, .ref sp]))]) (w1 := []) hP hD [1] [0] rfl rfl (by decide) (by decide) hk1 hFc hP1 hD1
  have hK := (hK.sub (tys' := []) [] rfl).app (hK1.sub (tys' := []) [] rfl)
  generalize H1 = H at hP hS ⊢
  have hP : va_P (dC, dI) vwCl [(h0, .inr (11, [.ref tk, .ref pa, .ref ta, .ref ha, .ref ru, .ref to, .ref sp]))] H := hP
  have hD : va_D A [(h0, .inr (11, [.ref tk, .ref pa, .ref ta, .ref ha, .ref ru, .ref to, .ref sp]))] := hD
  have hK : va_K (dC, dI) vwCl [] s := hK
  obtain rfl := hw
  refine lv_if_eq (tgt := 20) hx hb dX11_routine_8 (by decide) (fun _ => ?_) (fun h => absurd (by decide) h)
  have hB : ∀ (av : Array Value), ∀ w ∈ th_B, w.before av s = true := fun av => vx_c (va_Nw.use rfl hZ1) (vx_c (va_Nw.use rfl hZ2) (vx_c (va_Nw.use rfl hZ3) (vx_c (va_Nw.use rfl hZ4) vx_n)))
  exact th_throw (is := 103) (text := "no such routine") hx hb hl9 hown (hts _ wd_1288) (hts _ wd_21) hZ0 (vx_hat (L := th_L) (fun w h => hts w (th_mem w h)) th_no (hB _)) th_ot hZ5 hZ6 hS (by rw [hml]; exact hl.1) dX11_routine_20 dX11_routine_23 dX11_routine_24 dX11_routine_26 dX11_routine_29 (fun x h => (ht9 x h).elim) (Nat.le_of_ble_eq_true rfl) (Nat.le_of_ble_eq_true rfl) (Nat.le_of_ble_eq_true rfl) (Nat.le_of_ble_eq_true rfl) hlocks (fun t _ h1 h2 => ⟨(), trivial, rfl, Nat.le_trans hS.1 h1, fun q hq hn => (h2 q (Nat.lt_of_lt_of_le hq hS.1)).trans (hS.2.1 q hq hn)⟩) hS.2.2 (Nat.le_of_ble_eq_true rfl) (Nat.le_of_ble_eq_true rfl)
set_option maxHeartbeats 4000000 in
set_option maxRecDepth 100000 in
theorem ct_X11_task (l : Launch) (hl9 : l.stackTraces = false) (dC : Nat → ClassId) (dI : Nat → Nat → Nat) (h0 : Nat) (tk : Nat) (pa : Nat) (ta : Nat) (ha : Nat) (ru : Nat) (to : Nat) (sp : Nat) (pv : Value) (xt : Nat) (xr : Nat) (le : Nat) (lc : Nat) (ln : Nat) (al : Nat) (lo : Nat) (xg : Nat) (sa : Nat) (i : Int32) (j : Int32) (sz : Nat) : vx_Met l yX11_task (.code yX11_task cX11_task 3 (some .int) :: tb) ({ frames := 6, cells := 1, slots := 6, locals := 82 }) (va_Pc [.ref h0, .int i, .int j] (fun U => U.heap.size = sz ∧ va_P (dC, dI) vwCl [(h0, .inr (11, [.ref tk, .ref pa, .ref ta, .ref ha, .ref ru, .ref to, .ref sp])), (ha, .inr (1, [pv, .ref xt, .int 0, .int 0, .ref xr, .int 0, .int 0, .ref le, .ref lc, .ref ln, .ref al, .ref lo, .ref xg, .int 0, .null]))] U.heap ∧ va_K (dC, dI) vwCl [] U ∧ va_D (fun _ => True) [(h0, .inr (11, [.ref tk, .ref pa, .ref ta, .ref ha, .ref ru, .ref to, .ref sp])), (ha, .inr (1, [pv, .ref xt, .int 0, .int 0, .ref xr, .int 0, .int 0, .ref le, .ref lc, .ref ln, .ref al, .ref lo, .ref xg, .int 0, .null]))] ∧ vk_R RX11 161 "no such task" sa U ∧ va_Nw (.declares ⟨"java/lang/RuntimeException", "<init>", "(Ljava/lang/String;)V"⟩) U ∧ va_Nw (.declares ⟨"java/lang/Exception", "<init>", "(Ljava/lang/String;)V"⟩) U ∧ va_Nw (.declares ⟨"java/lang/Throwable", "<init>", "(Ljava/lang/String;)V"⟩) U ∧ va_Nw (.castable "java/util/NoSuchElementException" "java/util/NoSuchElementException") U ∧ vx_Zq Bundle.tN "UNASSIGNED_STACK" Bundle.steD (va_A [(h0, .inr (11, [.ref tk, .ref pa, .ref ta, .ref ha, .ref ru, .ref to, .ref sp])), (ha, .inr (1, [pv, .ref xt, .int 0, .int 0, .ref xr, .int 0, .int 0, .ref le, .ref lc, .ref ln, .ref al, .ref lo, .ref xg, .int 0, .null]))] sz) U U.heap ∧ vx_Zq Bundle.tN "SUPPRESSED_SENTINEL" Bundle.listD (va_A [(h0, .inr (11, [.ref tk, .ref pa, .ref ta, .ref ha, .ref ru, .ref to, .ref sp])), (ha, .inr (1, [pv, .ref xt, .int 0, .int 0, .ref xr, .int 0, .int 0, .ref le, .ref lc, .ref ln, .ref al, .ref lo, .ref xg, .int 0, .null]))] sz) U U.heap)) (va_Qi (fun (_ : Int32) (_ : Unit) => False) (fun _ _ => True) (va_A [(h0, .inr (11, [.ref tk, .ref pa, .ref ta, .ref ha, .ref ru, .ref to, .ref sp])), (ha, .inr (1, [pv, .ref xt, .int 0, .int 0, .ref xr, .int 0, .int 0, .ref le, .ref lc, .ref ln, .ref al, .ref lo, .ref xg, .int 0, .null]))] sz)) (vx_X (fun (_ : Unit) => True) (fun E _ _ => E = "java/util/NoSuchElementException") (va_A [(h0, .inr (11, [.ref tk, .ref pa, .ref ta, .ref ha, .ref ru, .ref to, .ref sp])), (ha, .inr (1, [pv, .ref xt, .int 0, .int 0, .ref xr, .int 0, .int 0, .ref le, .ref lc, .ref ln, .ref al, .ref lo, .ref xg, .int 0, .null]))] sz)) 1 6 (va_A [(h0, .inr (11, [.ref tk, .ref pa, .ref ta, .ref ha, .ref ru, .ref to, .ref sp])), (ha, .inr (1, [pv, .ref xt, .int 0, .int 0, .ref xr, .int 0, .int 0, .ref le, .ref lc, .ref ln, .ref al, .ref lo, .ref xg, .int 0, .null]))] sz) := by
  refine vx_ofW (cc := cX11_task) (maxL := 3) (ret := (some .int)) (by decide) rfl ?_
  intro p e s m args below meth c s₁ B hml ht9 hv
  obtain ⟨rfl, hsz, hP, hK, hD0, hZ0, hZ1, hZ2, hZ3, hZ4, hZ5, hZ6⟩ := hv
  have hx := B.exec
  have hb := B.bytes
  have hr := B.returns
  have hts : ∀ w ∈ tb, w.before _ s = true := fun w h => atoms_spec (ws := (.code yX11_task cX11_task 3 (some .int) :: tb)) B.pre w (List.mem_cons_of_mem _ h)
  have hown : s.vm.findClass RX11 = some m.cls := findClass_of_methodNamed B.named
  have hlocks := B.notSynchronized
  subst hsz
  have hD := hD0.self (sz := s.heap.size)
  generalize hAe : va_A [(h0, .inr (11, [.ref tk, .ref pa, .ref ta, .ref ha, .ref ru, .ref to, .ref sp])), (ha, .inr (1, [pv, .ref xt, .int 0, .int 0, .ref xr, .int 0, .int 0, .ref le, .ref lc, .ref ln, .ref al, .ref lo, .ref xg, .int 0, .null]))] s.heap.size = A at hD hZ5 hZ6 ⊢
  have hA : ∀ q : Nat, s.heap.size ≤ q → A q := fun q h => by rw [← hAe]; exact Or.inr h
  have hS : va_S A s.heap s.heap [] := va_S.rf
  have hP : va_P (dC, dI) vwCl [(h0, .inr (11, [.ref tk, .ref pa, .ref ta, .ref ha, .ref ru, .ref to, .ref sp])), (ha, .inr (1, [pv, .ref xt, .int 0, .int 0, .ref xr, .int 0, .int 0, .ref le, .ref lc, .ref ln, .ref al, .ref lo, .ref xg, .int 0, .null]))] s.heap := hP
  have hl := lv_entry ([.ref h0, .int i, .int j]) (n := 3) (Nat.le_of_ble_eq_true rfl)
  rw [lg_entry_eq]
  generalize (lg_sl ([.ref h0, .int i, .int j]) ++ List.replicate (3 - (lg_sl ([.ref h0, .int i, .int j])).length) Slot.unset).toArray = ls at hl ⊢
  have hl : lv_has ls 3 [(0, .ref h0), (1, .int i), (2, .int j)] := hl
  refine lv_aload_n hx hb dX11_task_0 rfl (lv_at hl 0 rfl) ?_
  refine va_get (D := (dC, dI)) (ci := 11) (v := .ref ha) (C := RX11) (T := TX11) (N := 7) hx hb hts in_X11 hown hK hP 0 rfl rfl 3 (by decide) (hts _ wd_481) (fun _ h9 => h9) rfl dX11_task_1 ?_
  refine lv_iload_n hx hb dX11_task_4 rfl (lv_at hl 1 rfl) ?_
  have hPc := hP.sub (ws' := [(ha, .inr (1, [(pv : Value), .ref xt, .int 0, .int 0, .ref xr, .int 0, .int 0, .ref le, .ref lc, .ref ln, .ref al, .ref lo, .ref xg, .int 0, .null]))]) [1] rfl
  have hDc := hD.sub (ws' := [(ha, .inr (1, [(pv : Value), .ref xt, .int 0, .int 0, .ref xr, .int 0, .int 0, .ref le, .ref lc, .ref ln, .ref al, .ref lo, .ref xg, .int 0, .null]))]) [1] (by decide) rfl
  have hKc := hK.sub (tys' := []) [] rfl
  have hFc := va_free (wc := [(ha, .inr (1, [(pv : Value), .ref xt, .int 0, .int 0, .ref xr, .int 0, .int 0, .ref le, .ref lc, .ref ln, .ref al, .ref lo, .ref xg, .int 0, .null]))]) hD hS hA [1] rfl
  refine va_calli (va_runV (As := [.int i]) (rest := []) ⟨hx, hb, hml, hown, hts⟩ (ct_X1_has l dC dI ha (pv : Value) xt xr le lc ln al lo xg i s.heap.size) (cwV 1 hts (gd_V wd_1360 wd_1241 wd_1242 wd_9 wd_1243) rfl rfl rfl (by decide +kernel) ⟨Nat.le_of_ble_eq_true rfl, Nat.le_of_ble_eq_true rfl⟩) ⟨fun a U g mk q => by obtain ⟨q0, q1, qP, qK, qD⟩ := q; exact ⟨q0, q1, qP, va_K.moved (u := U) (U := U.calling g mk a) (Vm.Alike.refl U.vm) qK, qD⟩, va_recv hKc hPc (ci := 1) (q0 := 0) rfl rfl, fun U hU hW => ⟨rfl, by rw [hU], by rw [hU]; exact hPc, va_K.moved hW.alike hKc, hDc.weaken (fun _ _ _ _ => trivial)⟩⟩ rfl rfl hl.1 rfl (lv_room (Nat.le_of_ble_eq_true rfl)) dX11_task_5 ⟨Nat.le_of_ble_eq_true rfl, Nat.le_of_ble_eq_true rfl⟩) hS (fun q _ h => hFc q h) hFc (fun r1 u t H1 locs ht hvm hw hB hz1 hk1 hS => ?_)
  obtain ⟨hP1, hK1, hD1⟩ := hB
  rw [ht] at hP1
  have hK1 := va_K.moved hvm.symm hK1
  obtain ⟨hP, hD⟩ := va_join (wr := [(h0, .inr (11, [.ref tk, .ref pa, .ref ta, .ref ha, .ref ru, .ref to, .ref sp]))]) (w1 := []) hP hD [1] [0] rfl rfl (by decide) (by decide) hk1 hFc hP1 hD1
  have hK := (hK.sub (tys' := []) [] rfl).app (hK1.sub (tys' := []) [] rfl)
  generalize H1 = H at hP hS ⊢
  have hP : va_P (dC, dI) vwCl [(h0, .inr (11, [.ref tk, .ref pa, .ref ta, .ref ha, .ref ru, .ref to, .ref sp]))] H := hP
  have hD : va_D A [(h0, .inr (11, [.ref tk, .ref pa, .ref ta, .ref ha, .ref ru, .ref to, .ref sp]))] := hD
  have hK : va_K (dC, dI) vwCl [] s := hK
  obtain rfl := hw
  refine lv_if_eq (tgt := 21) hx hb dX11_task_8 (by decide) (fun _ => ?_) (fun h => absurd (by decide) h)
  have hB : ∀ (av : Array Value), ∀ w ∈ th_B, w.before av s = true := fun av => vx_c (va_Nw.use rfl hZ1) (vx_c (va_Nw.use rfl hZ2) (vx_c (va_Nw.use rfl hZ3) (vx_c (va_Nw.use rfl hZ4) vx_n)))
  exact th_throw (is := 161) (text := "no such task") hx hb hl9 hown (hts _ wd_1288) (hts _ wd_21) hZ0 (vx_hat (L := th_L) (fun w h => hts w (th_mem w h)) th_no (hB _)) th_ot hZ5 hZ6 hS (by rw [hml]; exact hl.1) dX11_task_21 dX11_task_24 dX11_task_25 dX11_task_27 dX11_task_30 (fun x h => (ht9 x h).elim) (Nat.le_of_ble_eq_true rfl) (Nat.le_of_ble_eq_true rfl) (Nat.le_of_ble_eq_true rfl) (Nat.le_of_ble_eq_true rfl) hlocks (fun t _ h1 h2 => ⟨(), trivial, rfl, Nat.le_trans hS.1 h1, fun q hq hn => (h2 q (Nat.lt_of_lt_of_le hq hS.1)).trans (hS.2.1 q hq hn)⟩) hS.2.2 (Nat.le_of_ble_eq_true rfl) (Nat.le_of_ble_eq_true rfl)
set_option maxHeartbeats 4000000 in
set_option maxRecDepth 100000 in
theorem ct_X11_cell (l : Launch) (hl9 : l.stackTraces = false) (dC : Nat → ClassId) (dI : Nat → Nat → Nat) (h0 : Nat) (tk : Nat) (pa : Nat) (ta : Nat) (ha : Nat) (ru : Nat) (to : Nat) (sp : Nat) (pv : Value) (xt : Nat) (xr : Nat) (le : Nat) (lc : Nat) (ln : Nat) (al : Nat) (lo : Nat) (xg : Nat) (sa : Nat) (i : Int32) (j : Int32) (sz : Nat) : vx_Met l yX11_cell (.code yX11_cell cX11_cell 3 (some .int) :: tb) ({ frames := 6, cells := 1, slots := 6, locals := 82 }) (va_Pc [.ref h0, .int i, .int j] (fun U => U.heap.size = sz ∧ va_P (dC, dI) vwCl [(h0, .inr (11, [.ref tk, .ref pa, .ref ta, .ref ha, .ref ru, .ref to, .ref sp])), (ha, .inr (1, [pv, .ref xt, .int 0, .int 0, .ref xr, .int 0, .int 0, .ref le, .ref lc, .ref ln, .ref al, .ref lo, .ref xg, .int 0, .null]))] U.heap ∧ va_K (dC, dI) vwCl [] U ∧ va_D (fun _ => True) [(h0, .inr (11, [.ref tk, .ref pa, .ref ta, .ref ha, .ref ru, .ref to, .ref sp])), (ha, .inr (1, [pv, .ref xt, .int 0, .int 0, .ref xr, .int 0, .int 0, .ref le, .ref lc, .ref ln, .ref al, .ref lo, .ref xg, .int 0, .null]))] ∧ vk_R RX11 173 "no such cell" sa U ∧ va_Nw (.declares ⟨"java/lang/RuntimeException", "<init>", "(Ljava/lang/String;)V"⟩) U ∧ va_Nw (.declares ⟨"java/lang/Exception", "<init>", "(Ljava/lang/String;)V"⟩) U ∧ va_Nw (.declares ⟨"java/lang/Throwable", "<init>", "(Ljava/lang/String;)V"⟩) U ∧ va_Nw (.castable "java/util/NoSuchElementException" "java/util/NoSuchElementException") U ∧ vx_Zq Bundle.tN "UNASSIGNED_STACK" Bundle.steD (va_A [(h0, .inr (11, [.ref tk, .ref pa, .ref ta, .ref ha, .ref ru, .ref to, .ref sp])), (ha, .inr (1, [pv, .ref xt, .int 0, .int 0, .ref xr, .int 0, .int 0, .ref le, .ref lc, .ref ln, .ref al, .ref lo, .ref xg, .int 0, .null]))] sz) U U.heap ∧ vx_Zq Bundle.tN "SUPPRESSED_SENTINEL" Bundle.listD (va_A [(h0, .inr (11, [.ref tk, .ref pa, .ref ta, .ref ha, .ref ru, .ref to, .ref sp])), (ha, .inr (1, [pv, .ref xt, .int 0, .int 0, .ref xr, .int 0, .int 0, .ref le, .ref lc, .ref ln, .ref al, .ref lo, .ref xg, .int 0, .null]))] sz) U U.heap)) (va_Qi (fun (_ : Int32) (_ : Unit) => False) (fun _ _ => True) (va_A [(h0, .inr (11, [.ref tk, .ref pa, .ref ta, .ref ha, .ref ru, .ref to, .ref sp])), (ha, .inr (1, [pv, .ref xt, .int 0, .int 0, .ref xr, .int 0, .int 0, .ref le, .ref lc, .ref ln, .ref al, .ref lo, .ref xg, .int 0, .null]))] sz)) (vx_X (fun (_ : Unit) => True) (fun E _ _ => E = "java/util/NoSuchElementException") (va_A [(h0, .inr (11, [.ref tk, .ref pa, .ref ta, .ref ha, .ref ru, .ref to, .ref sp])), (ha, .inr (1, [pv, .ref xt, .int 0, .int 0, .ref xr, .int 0, .int 0, .ref le, .ref lc, .ref ln, .ref al, .ref lo, .ref xg, .int 0, .null]))] sz)) 1 6 (va_A [(h0, .inr (11, [.ref tk, .ref pa, .ref ta, .ref ha, .ref ru, .ref to, .ref sp])), (ha, .inr (1, [pv, .ref xt, .int 0, .int 0, .ref xr, .int 0, .int 0, .ref le, .ref lc, .ref ln, .ref al, .ref lo, .ref xg, .int 0, .null]))] sz) := by
  refine vx_ofW (cc := cX11_cell) (maxL := 3) (ret := (some .int)) (by decide) rfl ?_
  intro p e s m args below meth c s₁ B hml ht9 hv
  obtain ⟨rfl, hsz, hP, hK, hD0, hZ0, hZ1, hZ2, hZ3, hZ4, hZ5, hZ6⟩ := hv
  have hx := B.exec
  have hb := B.bytes
  have hr := B.returns
  have hts : ∀ w ∈ tb, w.before _ s = true := fun w h => atoms_spec (ws := (.code yX11_cell cX11_cell 3 (some .int) :: tb)) B.pre w (List.mem_cons_of_mem _ h)
  have hown : s.vm.findClass RX11 = some m.cls := findClass_of_methodNamed B.named
  have hlocks := B.notSynchronized
  subst hsz
  have hD := hD0.self (sz := s.heap.size)
  generalize hAe : va_A [(h0, .inr (11, [.ref tk, .ref pa, .ref ta, .ref ha, .ref ru, .ref to, .ref sp])), (ha, .inr (1, [pv, .ref xt, .int 0, .int 0, .ref xr, .int 0, .int 0, .ref le, .ref lc, .ref ln, .ref al, .ref lo, .ref xg, .int 0, .null]))] s.heap.size = A at hD hZ5 hZ6 ⊢
  have hA : ∀ q : Nat, s.heap.size ≤ q → A q := fun q h => by rw [← hAe]; exact Or.inr h
  have hS : va_S A s.heap s.heap [] := va_S.rf
  have hP : va_P (dC, dI) vwCl [(h0, .inr (11, [.ref tk, .ref pa, .ref ta, .ref ha, .ref ru, .ref to, .ref sp])), (ha, .inr (1, [pv, .ref xt, .int 0, .int 0, .ref xr, .int 0, .int 0, .ref le, .ref lc, .ref ln, .ref al, .ref lo, .ref xg, .int 0, .null]))] s.heap := hP
  have hl := lv_entry ([.ref h0, .int i, .int j]) (n := 3) (Nat.le_of_ble_eq_true rfl)
  rw [lg_entry_eq]
  generalize (lg_sl ([.ref h0, .int i, .int j]) ++ List.replicate (3 - (lg_sl ([.ref h0, .int i, .int j])).length) Slot.unset).toArray = ls at hl ⊢
  have hl : lv_has ls 3 [(0, .ref h0), (1, .int i), (2, .int j)] := hl
  refine lv_aload_n hx hb dX11_cell_0 rfl (lv_at hl 0 rfl) ?_
  refine va_get (D := (dC, dI)) (ci := 11) (v := .ref ha) (C := RX11) (T := TX11) (N := 7) hx hb hts in_X11 hown hK hP 0 rfl rfl 3 (by decide) (hts _ wd_481) (fun _ h9 => h9) rfl dX11_cell_1 ?_
  refine lv_iload_n hx hb dX11_cell_4 rfl (lv_at hl 1 rfl) ?_
  have hPc := hP.sub (ws' := [(ha, .inr (1, [(pv : Value), .ref xt, .int 0, .int 0, .ref xr, .int 0, .int 0, .ref le, .ref lc, .ref ln, .ref al, .ref lo, .ref xg, .int 0, .null]))]) [1] rfl
  have hDc := hD.sub (ws' := [(ha, .inr (1, [(pv : Value), .ref xt, .int 0, .int 0, .ref xr, .int 0, .int 0, .ref le, .ref lc, .ref ln, .ref al, .ref lo, .ref xg, .int 0, .null]))]) [1] (by decide) rfl
  have hKc := hK.sub (tys' := []) [] rfl
  have hFc := va_free (wc := [(ha, .inr (1, [(pv : Value), .ref xt, .int 0, .int 0, .ref xr, .int 0, .int 0, .ref le, .ref lc, .ref ln, .ref al, .ref lo, .ref xg, .int 0, .null]))]) hD hS hA [1] rfl
  refine va_calli (va_runV (As := [.int i]) (rest := []) ⟨hx, hb, hml, hown, hts⟩ (ct_X1_has l dC dI ha (pv : Value) xt xr le lc ln al lo xg i s.heap.size) (cwV 1 hts (gd_V wd_1360 wd_1241 wd_1242 wd_9 wd_1243) rfl rfl rfl (by decide +kernel) ⟨Nat.le_of_ble_eq_true rfl, Nat.le_of_ble_eq_true rfl⟩) ⟨fun a U g mk q => by obtain ⟨q0, q1, qP, qK, qD⟩ := q; exact ⟨q0, q1, qP, va_K.moved (u := U) (U := U.calling g mk a) (Vm.Alike.refl U.vm) qK, qD⟩, va_recv hKc hPc (ci := 1) (q0 := 0) rfl rfl, fun U hU hW => ⟨rfl, by rw [hU], by rw [hU]; exact hPc, va_K.moved hW.alike hKc, hDc.weaken (fun _ _ _ _ => trivial)⟩⟩ rfl rfl hl.1 rfl (lv_room (Nat.le_of_ble_eq_true rfl)) dX11_cell_5 ⟨Nat.le_of_ble_eq_true rfl, Nat.le_of_ble_eq_true rfl⟩) hS (fun q _ h => hFc q h) hFc (fun r1 u t H1 locs ht hvm hw hB hz1 hk1 hS => ?_)
  obtain ⟨hP1, hK1, hD1⟩ := hB
  rw [ht] at hP1
  have hK1 := va_K.moved hvm.symm hK1
  obtain ⟨hP, hD⟩ := va_join (wr := [(h0, .inr (11, [.ref tk, .ref pa, .ref ta, .ref ha, .ref ru, .ref to, .ref sp]))]) (w1 := []) hP hD [1] [0] rfl rfl (by decide) (by decide) hk1 hFc hP1 hD1
  have hK := (hK.sub (tys' := []) [] rfl).app (hK1.sub (tys' := []) [] rfl)
  generalize H1 = H at hP hS ⊢
  have hP : va_P (dC, dI) vwCl [(h0, .inr (11, [.ref tk, .ref pa, .ref ta, .ref ha, .ref ru, .ref to, .ref sp]))] H := hP
  have hD : va_D A [(h0, .inr (11, [.ref tk, .ref pa, .ref ta, .ref ha, .ref ru, .ref to, .ref sp]))] := hD
  have hK : va_K (dC, dI) vwCl [] s := hK
  obtain rfl := hw
  refine lv_if_eq (tgt := 39) hx hb dX11_cell_8 (by decide) (fun _ => ?_) (fun h => absurd (by decide) h)
  have hB : ∀ (av : Array Value), ∀ w ∈ th_B, w.before av s = true := fun av => vx_c (va_Nw.use rfl hZ1) (vx_c (va_Nw.use rfl hZ2) (vx_c (va_Nw.use rfl hZ3) (vx_c (va_Nw.use rfl hZ4) vx_n)))
  exact th_throw (is := 173) (text := "no such cell") hx hb hl9 hown (hts _ wd_1288) (hts _ wd_21) hZ0 (vx_hat (L := th_L) (fun w h => hts w (th_mem w h)) th_no (hB _)) th_ot hZ5 hZ6 hS (by rw [hml]; exact hl.1) dX11_cell_39 dX11_cell_42 dX11_cell_43 dX11_cell_45 dX11_cell_48 (fun x h => (ht9 x h).elim) (Nat.le_of_ble_eq_true rfl) (Nat.le_of_ble_eq_true rfl) (Nat.le_of_ble_eq_true rfl) (Nat.le_of_ble_eq_true rfl) hlocks (fun t _ h1 h2 => ⟨(), trivial, rfl, Nat.le_trans hS.1 h1, fun q hq hn => (h2 q (Nat.lt_of_lt_of_le hq hS.1)).trans (hS.2.1 q hq hn)⟩) hS.2.2 (Nat.le_of_ble_eq_true rfl) (Nat.le_of_ble_eq_true rfl)
