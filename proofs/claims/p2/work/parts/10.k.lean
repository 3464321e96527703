theorem wd_121 : (Jvm.Cond.arrayClass Jvm.ClassFile.FieldType.int) ∈ tb := tb_at 121 (by decide +kernel) (by decide +kernel)
theorem wd_122 : (Jvm.Cond.arrayClass Jvm.ClassFile.FieldType.long) ∈ tb := tb_at 122 (by decide +kernel) (by decide +kernel)
theorem wd_130 : (Jvm.Cond.methodLink "Sleepers$Parser" (3 : Nat) ({ cls := "java/lang/Object", name := "<init>", desc := "()V" } : Jvm.MethodName)) ∈ tb := tb_at 130 (by decide +kernel) (by decide +kernel)
theorem wd_131 : (Jvm.Cond.fieldLink "Sleepers$Parser" (25 : Nat) "Sleepers$Parser" "tokens" "LSleepers$Tokens;") ∈ tb := tb_at 131 (by decide +kernel) (by decide +kernel)
theorem wd_140 : (Jvm.Cond.fieldLink "Sleepers$Parser" (9 : Nat) "Sleepers$Parser" "childAct" "[I") ∈ tb := tb_at 140 (by decide +kernel) (by decide +kernel)
theorem wd_141 : (Jvm.Cond.fieldLink "Sleepers$Parser" (15 : Nat) "Sleepers$Parser" "childPlace" "[I") ∈ tb := tb_at 141 (by decide +kernel) (by decide +kernel)
theorem wd_142 : (Jvm.Cond.fieldLink "Sleepers$Parser" (18 : Nat) "Sleepers$Parser" "childGiven" "[I") ∈ tb := tb_at 142 (by decide +kernel) (by decide +kernel)
theorem wd_143 : (Jvm.Cond.fieldLink "Sleepers$Parser" (21 : Nat) "Sleepers$Parser" "childName" "[J") ∈ tb := tb_at 143 (by decide +kernel) (by decide +kernel)
theorem wd_176 : (Jvm.Cond.methodLink "Sleepers$Tables" (3 : Nat) ({ cls := "java/lang/Object", name := "<init>", desc := "()V" } : Jvm.MethodName)) ∈ tb := tb_at 176 (by decide +kernel) (by decide +kernel)
theorem wd_177 : (Jvm.Cond.fieldLink "Sleepers$Tables" (9 : Nat) "Sleepers$Tables" "seen" "[I") ∈ tb := tb_at 177 (by decide +kernel) (by decide +kernel)
theorem wd_178 : (Jvm.Cond.fieldLink "Sleepers$Tables" (15 : Nat) "Sleepers$Tables" "open" "[I") ∈ tb := tb_at 178 (by decide +kernel) (by decide +kernel)
theorem wd_221 : (Jvm.Cond.methodLink "Sleepers$Book" (3 : Nat) ({ cls := "java/lang/Object", name := "<init>", desc := "()V" } : Jvm.MethodName)) ∈ tb := tb_at 221 (by decide +kernel) (by decide +kernel)
theorem wd_224 : (Jvm.Cond.fieldLink "Sleepers$Book" (9 : Nat) "Sleepers$Book" "tasks" "[I") ∈ tb := tb_at 224 (by decide +kernel) (by decide +kernel)
theorem wd_225 : (Jvm.Cond.fieldLink "Sleepers$Book" (15 : Nat) "Sleepers$Book" "numbers" "[I") ∈ tb := tb_at 225 (by decide +kernel) (by decide +kernel)
theorem wd_340 : (Jvm.Cond.methodLink "Sleepers$Scopes" (3 : Nat) ({ cls := "java/lang/Object", name := "<init>", desc := "()V" } : Jvm.MethodName)) ∈ tb := tb_at 340 (by decide +kernel) (by decide +kernel)
theorem wd_342 : (Jvm.Cond.fieldLink "Sleepers$Scopes" (9 : Nat) "Sleepers$Scopes" "outer" "[I") ∈ tb := tb_at 342 (by decide +kernel) (by decide +kernel)
theorem wd_345 : (Jvm.Cond.fieldLink "Sleepers$Scopes" (15 : Nat) "Sleepers$Scopes" "deep" "[I") ∈ tb := tb_at 345 (by decide +kernel) (by decide +kernel)
theorem wd_347 : (Jvm.Cond.fieldLink "Sleepers$Scopes" (18 : Nat) "Sleepers$Scopes" "loopAbout" "[I") ∈ tb := tb_at 347 (by decide +kernel) (by decide +kernel)
theorem wd_349 : (Jvm.Cond.fieldLink "Sleepers$Scopes" (21 : Nat) "Sleepers$Scopes" "onAt" "[I") ∈ tb := tb_at 349 (by decide +kernel) (by decide +kernel)
theorem wd_352 : (Jvm.Cond.fieldLink "Sleepers$Scopes" (24 : Nat) "Sleepers$Scopes" "finishAt" "[I") ∈ tb := tb_at 352 (by decide +kernel) (by decide +kernel)
theorem wd_356 : (Jvm.Cond.fieldLink "Sleepers$Scopes" (27 : Nat) "Sleepers$Scopes" "behindTry" "[I") ∈ tb := tb_at 356 (by decide +kernel) (by decide +kernel)
theorem wd_360 : (Jvm.Cond.fieldLink "Sleepers$Scopes" (30 : Nat) "Sleepers$Scopes" "marks" "[I") ∈ tb := tb_at 360 (by decide +kernel) (by decide +kernel)
theorem wd_362 : (Jvm.Cond.fieldLink "Sleepers$Scopes" (33 : Nat) "Sleepers$Scopes" "loopScope" "[I") ∈ tb := tb_at 362 (by decide +kernel) (by decide +kernel)
theorem wd_365 : (Jvm.Cond.fieldLink "Sleepers$Scopes" (36 : Nat) "Sleepers$Scopes" "loopAt" "[I") ∈ tb := tb_at 365 (by decide +kernel) (by decide +kernel)
theorem wd_367 : (Jvm.Cond.fieldLink "Sleepers$Scopes" (39 : Nat) "Sleepers$Scopes" "behindLoop" "[I") ∈ tb := tb_at 367 (by decide +kernel) (by decide +kernel)
theorem dX0_init_0 : decode cX0_init 0 = .ok (.aload_n 0, 1) := by decide +kernel
theorem dX0_init_1 : decode cX0_init 1 = .ok (.invokespecial 3, 3) := by decide +kernel
theorem dX0_init_4 : decode cX0_init 4 = .ok (.aload_n 0, 1) := by decide +kernel
theorem dX0_init_5 : decode cX0_init 5 = .ok (.sipush 300, 3) := by decide +kernel
theorem dX0_init_8 : decode cX0_init 8 = .ok (.newarray .int, 2) := by decide +kernel
theorem dX0_init_10 : decode cX0_init 10 = .ok (.putfield 9, 3) := by decide +kernel
theorem dX0_init_13 : decode cX0_init 13 = .ok (.aload_n 0, 1) := by decide +kernel
theorem dX0_init_14 : decode cX0_init 14 = .ok (.sipush 300, 3) := by decide +kernel
theorem dX0_init_17 : decode cX0_init 17 = .ok (.newarray .int, 2) := by decide +kernel
theorem dX0_init_19 : decode cX0_init 19 = .ok (.putfield 15, 3) := by decide +kernel
theorem dX0_init_22 : decode cX0_init 22 = .ok (.return_, 1) := by decide +kernel
theorem dX3_init_0 : decode cX3_init 0 = .ok (.aload_n 0, 1) := by decide +kernel
theorem dX3_init_1 : decode cX3_init 1 = .ok (.invokespecial 3, 3) := by decide +kernel
theorem dX3_init_4 : decode cX3_init 4 = .ok (.aload_n 0, 1) := by decide +kernel
theorem dX3_init_5 : decode cX3_init 5 = .ok (.sipush 460, 3) := by decide +kernel
theorem dX3_init_8 : decode cX3_init 8 = .ok (.newarray .int, 2) := by decide +kernel
theorem dX3_init_10 : decode cX3_init 10 = .ok (.putfield 9, 3) := by decide +kernel
theorem dX3_init_13 : decode cX3_init 13 = .ok (.aload_n 0, 1) := by decide +kernel
theorem dX3_init_14 : decode cX3_init 14 = .ok (.sipush 460, 3) := by decide +kernel
theorem dX3_init_17 : decode cX3_init 17 = .ok (.newarray .int, 2) := by decide +kernel
theorem dX3_init_19 : decode cX3_init 19 = .ok (.putfield 15, 3) := by decide +kernel
theorem dX3_init_22 : decode cX3_init 22 = .ok (.aload_n 0, 1) := by decide +kernel
theorem dX3_init_23 : decode cX3_init 23 = .ok (.sipush 460, 3) := by decide +kernel
theorem dX3_init_26 : decode cX3_init 26 = .ok (.newarray .int, 2) := by decide +kernel
theorem dX3_init_28 : decode cX3_init 28 = .ok (.putfield 18, 3) := by decide +kernel
theorem dX3_init_31 : decode cX3_init 31 = .ok (.aload_n 0, 1) := by decide +kernel
theorem dX3_init_32 : decode cX3_init 32 = .ok (.sipush 460, 3) := by decide +kernel
theorem dX3_init_35 : decode cX3_init 35 = .ok (.newarray .long, 2) := by decide +kernel
theorem dX3_init_37 : decode cX3_init 37 = .ok (.putfield 21, 3) := by decide +kernel
theorem dX3_init_40 : decode cX3_init 40 = .ok (.aload_n 0, 1) := by decide +kernel
theorem dX3_init_41 : decode cX3_init 41 = .ok (.aload_n 1, 1) := by decide +kernel
theorem dX3_init_42 : decode cX3_init 42 = .ok (.putfield 25, 3) := by decide +kernel
theorem dX3_init_45 : decode cX3_init 45 = .ok (.return_, 1) := by decide +kernel
theorem dX7_init_0 : decode cX7_init 0 = .ok (.aload_n 0, 1) := by decide +kernel
theorem dX7_init_1 : decode cX7_init 1 = .ok (.invokespecial 3, 3) := by decide +kernel
theorem dX7_init_4 : decode cX7_init 4 = .ok (.aload_n 0, 1) := by decide +kernel
theorem dX7_init_5 : decode cX7_init 5 = .ok (.sipush 460, 3) := by decide +kernel
theorem dX7_init_8 : decode cX7_init 8 = .ok (.newarray .int, 2) := by decide +kernel
theorem dX7_init_10 : decode cX7_init 10 = .ok (.putfield 9, 3) := by decide +kernel
theorem dX7_init_13 : decode cX7_init 13 = .ok (.aload_n 0, 1) := by decide +kernel
theorem dX7_init_14 : decode cX7_init 14 = .ok (.sipush 460, 3) := by decide +kernel
theorem dX7_init_17 : decode cX7_init 17 = .ok (.newarray .int, 2) := by decide +kernel
theorem dX7_init_19 : decode cX7_init 19 = .ok (.putfield 15, 3) := by decide +kernel
theorem dX7_init_22 : decode cX7_init 22 = .ok (.aload_n 0, 1) := by decide +kernel
theorem dX7_init_23 : decode cX7_init 23 = .ok (.sipush 460, 3) := by decide +kernel
theorem dX7_init_26 : decode cX7_init 26 = .ok (.newarray .int, 2) := by decide +kernel
theorem dX7_init_28 : decode cX7_init 28 = .ok (.putfield 18, 3) := by decide +kernel
theorem dX7_init_31 : decode cX7_init 31 = .ok (.aload_n 0, 1) := by decide +kernel
theorem dX7_init_32 : decode cX7_init 32 = .ok (.sipush 460, 3) := by decide +kernel
theorem dX7_init_35 : decode cX7_init 35 = .ok (.newarray .int, 2) := by decide +kernel
theorem dX7_init_37 : decode cX7_init 37 = .ok (.putfield 21, 3) := by decide +kernel
theorem dX7_init_40 : decode cX7_init 40 = .ok (.aload_n 0, 1) := by decide +kernel
theorem dX7_init_41 : decode cX7_init 41 = .ok (.sipush 460, 3) := by decide +kernel
theorem dX7_init_44 : decode cX7_init 44 = .ok (.newarray .int, 2) := by decide +kernel
theorem dX7_init_46 : decode cX7_init 46 = .ok (.putfield 24, 3) := by decide +kernel
theorem dX7_init_49 : decode cX7_init 49 = .ok (.aload_n 0, 1) := by decide +kernel
theorem dX7_init_50 : decode cX7_init 50 = .ok (.sipush 460, 3) := by decide +kernel
theorem dX7_init_53 : decode cX7_init 53 = .ok (.newarray .int, 2) := by decide +kernel
theorem dX7_init_55 : decode cX7_init 55 = .ok (.putfield 27, 3) := by decide +kernel
theorem dX7_init_58 : decode cX7_init 58 = .ok (.aload_n 0, 1) := by decide +kernel
theorem dX7_init_59 : decode cX7_init 59 = .ok (.sipush 460, 3) := by decide +kernel
theorem dX7_init_62 : decode cX7_init 62 = .ok (.newarray .int, 2) := by decide +kernel
theorem dX7_init_64 : decode cX7_init 64 = .ok (.putfield 30, 3) := by decide +kernel
theorem dX7_init_67 : decode cX7_init 67 = .ok (.aload_n 0, 1) := by decide +kernel
theorem dX7_init_68 : decode cX7_init 68 = .ok (.sipush 460, 3) := by decide +kernel
theorem dX7_init_71 : decode cX7_init 71 = .ok (.newarray .int, 2) := by decide +kernel
theorem dX7_init_73 : decode cX7_init 73 = .ok (.putfield 33, 3) := by decide +kernel
theorem dX7_init_76 : decode cX7_init 76 = .ok (.aload_n 0, 1) := by decide +kernel
theorem dX7_init_77 : decode cX7_init 77 = .ok (.sipush 460, 3) := by decide +kernel
theorem dX7_init_80 : decode cX7_init 80 = .ok (.newarray .int, 2) := by decide +kernel
theorem dX7_init_82 : decode cX7_init 82 = .ok (.putfield 36, 3) := by decide +kernel
theorem dX7_init_85 : decode cX7_init 85 = .ok (.aload_n 0, 1) := by decide +kernel
theorem dX7_init_86 : decode cX7_init 86 = .ok (.sipush 460, 3) := by decide +kernel
theorem dX7_init_89 : decode cX7_init 89 = .ok (.newarray .int, 2) := by decide +kernel
theorem dX7_init_91 : decode cX7_init 91 = .ok (.putfield 39, 3) := by decide +kernel
theorem dX7_init_94 : decode cX7_init 94 = .ok (.return_, 1) := by decide +kernel
theorem dX8_init_0 : decode cX8_init 0 = .ok (.aload_n 0, 1) := by decide +kernel
theorem dX8_init_1 : decode cX8_init 1 = .ok (.invokespecial 3, 3) := by decide +kernel
theorem dX8_init_4 : decode cX8_init 4 = .ok (.aload_n 0, 1) := by decide +kernel
theorem dX8_init_5 : decode cX8_init 5 = .ok (.sipush 8064, 3) := by decide +kernel
theorem dX8_init_8 : decode cX8_init 8 = .ok (.newarray .int, 2) := by decide +kernel
theorem dX8_init_10 : decode cX8_init 10 = .ok (.putfield 9, 3) := by decide +kernel
theorem dX8_init_13 : decode cX8_init 13 = .ok (.aload_n 0, 1) := by decide +kernel
theorem dX8_init_14 : decode cX8_init 14 = .ok (.sipush 8064, 3) := by decide +kernel
theorem dX8_init_17 : decode cX8_init 17 = .ok (.newarray .int, 2) := by decide +kernel
theorem dX8_init_19 : decode cX8_init 19 = .ok (.putfield 15, 3) := by decide +kernel
theorem dX8_init_22 : decode cX8_init 22 = .ok (.return_, 1) := by decide +kernel
set_option maxHeartbeats 4000000 in
set_option maxRecDepth 100000 in
theorem ct_X0_init (l : Launch) (dC : Nat → ClassId) (dI : Nat → Nat → Nat) (h0 : Nat) (sz : Nat) : Met l yX0_init (.code yX0_init cX0_init 1 none :: tb) ({ frames := 1, cells := 2, slots := 600, locals := 12 }) (va_Pc [.ref h0] (fun U => U.heap.size = sz ∧ va_P (dC, dI) vwCl [(h0, .inr (0, [.int 0, .null, .null]))] U.heap ∧ va_K (dC, dI) vwCl [] U ∧ va_D (fun _ => True) [(h0, .inr (0, [.int 0, .null, .null]))])) (va_Qv (fun (_ : Unit) => True) (fun (_ : Unit) t => ∃ (q : Nat → Nat), ∃ (kc : Nat → ClassId), va_P (dC, dI) vwCl [(h0, .inr (0, [.int 0, .ref (q 0), .ref (q 1)])), (q 0, .inl (kc 0, 300, .inl (fun _ => 0))), (q 1, .inl (kc 1, 300, .inl (fun _ => 0)))] t.heap ∧ va_K (dC, dI) vwCl [(kc 0, .int), (kc 1, .int)] t ∧ va_D (va_A [(h0, .inr (0, [.int 0, .null, .null]))] sz) [(h0, .inr (0, [.int 0, .ref (q 0), .ref (q 1)])), (q 0, .inl (kc 0, 300, .inl (fun _ => 0))), (q 1, .inl (kc 1, 300, .inl (fun _ => 0)))]) (va_A [(h0, .inr (0, [.int 0, .null, .null]))] sz)) 2 600 (va_A [(h0, .inr (0, [.int 0, .null, .null]))] sz) := by
  refine Met.ofW (cc := cX0_init) (maxL := 1) (ret := none) (by decide) rfl ?_
  intro p e s m args below meth c s₁ B hml hv
  obtain ⟨rfl, hsz, hP, hK, hD0⟩ := hv
  have hx := B.exec
  have hb := B.bytes
  have hr := B.returns
  have hts : ∀ w ∈ tb, w.before _ s = true := fun w h => atoms_spec (ws := (.code yX0_init cX0_init 1 none :: tb)) B.pre w (List.mem_cons_of_mem _ h)
  have hown : s.vm.findClass RX0 = some m.cls := findClass_of_methodNamed B.named
  have hlocks := B.notSynchronized
  have hin : meth.name = "<init>" := (name_of_methodNamed B.named B.method).1
  subst hsz
  have hD := hD0.self (sz := s.heap.size)
  generalize hAe : va_A [(h0, .inr (0, [.int 0, .null, .null]))] s.heap.size = A at hD ⊢
  have hA : ∀ q : Nat, s.heap.size ≤ q → A q := fun q h => by rw [← hAe]; exact Or.inr h
  have hS : va_S A s.heap s.heap [] := va_S.rf
  have hP : va_P (dC, dI) vwCl [(h0, .inr (0, [.int 0, .null, .null]))] s.heap := hP
  have hl := lv_entry ([.ref h0]) (n := 1) (Nat.le_of_ble_eq_true rfl)
  rw [lg_entry_eq]
  generalize (lg_sl ([.ref h0]) ++ List.replicate (1 - (lg_sl ([.ref h0])).length) Slot.unset).toArray = ls at hl ⊢
  have hl : lv_has ls 1 [(0, .ref h0)] := hl
  refine lv_aload_n hx hb dX0_init_0 rfl (lv_at hl 0 rfl) ?_
  refine W.objInit hx hb hown (hts _ wd_221) (hts _ wd_30) (hts _ wd_obj) rfl (by rw [hml]; exact hl.1) rfl dX0_init_1 (Nat.le_of_ble_eq_true rfl) (Nat.le_of_ble_eq_true rfl) ?_
  refine W.eq (g2 := F0 m 4 ls []) rfl ?_
  refine lv_aload_n hx hb dX0_init_4 rfl (lv_at hl 0 rfl) ?_
  refine lv_sipush (v := 300) hx hb dX0_init_5 (by decide) ?_
  refine va_newa (D := (dC, dI)) (atype := .int) (a0 := (300, .inl (fun _ => 0))) hx hb (hts _ wd_121) rfl hK hP hD hS hA (fun _ => rfl) (by decide) (by decide) (by decide) (Nat.le_of_ble_eq_true rfl) (Nat.le_of_ble_eq_true rfl) dX0_init_8 (fun q1 k2 H hK hP hD hS => ?_)
  have hK : va_K (dC, dI) vwCl [(k2, .int)] s := hK
  have hP : va_P (dC, dI) vwCl [(h0, .inr (0, [.int 0, .null, .null])), (q1, .inl (k2, 300, .inl (fun _ => 0)))] H := hP
  have hD : va_D A [(h0, .inr (0, [.int 0, .null, .null])), (q1, .inl (k2, 300, .inl (fun _ => 0)))] := hD
  refine W.widen (k := 1) (n := 300) (Nat.le_of_ble_eq_true rfl) (Nat.le_of_ble_eq_true rfl) ?_
  refine va_putF (D := (dC, dI)) (ci := 0) (v := .ref q1) (ty := (tyX0 1)) (C := RX0) (T := TX0) (N := 3) hx hb hts in_X0 tyX0 tyX0_ok nmX0 hown hK hP hD hS 0 rfl rfl 1 (by decide) (hts _ wd_224) (fun _ h9 => h9) rfl hin rfl (tyX0_ok 1 (by decide)) rfl rfl (Nat.le_of_ble_eq_true rfl) dX0_init_10 (fun H locs hP hD hS => ?_)
  have hP : va_P (dC, dI) vwCl [(h0, .inr (0, [.int 0, .ref q1, .null])), (q1, .inl (k2, 300, .inl (fun _ => 0)))] H := hP
  have hD : va_D A [(h0, .inr (0, [.int 0, .ref q1, .null])), (q1, .inl (k2, 300, .inl (fun _ => 0)))] := hD
  refine lv_aload_n hx hb dX0_init_13 rfl (lv_at hl 0 rfl) ?_
  refine lv_sipush (v := 300) hx hb dX0_init_14 (by decide) ?_
  refine va_newa (D := (dC, dI)) (atype := .int) (a0 := (300, .inl (fun _ => 0))) hx hb (hts _ wd_121) rfl hK hP hD hS hA (fun _ => rfl) (by decide) (by decide) (by decide) (Nat.le_of_ble_eq_true rfl) (Nat.le_of_ble_eq_true rfl) dX0_init_17 (fun q3 k4 H hK hP hD hS => ?_)
  have hK : va_K (dC, dI) vwCl [(k2, .int), (k4, .int)] s := hK
  have hP : va_P (dC, dI) vwCl [(h0, .inr (0, [.int 0, .ref q1, .null])), (q1, .inl (k2, 300, .inl (fun _ => 0))), (q3, .inl (k4, 300, .inl (fun _ => 0)))] H := hP
  have hD : va_D A [(h0, .inr (0, [.int 0, .ref q1, .null])), (q1, .inl (k2, 300, .inl (fun _ => 0))), (q3, .inl (k4, 300, .inl (fun _ => 0)))] := hD
  refine W.widen (k := 2) (n := 600) (Nat.le_of_ble_eq_true rfl) (Nat.le_of_ble_eq_true rfl) ?_
  refine va_putF (D := (dC, dI)) (ci := 0) (v := .ref q3) (ty := (tyX0 2)) (C := RX0) (T := TX0) (N := 3) hx hb hts in_X0 tyX0 tyX0_ok nmX0 hown hK hP hD hS 0 rfl rfl 2 (by decide) (hts _ wd_225) (fun _ h9 => h9) rfl hin rfl (tyX0_ok 2 (by decide)) rfl rfl (Nat.le_of_ble_eq_true rfl) dX0_init_19 (fun H locs hP hD hS => ?_)
  have hP : va_P (dC, dI) vwCl [(h0, .inr (0, [.int 0, .ref q1, .ref q3])), (q1, .inl (k2, 300, .inl (fun _ => 0))), (q3, .inl (k4, 300, .inl (fun _ => 0)))] H := hP
  have hD : va_D A [(h0, .inr (0, [.int 0, .ref q1, .ref q3])), (q1, .inl (k2, 300, .inl (fun _ => 0))), (q3, .inl (k4, 300, .inl (fun _ => 0)))] := hD
  have hP9 := hP.sub (ws' := [(h0, .inr (0, [.int 0, .ref q1, .ref q3])), (q1, .inl (k2, 300, .inl (fun _ => 0))), (q3, .inl (k4, 300, .inl (fun _ => 0)))]) [0, 1, 2] rfl
  have hD9 := hD.sub (ws' := [(h0, .inr (0, [.int 0, .ref q1, .ref q3])), (q1, .inl (k2, 300, .inl (fun _ => 0))), (q3, .inl (k4, 300, .inl (fun _ => 0)))]) [0, 1, 2] (by decide) rfl
  have hK9 := hK.sub (tys' := [(k2, .int), (k4, .int)]) [0, 1] rfl
  refine W.widen (k := 2) (n := 600) (Nat.le_of_ble_eq_true rfl) (Nat.le_of_ble_eq_true rfl) ?_
  exact W.vret hx hb hr (fun t ht hW => ⟨⟨(), rfl, trivial, (fun k => [q1, q3].getD k 0), (fun k => [k2, k4].getD k 0), by rw [ht]; exact hP9, va_K.moved hW.alike hK9, hD9⟩, hS.F ht⟩) hS.2.2 dX0_init_22
set_option maxHeartbeats 4000000 in
set_option maxRecDepth 100000 in
theorem ct_X7_init (l : Launch) (dC : Nat → ClassId) (dI : Nat → Nat → Nat) (h0 : Nat) (sz : Nat) : Met l yX7_init (.code yX7_init cX7_init 1 none :: tb) ({ frames := 1, cells := 10, slots := 4600, locals := 12 }) (va_Pc [.ref h0] (fun U => U.heap.size = sz ∧ va_P (dC, dI) vwCl [(h0, .inr (7, [.int 0, .null, .null, .null, .null, .null, .null, .null, .int 0, .null, .null, .null]))] U.heap ∧ va_K (dC, dI) vwCl [] U ∧ va_D (fun _ => True) [(h0, .inr (7, [.int 0, .null, .null, .null, .null, .null, .null, .null, .int 0, .null, .null, .null]))])) (va_Qv (fun (_ : Unit) => True) (fun (_ : Unit) t => ∃ (q : Nat → Nat), ∃ (kc : Nat → ClassId), va_P (dC, dI) vwCl [(h0, .inr (7, [.int 0, .ref (q 0), .ref (q 1), .ref (q 2), .ref (q 3), .ref (q 4), .ref (q 5), .ref (q 6), .int 0, .ref (q 7), .ref (q 8), .ref (q 9)])), (q 0, .inl (kc 0, 460, .inl (fun _ => 0))), (q 1, .inl (kc 1, 460, .inl (fun _ => 0))), (q 2, .inl (kc 2, 460, .inl (fun _ => 0))), (q 3, .inl (kc 3, 460, .inl (fun _ => 0))), (q 4, .inl (kc 4, 460, .inl (fun _ => 0))), (q 5, .inl (kc 5, 460, .inl (fun _ => 0))), (q 6, .inl (kc 6, 460, .inl (fun _ => 0))), (q 7, .inl (kc 7, 460, .inl (fun _ => 0))), (q 8, .inl (kc 8, 460, .inl (fun _ => 0))), (q 9, .inl (kc 9, 460, .inl (fun _ => 0)))] t.heap ∧ va_K (dC, dI) vwCl [(kc 0, .int), (kc 1, .int), (kc 2, .int), (kc 3, .int), (kc 4, .int), (kc 5, .int), (kc 6, .int), (kc 7, .int), (kc 8, .int), (kc 9, .int)] t ∧ va_D (va_A [(h0, .inr (7, [.int 0, .null, .null, .null, .null, .null, .null, .null, .int 0, .null, .null, .null]))] sz) [(h0, .inr (7, [.int 0, .ref (q 0), .ref (q 1), .ref (q 2), .ref (q 3), .ref (q 4), .ref (q 5), .ref (q 6), .int 0, .ref (q 7), .ref (q 8), .ref (q 9)])), (q 0, .inl (kc 0, 460, .inl (fun _ => 0))), (q 1, .inl (kc 1, 460, .inl (fun _ => 0))), (q 2, .inl (kc 2, 460, .inl (fun _ => 0))), (q 3, .inl (kc 3, 460, .inl (fun _ => 0))), (q 4, .inl (kc 4, 460, .inl (fun _ => 0))), (q 5, .inl (kc 5, 460, .inl (fun _ => 0))), (q 6, .inl (kc 6, 460, .inl (fun _ => 0))), (q 7, .inl (kc 7, 460, .inl (fun _ => 0))), (q 8, .inl (kc 8, 460, .inl (fun _ => 0))), (q 9, .inl (kc 9, 460, .inl (fun _ => 0)))]) (va_A [(h0, .inr (7, [.int 0, .null, .null, .null, .null, .null, .null, .null, .int 0, .null, .null, .null]))] sz)) 10 4600 (va_A [(h0, .inr (7, [.int 0, .null, .null, .null, .null, .null, .null, .null, .int 0, .null, .null, .null]))] sz) := by
  refine Met.ofW (cc := cX7_init) (maxL := 1) (ret := none) (by decide) rfl ?_
  intro p e s m args below meth c s₁ B hml hv
  obtain ⟨rfl, hsz, hP, hK, hD0⟩ := hv
  have hx := B.exec
  have hb := B.bytes
  have hr := B.returns
  have hts : ∀ w ∈ tb, w.before _ s = true := fun w h => atoms_spec (ws := (.code yX7_init cX7_init 1 none :: tb)) B.pre w (List.mem_cons_of_mem _ h)
  have hown : s.vm.findClass RX7 = some m.cls := findClass_of_methodNamed B.named
  have hlocks := B.notSynchronized
  have hin : meth.name = "<init>" := (name_of_methodNamed B.named B.method).1
  subst hsz
  have hD := hD0.self (sz := s.heap.size)
  generalize hAe : va_A [(h0, .inr (7, [.int 0, .null, .null, .null, .null, .null, .null, .null, .int 0, .null, .null, .null]))] s.heap.size = A at hD ⊢
  have hA : ∀ q : Nat, s.heap.size ≤ q → A q := fun q h => by rw [← hAe]; exact Or.inr h
  have hS : va_S A s.heap s.heap [] := va_S.rf
  have hP : va_P (dC, dI) vwCl [(h0, .inr (7, [.int 0, .null, .null, .null, .null, .null, .null, .null, .int 0, .null, .null, .null]))] s.heap := hP
  have hl := lv_entry ([.ref h0]) (n := 1) (Nat.le_of_ble_eq_true rfl)
  rw [lg_entry_eq]
  generalize (lg_sl ([.ref h0]) ++ List.replicate (1 - (lg_sl ([.ref h0])).length) Slot.unset).toArray = ls at hl ⊢
  have hl : lv_has ls 1 [(0, .ref h0)] := hl
  refine lv_aload_n hx hb dX7_init_0 rfl (lv_at hl 0 rfl) ?_
  refine W.objInit hx hb hown (hts _ wd_340) (hts _ wd_30) (hts _ wd_obj) rfl (by rw [hml]; exact hl.1) rfl dX7_init_1 (Nat.le_of_ble_eq_true rfl) (Nat.le_of_ble_eq_true rfl) ?_
  refine W.eq (g2 := F0 m 4 ls []) rfl ?_
  refine lv_aload_n hx hb dX7_init_4 rfl (lv_at hl 0 rfl) ?_
  refine lv_sipush (v := 460) hx hb dX7_init_5 (by decide) ?_
  refine va_newa (D := (dC, dI)) (atype := .int) (a0 := (460, .inl (fun _ => 0))) hx hb (hts _ wd_121) rfl hK hP hD hS hA (fun _ => rfl) (by decide) (by decide) (by decide) (Nat.le_of_ble_eq_true rfl) (Nat.le_of_ble_eq_true rfl) dX7_init_8 (fun q1 k2 H hK hP hD hS => ?_)
  have hK : va_K (dC, dI) vwCl [(k2, .int)] s := hK
  have hP : va_P (dC, dI) vwCl [(h0, .inr (7, [.int 0, .null, .null, .null, .null, .null, .null, .null, .int 0, .null, .null, .null])), (q1, .inl (k2, 460, .inl (fun _ => 0)))] H := hP
  have hD : va_D A [(h0, .inr (7, [.int 0, .null, .null, .null, .null, .null, .null, .null, .int 0, .null, .null, .null])), (q1, .inl (k2, 460, .inl (fun _ => 0)))] := hD
  refine W.widen (k := 1) (n := 460) (Nat.le_of_ble_eq_true rfl) (Nat.le_of_ble_eq_true rfl) ?_
  refine va_putF (D := (dC, dI)) (ci := 7) (v := .ref q1) (ty := (tyX7 1)) (C := RX7) (T := TX7) (N := 12) hx hb hts in_X7 tyX7 tyX7_ok nmX7 hown hK hP hD hS 0 rfl rfl 1 (by decide) (hts _ wd_342) (fun _ h9 => h9) rfl hin rfl (tyX7_ok 1 (by decide)) rfl rfl (Nat.le_of_ble_eq_true rfl) dX7_init_10 (fun H locs hP hD hS => ?_)
  have hP : va_P (dC, dI) vwCl [(h0, .inr (7, [.int 0, .ref q1, .null, .null, .null, .null, .null, .null, .int 0, .null, .null, .null])), (q1, .inl (k2, 460, .inl (fun _ => 0)))] H := hP
  have hD : va_D A [(h0, .inr (7, [.int 0, .ref q1, .null, .null, .null, .null, .null, .null, .int 0, .null, .null, .null])), (q1, .inl (k2, 460, .inl (fun _ => 0)))] := hD
  refine lv_aload_n hx hb dX7_init_13 rfl (lv_at hl 0 rfl) ?_
  refine lv_sipush (v := 460) hx hb dX7_init_14 (by decide) ?_
  refine va_newa (D := (dC, dI)) (atype := .int) (a0 := (460, .inl (fun _ => 0))) hx hb (hts _ wd_121) rfl hK hP hD hS hA (fun _ => rfl) (by decide) (by decide) (by decide) (Nat.le_of_ble_eq_true rfl) (Nat.le_of_ble_eq_true rfl) dX7_init_17 (fun q3 k4 H hK hP hD hS => ?_)
  have hK : va_K (dC, dI) vwCl [(k2, .int), (k4, .int)] s := hK
  have hP : va_P (dC, dI) vwCl [(h0, .inr (7, [.int 0, .ref q1, .null, .null, .null, .null, .null, .null, .int 0, .null, .null, .null])), (q1, .inl (k2, 460, .inl (fun _ => 0))), (q3, .inl (k4, 460, .inl (fun _ => 0)))] H := hP
  have hD : va_D A [(h0, .inr (7, [.int 0, .ref q1, .null, .null, .null, .null, .null, .null, .int 0, .null, .null, .null])), (q1, .inl (k2, 460, .inl (fun _ => 0))), (q3, .inl (k4, 460, .inl (fun _ => 0)))] := hD
  refine W.widen (k := 2) (n := 920) (Nat.le_of_ble_eq_true rfl) (Nat.le_of_ble_eq_true rfl) ?_
  refine va_putF (D := (dC, dI)) (ci := 7) (v := .ref q3) (ty := (tyX7 2)) (C := RX7) (T := TX7) (N := 12) hx hb hts in_X7 tyX7 tyX7_ok nmX7 hown hK hP hD hS 0 rfl rfl 2 (by decide) (hts _ wd_345) (fun _ h9 => h9) rfl hin rfl (tyX7_ok 2 (by decide)) rfl rfl (Nat.le_of_ble_eq_true rfl) dX7_init_19 (fun H locs hP hD hS => ?_)
  have hP : va_P (dC, dI) vwCl [(h0, .inr (7, [.int 0, .ref q1, .ref q3, .null, .null, .null, .null, .null, .int 0, .null, .null, .null])), (q1, .inl (k2, 460, .inl (fun _ => 0))), (q3, .inl (k4, 460, .inl (fun _ => 0)))] H := hP
  have hD : va_D A [(h0, .inr (7, [.int 0, .ref q1, .ref q3, .null, .null, .null, .null, .null, .int 0, .null, .null, .null])), (q1, .inl (k2, 460, .inl (fun _ => 0))), (q3, .inl (k4, 460, .inl (fun _ => 0)))] := hD
  refine lv_aload_n hx hb dX7_init_22 rfl (lv_at hl 0 rfl) ?_
  refine lv_sipush (v := 460) hx hb dX7_init_23 (by decide) ?_
  refine va_newa (D := (dC, dI)) (atype := .int) (a0 := (460, .inl (fun _ => 0))) hx hb (hts _ wd_121) rfl hK hP hD hS hA (fun _ => rfl) (by decide) (by decide) (by decide) (Nat.le_of_ble_eq_true rfl) (Nat.le_of_ble_eq_true rfl) dX7_init_26 (fun q5 k6 H hK hP hD hS => ?_)
  have hK : va_K (dC, dI) vwCl [(k2, .int), (k4, .int), (k6, .int)] s := hK
  have hP : va_P (dC, dI) vwCl [(h0, .inr (7, [.int 0, .ref q1, .ref q3, .null, .null, .null, .null, .null, .int 0, .null, .null, .null])), (q1, .inl (k2, 460, .inl (fun _ => 0))), (q3, .inl (k4, 460, .inl (fun _ => 0))), (q5, .inl (k6, 460, .inl (fun _ => 0)))] H := hP
  have hD : va_D A [(h0, .inr (7, [.int 0, .ref q1, .ref q3, .null, .null, .null, .null, .null, .int 0, .null, .null, .null])), (q1, .inl (k2, 460, .inl (fun _ => 0))), (q3, .inl (k4, 460, .inl (fun _ => 0))), (q5, .inl (k6, 460, .inl (fun _ => 0)))] := hD
  refine W.widen (k := 3) (n := 1380) (Nat.le_of_ble_eq_true rfl) (Nat.le_of_ble_eq_true rfl) ?_
  refine va_putF (D := (dC, dI)) (ci := 7) (v := .ref q5) (ty := (tyX7 3)) (C := RX7) (T := TX7) (N := 12) hx hb hts in_X7 tyX7 tyX7_ok nmX7 hown hK hP hD hS 0 rfl rfl 3 (by decide) (hts _ wd_347) (fun _ h9 => h9) rfl hin rfl (tyX7_ok 3 (by decide)) rfl rfl (Nat.le_of_ble_eq_true rfl) dX7_init_28 (fun H locs hP hD hS => ?_)
  have hP : va_P (dC, dI) vwCl [(h0, .inr (7, [.int 0, .ref q1, .ref q3, .ref q5, .null, .null, .null, .null, .int 0, .null, .null, .null])), (q1, .inl (k2, 460, .inl (fun _ => 0))), (q3, .inl (k4, 460, .inl (fun _ => 0))), (q5, .inl (k6, 460, .inl (fun _ => 0)))] H := hP
  have hD : va_D A [(h0, .inr (7, [.int 0, .ref q1, .ref q3, .ref q5, .null, .null, .null, .null, .int 0, .null, .null, .null])), (q1, .inl (k2, 460, .inl (fun _ => 0))), (q3, .inl (k4, 460, .inl (fun _ => 0))), (q5, .inl (k6, 460, .inl (fun _ => 0)))] := hD
  refine lv_aload_n hx hb dX7_init_31 rfl (lv_at hl 0 rfl) ?_
  refine lv_sipush (v := 460) hx hb dX7_init_32 (by decide) ?_
  refine va_newa (D := (dC, dI)) (atype := .int) (a0 := (460, .inl (fun _ => 0))) hx hb (hts _ wd_121) rfl hK hP hD hS hA (fun _ => rfl) (by decide) (by decide) (by decide) (Nat.le_of_ble_eq_true rfl) (Nat.le_of_ble_eq_true rfl) dX7_init_35 (fun q7 k8 H hK hP hD hS => ?_)
  have hK : va_K (dC, dI) vwCl [(k2, .int), (k4, .int), (k6, .int), (k8, .int)] s := hK
  have hP : va_P (dC, dI) vwCl [(h0, .inr (7, [.int 0, .ref q1, .ref q3, .ref q5, .null, .null, .null, .null, .int 0, .null, .null, .null])), (q1, .inl (k2, 460, .inl (fun _ => 0))), (q3, .inl (k4, 460, .inl (fun _ => 0))), (q5, .inl (k6, 460, .inl (fun _ => 0))), (q7, .inl (k8, 460, .inl (fun _ => 0)))] H := hP
  have hD : va_D A [(h0, .inr (7, [.int 0, .ref q1, .ref q3, .ref q5, .null, .null, .null, .null, .int 0, .null, .null, .null])), (q1, .inl (k2, 460, .inl (fun _ => 0))), (q3, .inl (k4, 460, .inl (fun _ => 0))), (q5, .inl (k6, 460, .inl (fun _ => 0))), (q7, .inl (k8, 460, .inl (fun _ => 0)))] := hD
  refine W.widen (k := 4) (n := 1840) (Nat.le_of_ble_eq_true rfl) (Nat.le_of_ble_eq_true rfl) ?_
  refine va_putF (D := (dC, dI)) (ci := 7) (v := .ref q7) (ty := (tyX7 4)) (C := RX7) (T := TX7) (N := 12) hx hb hts in_X7 tyX7 tyX7_ok nmX7 hown hK hP hD hS 0 rfl rfl 4 (by decide) (hts _ wd_349) (fun _ h9 => h9) rfl hin rfl (tyX7_ok 4 (by decide)) rfl rfl (Nat.le_of_ble_eq_true rfl) dX7_init_37 (fun H locs hP hD hS => ?_)
  have hP : va_P (dC, dI) vwCl [(h0, .inr (7, [.int 0, .ref q1, .ref q3, .ref q5, .ref q7, .null, .null, .null, .int 0, .null, .null, .null])), (q1, .inl (k2, 460, .inl (fun _ => 0))), (q3, .inl (k4, 460, .inl (fun _ => 0))), (q5, .inl (k6, 460, .inl (fun _ => 0))), (q7, .inl (k8, 460, .inl (fun _ => 0)))] H := hP
  have hD : va_D A [(h0, .inr (7, [.int 0, .ref q1, .ref q3, .ref q5, .ref q7, .null, .null, .null, .int 0, .null, .null, .null])), (q1, .inl (k2, 460, .inl (fun _ => 0))), (q3, .inl (k4, 460, .inl (fun _ => 0))), (q5, .inl (k6, 460, .inl (fun _ => 0))), (q7, .inl (k8, 460, .inl (fun _ => 0)))] := hD
  refine lv_aload_n hx hb dX7_init_40 rfl (lv_at hl 0 rfl) ?_
  refine lv_sipush (v := 460) hx hb dX7_init_41 (by decide) ?_
  refine va_newa (D := (dC, dI)) (atype := .int) (a0 := (460, .inl (fun _ => 0))) hx hb (hts _ wd_121) rfl hK hP hD hS hA (fun _ => rfl) (by decide) (by decide) (by decide) (Nat.le_of_ble_eq_true rfl) (Nat.le_of_ble_eq_true rfl) dX7_init_44 (fun q9 k10 H hK hP hD hS => ?_)
  have hK : va_K (dC, dI) vwCl [(k2, .int), (k4, .int), (k6, .int), (k8, .int), (k10, .int)] s := hK
  have hP : va_P (dC, dI) vwCl [(h0, .inr (7, [.int 0, .ref q1, .ref q3, .ref q5, .ref q7, .null, .null, .null, .int 0, .null, .null, .null])), (q1, .inl (k2, 460, .inl (fun _ => 0))), (q3, .inl (k4, 460, .inl (fun _ => 0))), (q5, .inl (k6, 460, .inl (fun _ => 0))), (q7, .inl (k8, 460, .inl (fun _ => 0))), (q9, .inl (k10, 460, .inl (fun _ => 0)))] H := hP
  have hD : va_D A [(h0, .inr (7, [.int 0, .ref q1, .ref q3, .ref q5, .ref q7, .null, .null, .null, .int 0, .null, .null, .null])), (q1, .inl (k2, 460, .inl (fun _ => 0))), (q3, .inl (k4, 460, .inl (fun _ => 0))), (q5, .inl (k6, 460, .inl (fun _ => 0))), (q7, .inl (k8, 460, .inl (fun _ => 0))), (q9, .inl (k10, 460, .inl (fun _ => 0)))] := hD
  refine W.widen (k := 5) (n := 2300) (Nat.le_of_ble_eq_true rfl) (Nat.le_of_ble_eq_true rfl) ?_
  refine va_putF (D := (dC, dI)) (ci := 7) (v := .ref q9) (ty := (tyX7 5)) (C := RX7) (T := TX7) (N := 12) hx hb hts in_X7 tyX7 tyX7_ok nmX7 hown hK hP hD hS 0 rfl rfl 5 (by decide) (hts _ wd_352) (fun _ h9 => h9) rfl hin rfl (tyX7_ok 5 (by decide)) rfl rfl (Nat.le_of_ble_eq_true rfl) dX7_init_46 (fun H locs hP hD hS => ?_)
  have hP : va_P (dC, dI) vwCl [(h0, .inr (7, [.int 0, .ref q1, .ref q3, .ref q5, .ref q7, .ref q9, .null, .null, .int 0, .null, .null, .null])), (q1, .inl (k2, 460, .inl (fun _ => 0))), (q3, .inl (k4, 460, .inl (fun _ => 0))), (q5, .inl (k6, 460, .inl (fun _ => 0))), (q7, .inl (k8, 460, .inl (fun _ => 0))), (q9, .inl (k10, 460, .inl (fun _ => 0)))] H := hP
  have hD : va_D A [(h0, .inr (7, [.int 0, .ref q1, .ref q3, .ref q5, .ref q7, .ref q9, .null, .null, .int 0, .null, .null, .null])), (q1, .inl (k2, 460, .inl (fun _ => 0))), (q3, .inl (k4, 460, .inl (fun _ => 0))), (q5, .inl (k6, 460, .inl (fun _ => 0))), (q7, .inl (k8, 460, .inl (fun _ => 0))), (q9, .inl (k10, 460, .inl (fun _ => 0)))] := hD
  refine lv_aload_n hx hb dX7_init_49 rfl (lv_at hl 0 rfl) ?_
  refine lv_sipush (v := 460) hx hb dX7_init_50 (by decide) ?_
  refine va_newa (D := (dC, dI)) (atype := .int) (a0 := (460, .inl (fun _ => 0))) hx hb (hts _ wd_121) rfl hK hP hD hS hA (fun _ => rfl) (by decide) (by decide) (by decide) (Nat.le_of_ble_eq_true rfl) (Nat.le_of_ble_eq_true rfl) dX7_init_53 (fun q11 k12 H hK hP hD hS => ?_)
  have hK : va_K (dC, dI) vwCl [(k2, .int), (k4, .int), (k6, .int), (k8, .int), (k10, .int), (k12, .int)] s := hK
  have hP : va_P (dC, dI) vwCl [(h0, .inr (7, [.int 0, .ref q1, .ref q3, .ref q5, .ref q7, .ref q9, .null, .null, .int 0, .null, .null, .null])), (q1, .inl (k2, 460, .inl (fun _ => 0))), (q3, .inl (k4, 460, .inl (fun _ => 0))), (q5, .inl (k6, 460, .inl (fun _ => 0))), (q7, .inl (k8, 460, .inl (fun _ => 0))), (q9, .inl (k10, 460, .inl (fun _ => 0))), (q11, .inl (k12, 460, .inl (fun _ => 0)))] H := hP
  have hD : va_D A [(h0, .inr (7, [.int 0, .ref q1, .ref q3, .ref q5, .ref q7, .ref q9, .null, .null, .int 0, .null, .null, .null])), (q1, .inl (k2, 460, .inl (fun _ => 0))), (q3, .inl (k4, 460, .inl (fun _ => 0))), (q5, .inl (k6, 460, .inl (fun _ => 0))), (q7, .inl (k8, 460, .inl (fun _ => 0))), (q9, .inl (k10, 460, .inl (fun _ => 0))), (q11, .inl (k12, 460, .inl (fun _ => 0)))] := hD
  refine W.widen (k := 6) (n := 2760) (Nat.le_of_ble_eq_true rfl) (Nat.le_of_ble_eq_true rfl) ?_
  refine va_putF (D := (dC, dI)) (ci := 7) (v := .ref q11) (ty := (tyX7 6)) (C := RX7) (T := TX7) (N := 12) hx hb hts in_X7 tyX7 tyX7_ok nmX7 hown hK hP hD hS 0 rfl rfl 6 (by decide) (hts _ wd_356) (fun _ h9 => h9) rfl hin rfl (tyX7_ok 6 (by decide)) rfl rfl (Nat.le_of_ble_eq_true rfl) dX7_init_55 (fun H locs hP hD hS => ?_)
  have hP : va_P (dC, dI) vwCl [(h0, .inr (7, [.int 0, .ref q1, .ref q3, .ref q5, .ref q7, .ref q9, .ref q11, .null, .int 0, .null, .null, .null])), (q1, .inl (k2, 460, .inl (fun _ => 0))), (q3, .inl (k4, 460, .inl (fun _ => 0))), (q5, .inl (k6, 460, .inl (fun _ => 0))), (q7, .inl (k8, 460, .inl (fun _ => 0))), (q9, .inl (k10, 460, .inl (fun _ => 0))), (q11, .inl (k12, 460, .inl (fun _ => 0)))] H := hP
  have hD : va_D A [(h0, .inr (7, [.int 0, .ref q1, .ref q3, .ref q5, .ref q7, .ref q9, .ref q11, .null, .int 0, .null, .null, .null])), (q1, .inl (k2, 460, .inl (fun _ => 0))), (q3, .inl (k4, 460, .inl (fun _ => 0))), (q5, .inl (k6, 460, .inl (fun _ => 0))), (q7, .inl (k8, 460, .inl (fun _ => 0))), (q9, .inl (k10, 460, .inl (fun _ => 0))), (q11, .inl (k12, 460, .inl (fun _ => 0)))] := hD
  refine lv_aload_n hx hb dX7_init_58 rfl (lv_at hl 0 rfl) ?_
  refine lv_sipush (v := 460) hx hb dX7_init_59 (by decide) ?_
  refine va_newa (D := (dC, dI)) (atype := .int) (a0 := (460, .inl (fun _ => 0))) hx hb (hts _ wd_121) rfl hK hP hD hS hA (fun _ => rfl) (by decide) (by decide) (by decide) (Nat.le_of_ble_eq_true rfl) (Nat.le_of_ble_eq_true rfl) dX7_init_62 (fun q13 k14 H hK hP hD hS => ?_)
  have hK : va_K (dC, dI) vwCl [(k2, .int), (k4, .int), (k6, .int), (k8, .int), (k10, .int), (k12, .int), (k14, .int)] s := hK
  have hP : va_P (dC, dI) vwCl [(h0, .inr (7, [.int 0, .ref q1, .ref q3, .ref q5, .ref q7, .ref q9, .ref q11, .null, .int 0, .null, .null, .null])), (q1, .inl (k2, 460, .inl (fun _ => 0))), (q3, .inl (k4, 460, .inl (fun _ => 0))), (q5, .inl (k6, 460, .inl (fun _ => 0))), (q7, .inl (k8, 460, .inl (fun _ => 0))), (q9, .inl (k10, 460, .inl (fun _ => 0))), (q11, .inl (k12, 460, .inl (fun _ => 0))), (q13, .inl (k14, 460, .inl (fun _ => 0)))] H := hP
  have hD : va_D A [(h0, .inr (7, [.int 0, .ref q1, .ref q3, .ref q5, .ref q7, .ref q9, .ref q11, .null, .int 0, .null, .null, .null])), (q1, .inl (k2, 460, .inl (fun _ => 0))), (q3, .inl (k4, 460, .inl (fun _ => 0))), (q5, .inl (k6, 460, .inl (fun _ => 0))), (q7, .inl (k8, 460, .inl (fun _ => 0))), (q9, .inl (k10, 460, .inl (fun _ => 0))), (q11, .inl (k12, 460, .inl (fun _ => 0))), (q13, .inl (k14, 460, .inl (fun _ => 0)))] := hD
  refine W.widen (k := 7) (n := 3220) (Nat.le_of_ble_eq_true rfl) (Nat.le_of_ble_eq_true rfl) ?_
  refine va_putF (D := (dC, dI)) (ci := 7) (v := .ref q13) (ty := (tyX7 7)) (C := RX7) (T := TX7) (N := 12) hx hb hts in_X7 tyX7 tyX7_ok nmX7 hown hK hP hD hS 0 rfl rfl 7 (by decide) (hts _ wd_360) (fun _ h9 => h9) rfl hin rfl (tyX7_ok 7 (by decide)) rfl rfl (Nat.le_of_ble_eq_true rfl) dX7_init_64 (fun H locs hP hD hS => ?_)
  have hP : va_P (dC, dI) vwCl [(h0, .inr (7, [.int 0, .ref q1, .ref q3, .ref q5, .ref q7, .ref q9, .ref q11, .ref q13, .int 0, .null, .null, .null])), (q1, .inl (k2, 460, .inl (fun _ => 0))), (q3, .inl (k4, 460, .inl (fun _ => 0))), (q5, .inl (k6, 460, .inl (fun _ => 0))), (q7, .inl (k8, 460, .inl (fun _ => 0))), (q9, .inl (k10, 460, .inl (fun _ => 0))), (q11, .inl (k12, 460, .inl (fun _ => 0))), (q13, .inl (k14, 460, .inl (fun _ => 0)))] H := hP
  have hD : va_D A [(h0, .inr (7, [.int 0, .ref q1, .ref q3, .ref q5, .ref q7, .ref q9, .ref q11, .ref q13, .int 0, .null, .null, .null])), (q1, .inl (k2, 460, .inl (fun _ => 0))), (q3, .inl (k4, 460, .inl (fun _ => 0))), (q5, .inl (k6, 460, .inl (fun _ => 0))), (q7, .inl (k8, 460, .inl (fun _ => 0))), (q9, .inl (k10, 460, .inl (fun _ => 0))), (q11, .inl (k12, 460, .inl (fun _ => 0))), (q13, .inl (k14, 460, .inl (fun _ => 0)))] := hD
  refine lv_aload_n hx hb dX7_init_67 rfl (lv_at hl 0 rfl) ?_
  refine lv_sipush (v := 460) hx hb dX7_init_68 (by decide) ?_
  refine va_newa (D := (dC, dI)) (atype := .int) (a0 := (460, .inl (fun _ => 0))) hx hb (hts _ wd_121) rfl hK hP hD hS hA (fun _ => rfl) (by decide) (by decide) (by decide) (Nat.le_of_ble_eq_true rfl) (Nat.le_of_ble_eq_true rfl) dX7_init_71 (fun q15 k16 H hK hP hD hS => ?_)
  have hK : va_K (dC, dI) vwCl [(k2, .int), (k4, .int), (k6, .int), (k8, .int), (k10, .int), (k12, .int), (k14, .int), (k16, .int)] s := hK
  have hP : va_P (dC, dI) vwCl [(h0, .inr (7, [.int 0, .ref q1, .ref q3, .ref q5, .ref q7, .ref q9, .ref q11, .ref q13, .int 0, .null, .null, .null])), (q1, .inl (k2, 460, .inl (fun _ => 0))), (q3, .inl (k4, 460, .inl (fun _ => 0))), (q5, .inl (k6, 460, .inl (fun _ => 0))), (q7, .inl (k8, 460, .inl (fun _ => 0))), (q9, .inl (k10, 460, .inl (fun _ => 0))), (q11, .inl (k12, 460, .inl (fun _ => 0))), (q13, .inl (k14, 460, .inl (fun _ => 0))), (q15, .inl (k16, 460, .inl (fun _ => 0)))] H := hP
  have hD : va_D A [(h0, .inr (7, [.int 0, .ref q1, .ref q3, .ref q5, .ref q7, .ref q9, .ref q11, .ref q13, .int 0, .null, .null, .null])), (q1, .inl (k2, 460, .inl (fun _ => 0))), (q3, .inl (k4, 460, .inl (fun _ => 0))), (q5, .inl (k6, 460, .inl (fun _ => 0))), (q7, .inl (k8, 460, .inl (fun _ => 0))), (q9, .inl (k10, 460, .inl (fun _ => 0))), (q11, .inl (k12, 460, .inl (fun _ => 0))), (q13, .inl (k14, 460, .inl (fun _ => 0))), (q15, .inl (k16, 460, .inl (fun _ => 0)))] := hD
  refine W.widen (k := 8) (n := 3680) (Nat.le_of_ble_eq_true rfl) (Nat.le_of_ble_eq_true rfl) ?_
  refine va_putF (D := (dC, dI)) (ci := 7) (v := .ref q15) (ty := (tyX7 9)) (C := RX7) (T := TX7) (N := 12) hx hb hts in_X7 tyX7 tyX7_ok nmX7 hown hK hP hD hS 0 rfl rfl 9 (by decide) (hts _ wd_362) (fun _ h9 => h9) rfl hin rfl (tyX7_ok 9 (by decide)) rfl rfl (Nat.le_of_ble_eq_true rfl) dX7_init_73 (fun H locs hP hD hS => ?_)
  have hP : va_P (dC, dI) vwCl [(h0, .inr (7, [.int 0, .ref q1, .ref q3, .ref q5, .ref q7, .ref q9, .ref q11, .ref q13, .int 0, .ref q15, .null, .null])), (q1, .inl (k2, 460, .inl (fun _ => 0))), (q3, .inl (k4, 460, .inl (fun _ => 0))), (q5, .inl (k6, 460, .inl (fun _ => 0))), (q7, .inl (k8, 460, .inl (fun _ => 0))), (q9, .inl (k10, 460, .inl (fun _ => 0))), (q11, .inl (k12, 460, .inl (fun _ => 0))), (q13, .inl (k14, 460, .inl (fun _ => 0))), (q15, .inl (k16, 460, .inl (fun _ => 0)))] H := hP
  have hD : va_D A [(h0, .inr (7, [.int 0, .ref q1, .ref q3, .ref q5, .ref q7, .ref q9, .ref q11, .ref q13, .int 0, .ref q15, .null, .null])), (q1, .inl (k2, 460, .inl (fun _ => 0))), (q3, .inl (k4, 460, .inl (fun _ => 0))), (q5, .inl (k6, 460, .inl (fun _ => 0))), (q7, .inl (k8, 460, .inl (fun _ => 0))), (q9, .inl (k10, 460, .inl (fun _ => 0))), (q11, .inl (k12, 460, .inl (fun _ => 0))), (q13, .inl (k14, 460, .inl (fun _ => 0))), (q15, .inl (k16, 460, .inl (fun _ => 0)))] := hD
  refine lv_aload_n hx hb dX7_init_76 rfl (lv_at hl 0 rfl) ?_
  refine lv_sipush (v := 460) hx hb dX7_init_77 (by decide) ?_
  refine va_newa (D := (dC, dI)) (atype := .int) (a0 := (460, .inl (fun _ => 0))) hx hb (hts _ wd_121) rfl hK hP hD hS hA (fun _ => rfl) (by decide) (by decide) (by decide) (Nat.le_of_ble_eq_true rfl) (Nat.le_of_ble_eq_true rfl) dX7_init_80 (fun q17 k18 H hK hP hD hS => ?_)
  have hK : va_K (dC, dI) vwCl [(k2, .int), (k4, .int), (k6, .int), (k8, .int), (k10, .int), (k12, .int), (k14, .int), (k16, .int), (k18, .int)] s := hK
  have hP : va_P (dC, dI) vwCl [(h0, .inr (7, [.int 0, .ref q1, .ref q3, .ref q5, .ref q7, .ref q9, .ref q11, .ref q13, .int 0, .ref q15, .null, .null])), (q1, .inl (k2, 460, .inl (fun _ => 0))), (q3, .inl (k4, 460, .inl (fun _ => 0))), (q5, .inl (k6, 460, .inl (fun _ => 0))), (q7, .inl (k8, 460, .inl (fun _ => 0))), (q9, .inl (k10, 460, .inl (fun _ => 0))), (q11, .inl (k12, 460, .inl (fun _ => 0))), (q13, .inl (k14, 460, .inl (fun _ => 0))), (q15, .inl (k16, 460, .inl (fun _ => 0))), (q17, .inl (k18, 460, .inl (fun _ => 0)))] H := hP
  have hD : va_D A [(h0, .inr (7, [.int 0, .ref q1, .ref q3, .ref q5, .ref q7, .ref q9, .ref q11, .ref q13, .int 0, .ref q15, .null, .null])), (q1, .inl (k2, 460, .inl (fun _ => 0))), (q3, .inl (k4, 460, .inl (fun _ => 0))), (q5, .inl (k6, 460, .inl (fun _ => 0))), (q7, .inl (k8, 460, .inl (fun _ => 0))), (q9, .inl (k10, 460, .inl (fun _ => 0))), (q11, .inl (k12, 460, .inl (fun _ => 0))), (q13, .inl (k14, 460, .inl (fun _ => 0))), (q15, .inl (k16, 460, .inl (fun _ => 0))), (q17, .inl (k18, 460, .inl (fun _ => 0)))] := hD
  refine W.widen (k := 9) (n := 4140) (Nat.le_of_ble_eq_true rfl) (Nat.le_of_ble_eq_true rfl) ?_
  refine va_putF (D := (dC, dI)) (ci := 7) (v := .ref q17) (ty := (tyX7 10)) (C := RX7) (T := TX7) (N := 12) hx hb hts in_X7 tyX7 tyX7_ok nmX7 hown hK hP hD hS 0 rfl rfl 10 (by decide) (hts _ wd_365) (fun _ h9 => h9) rfl hin rfl (tyX7_ok 10 (by decide)) rfl rfl (Nat.le_of_ble_eq_true rfl) dX7_init_82 (fun H locs hP hD hS => ?_)
  have hP : va_P (dC, dI) vwCl [(h0, .inr (7, [.int 0, .ref q1, .ref q3, .ref q5, .ref q7, .ref q9, .ref q11, .ref q13, .int 0, .ref q15, .ref q17, .null])), (q1, .inl (k2, 460, .inl (fun _ => 0))), (q3, .inl (k4, 460, .inl (fun _ => 0))), (q5, .inl (k6, 460, .inl (fun _ => 0))), (q7, .inl (k8, 460, .inl (fun _ => 0))), (q9, .inl (k10, 460, .inl (fun _ => 0))), (q11, .inl (k12, 460, .inl (fun _ => 0))), (q13, .inl (k14, 460, .inl (fun _ => 0))), (q15, .inl (k16, 460, .inl (fun _ => 0))), (q17, .inl (k18, 460, .inl (fun _ => 0)))] H := hP
  have hD : va_D A [(h0, .inr (7, [.int 0, .ref q1, .ref q3, .ref q5, .ref q7, .ref q9, .ref q11, .ref q13, .int 0, .ref q15, .ref q17, .null])), (q1, .inl (k2, 460, .inl (fun _ => 0))), (q3, .inl (k4, 460, .inl (fun _ => 0))), (q5, .inl (k6, 460, .inl (fun _ => 0))), (q7, .inl (k8, 460, .inl (fun _ => 0))), (q9, .inl (k10, 460, .inl (fun _ => 0))), (q11, .inl (k12, 460, .inl (fun _ => 0))), (q13, .inl (k14, 460, .inl (fun _ => 0))), (q15, .inl (k16, 460, .inl (fun _ => 0))), (q17, .inl (k18, 460, .inl (fun _ => 0)))] := hD
  refine lv_aload_n hx hb dX7_init_85 rfl (lv_at hl 0 rfl) ?_
  refine lv_sipush (v := 460) hx hb dX7_init_86 (by decide) ?_
  refine va_newa (D := (dC, dI)) (atype := .int) (a0 := (460, .inl (fun _ => 0))) hx hb (hts _ wd_121) rfl hK hP hD hS hA (fun _ => rfl) (by decide) (by decide) (by decide) (Nat.le_of_ble_eq_true rfl) (Nat.le_of_ble_eq_true rfl) dX7_init_89 (fun q19 k20 H hK hP hD hS => ?_)
  have hK : va_K (dC, dI) vwCl [(k2, .int), (k4, .int), (k6, .int), (k8, .int), (k10, .int), (k12, .int), (k14, .int), (k16, .int), (k18, .int), (k20, .int)] s := hK
  have hP : va_P (dC, dI) vwCl [(h0, .inr (7, [.int 0, .ref q1, .ref q3, .ref q5, .ref q7, .ref q9, .ref q11, .ref q13, .int 0, .ref q15, .ref q17, .null])), (q1, .inl (k2, 460, .inl (fun _ => 0))), (q3, .inl (k4, 460, .inl (fun _ => 0))), (q5, .inl (k6, 460, .inl (fun _ => 0))), (q7, .inl (k8, 460, .inl (fun _ => 0))), (q9, .inl (k10, 460, .inl (fun _ => 0))), (q11, .inl (k12, 460, .inl (fun _ => 0))), (q13, .inl (k14, 460, .inl (fun _ => 0))), (q15, .inl (k16, 460, .inl (fun _ => 0))), (q17, .inl (k18, 460, .inl (fun _ => 0))), (q19, .inl (k20, 460, .inl (fun _ => 0)))] H := hP
  have hD : va_D A [(h0, .inr (7, [.int 0, .ref q1, .ref q3, .ref q5, .ref q7, .ref q9, .ref q11, .ref q13, .int 0, .ref q15, .ref q17, .null])), (q1, .inl (k2, 460, .inl (fun _ => 0))), (q3, .inl (k4, 460, .inl (fun _ => 0))), (q5, .inl (k6, 460, .inl (fun _ => 0))), (q7, .inl (k8, 460, .inl (fun _ => 0))), (q9, .inl (k10, 460, .inl (fun _ => 0))), (q11, .inl (k12, 460, .inl (fun _ => 0))), (q13, .inl (k14, 460, .inl (fun _ => 0))), (q15, .inl (k16, 460, .inl (fun _ => 0))), (q17, .inl (k18, 460, .inl (fun _ => 0))), (q19, .inl (k20, 460, .inl (fun _ => 0)))] := hD
  refine W.widen (k := 10) (n := 4600) (Nat.le_of_ble_eq_true rfl) (Nat.le_of_ble_eq_true rfl) ?_
  refine va_putF (D := (dC, dI)) (ci := 7) (v := .ref q19) (ty := (tyX7 11)) (C := RX7) (T := TX7) (N := 12) hx hb hts in_X7 tyX7 tyX7_ok nmX7 hown hK hP hD hS 0 rfl rfl 11 (by decide) (hts _ wd_367) (fun _ h9 => h9) rfl hin rfl (tyX7_ok 11 (by decide)) rfl rfl (Nat.le_of_ble_eq_true rfl) dX7_init_91 (fun H locs hP hD hS => ?_)
  have hP : va_P (dC, dI) vwCl [(h0, .inr (7, [.int 0, .ref q1, .ref q3, .ref q5, .ref q7, .ref q9, .ref q11, .ref q13, .int 0, .ref q15, .ref q17, .ref q19])), (q1, .inl (k2, 460, .inl (fun _ => 0))), (q3, .inl (k4, 460, .inl (fun _ => 0))), (q5, .inl (k6, 460, .inl (fun _ => 0))), (q7, .inl (k8, 460, .inl (fun _ => 0))), (q9, .inl (k10, 460, .inl (fun _ => 0))), (q11, .inl (k12, 460, .inl (fun _ => 0))), (q13, .inl (k14, 460, .inl (fun _ => 0))), (q15, .inl (k16, 460, .inl (fun _ => 0))), (q17, .inl (k18, 460, .inl (fun _ => 0))), (q19, .inl (k20, 460, .inl (fun _ => 0)))] H := hP
  have hD : va_D A [(h0, .inr (7, [.int 0, .ref q1, .ref q3, .ref q5, .ref q7, .ref q9, .ref q11, .ref q13, .int 0, .ref q15, .ref q17, .ref q19])), (q1, .inl (k2, 460, .inl (fun _ => 0))), (q3, .inl (k4, 460, .inl (fun _ => 0))), (q5, .inl (k6, 460, .inl (fun _ => 0))), (q7, .inl (k8, 460, .inl (fun _ => 0))), (q9, .inl (k10, 460, .inl (fun _ => 0))), (q11, .inl (k12, 460, .inl (fun _ => 0))), (q13, .inl (k14, 460, .inl (fun _ => 0))), (q15, .inl (k16, 460, .inl (fun _ => 0))), (q17, .inl (k18, 460, .inl (fun _ => 0))), (q19, .inl (k20, 460, .inl (fun _ => 0)))] := hD
  have hP9 := hP.sub (ws' := [(h0, .inr (7, [.int 0, .ref q1, .ref q3, .ref q5, .ref q7, .ref q9, .ref q11, .ref q13, .int 0, .ref q15, .ref q17, .ref q19])), (q1, .inl (k2, 460, .inl (fun _ => 0))), (q3, .inl (k4, 460, .inl (fun _ => 0))), (q5, .inl (k6, 460, .inl (fun _ => 0))), (q7, .inl (k8, 460, .inl (fun _ => 0))), (q9, .inl (k10, 460, .inl (fun _ => 0))), (q11, .inl (k12, 460, .inl (fun _ => 0))), (q13, .inl (k14, 460, .inl (fun _ => 0))), (q15, .inl (k16, 460, .inl (fun _ => 0))), (q17, .inl (k18, 460, .inl (fun _ => 0))), (q19, .inl (k20, 460, .inl (fun _ => 0)))]) [0, 1, 2, 3, 4, 5, 6, 7, 8, 9, 10] rfl
  have hD9 := hD.sub (ws' := [(h0, .inr (7, [.int 0, .ref q1, .ref q3, .ref q5, .ref q7, .ref q9, .ref q11, .ref q13, .int 0, .ref q15, .ref q17, .ref q19])), (q1, .inl (k2, 460, .inl (fun _ => 0))), (q3, .inl (k4, 460, .inl (fun _ => 0))), (q5, .inl (k6, 460, .inl (fun _ => 0))), (q7, .inl (k8, 460, .inl (fun _ => 0))), (q9, .inl (k10, 460, .inl (fun _ => 0))), (q11, .inl (k12, 460, .inl (fun _ => 0))), (q13, .inl (k14, 460, .inl (fun _ => 0))), (q15, .inl (k16, 460, .inl (fun _ => 0))), (q17, .inl (k18, 460, .inl (fun _ => 0))), (q19, .inl (k20, 460, .inl (fun _ => 0)))]) [0, 1, 2, 3, 4, 5, 6, 7, 8, 9, 10] (by decide) rfl
  have hK9 := hK.sub (tys' := [(k2, .int), (k4, .int), (k6, .int), (k8, .int), (k10, .int), (k12, .int), (k14, .int), (k16, .int), (k18, .int), (k20, .int)]) [0, 1, 2, 3, 4, 5, 6, 7, 8, 9] rfl
  refine W.widen (k := 10) (n := 4600) (Nat.le_of_ble_eq_true rfl) (Nat.le_of_ble_eq_true rfl) ?_
  exact W.vret hx hb hr (fun t ht hW => ⟨⟨(), rfl, trivial, (fun k => [q1, q3, q5, q7, q9, q11, q13, q15, q17, q19].getD k 0), (fun k => [k2, k4, k6, k8, k10, k12, k14, k16, k18, k20].getD k 0), by rw [ht]; exact hP9, va_K.moved hW.alike hK9, hD9⟩, hS.F ht⟩) hS.2.2 dX7_init_94
set_option maxHeartbeats 4000000 in
set_option maxRecDepth 100000 in
theorem ct_X8_init (l : Launch) (dC : Nat → ClassId) (dI : Nat → Nat → Nat) (h0 : Nat) (sz : Nat) : Met l yX8_init (.code yX8_init cX8_init 1 none :: tb) ({ frames := 1, cells := 2, slots := 16128, locals := 12 }) (va_Pc [.ref h0] (fun U => U.heap.size = sz ∧ va_P (dC, dI) vwCl [(h0, .inr (8, [.null, .null, .int 0, .int 0, .null]))] U.heap ∧ va_K (dC, dI) vwCl [] U ∧ va_D (fun _ => True) [(h0, .inr (8, [.null, .null, .int 0, .int 0, .null]))])) (va_Qv (fun (_ : Unit) => True) (fun (_ : Unit) t => ∃ (q : Nat → Nat), ∃ (kc : Nat → ClassId), va_P (dC, dI) vwCl [(h0, .inr (8, [.ref (q 0), .ref (q 1), .int 0, .int 0, .null])), (q 0, .inl (kc 0, 8064, .inl (fun _ => 0))), (q 1, .inl (kc 1, 8064, .inl (fun _ => 0)))] t.heap ∧ va_K (dC, dI) vwCl [(kc 0, .int), (kc 1, .int)] t ∧ va_D (va_A [(h0, .inr (8, [.null, .null, .int 0, .int 0, .null]))] sz) [(h0, .inr (8, [.ref (q 0), .ref (q 1), .int 0, .int 0, .null])), (q 0, .inl (kc 0, 8064, .inl (fun _ => 0))), (q 1, .inl (kc 1, 8064, .inl (fun _ => 0)))]) (va_A [(h0, .inr (8, [.null, .null, .int 0, .int 0, .null]))] sz)) 2 16128 (va_A [(h0, .inr (8, [.null, .null, .int 0, .int 0, .null]))] sz) := by
  refine Met.ofW (cc := cX8_init) (maxL := 1) (ret := none) (by decide) rfl ?_
  intro p e s m args below meth c s₁ B hml hv
  obtain ⟨rfl, hsz, hP, hK, hD0⟩ := hv
  have hx := B.exec
  have hb := B.bytes
  have hr := B.returns
  have hts : ∀ w ∈ tb, w.before _ s = true := fun w h => atoms_spec (ws := (.code yX8_init cX8_init 1 none :: tb)) B.pre w (List.mem_cons_of_mem _ h)
  have hown : s.vm.findClass RX8 = some m.cls := findClass_of_methodNamed B.named
  have hlocks := B.notSynchronized
  have hin : meth.name = "<init>" := (name_of_methodNamed B.named B.method).1
  subst hsz
  have hD := hD0.self (sz := s.heap.size)
  generalize hAe : va_A [(h0, .inr (8, [.null, .null, .int 0, .int 0, .null]))] s.heap.size = A at hD ⊢
  have hA : ∀ q : Nat, s.heap.size ≤ q → A q := fun q h => by rw [← hAe]; exact Or.inr h
  have hS : va_S A s.heap s.heap [] := va_S.rf
  have hP : va_P (dC, dI) vwCl [(h0, .inr (8, [.null, .null, .int 0, .int 0, .null]))] s.heap := hP
  have hl := lv_entry ([.ref h0]) (n := 1) (Nat.le_of_ble_eq_true rfl)
  rw [lg_entry_eq]
  generalize (lg_sl ([.ref h0]) ++ List.replicate (1 - (lg_sl ([.ref h0])).length) Slot.unset).toArray = ls at hl ⊢
  have hl : lv_has ls 1 [(0, .ref h0)] := hl
  refine lv_aload_n hx hb dX8_init_0 rfl (lv_at hl 0 rfl) ?_
  refine W.objInit hx hb hown (hts _ wd_176) (hts _ wd_30) (hts _ wd_obj) rfl (by rw [hml]; exact hl.1) rfl dX8_init_1 (Nat.le_of_ble_eq_true rfl) (Nat.le_of_ble_eq_true rfl) ?_
  refine W.eq (g2 := F0 m 4 ls []) rfl ?_
  refine lv_aload_n hx hb dX8_init_4 rfl (lv_at hl 0 rfl) ?_
  refine lv_sipush (v := 8064) hx hb dX8_init_5 (by decide) ?_
  refine va_newa (D := (dC, dI)) (atype := .int) (a0 := (8064, .inl (fun _ => 0))) hx hb (hts _ wd_121) rfl hK hP hD hS hA (fun _ => rfl) (by decide) (by decide) (by decide) (Nat.le_of_ble_eq_true rfl) (Nat.le_of_ble_eq_true rfl) dX8_init_8 (fun q1 k2 H hK hP hD hS => ?_)
  have hK : va_K (dC, dI) vwCl [(k2, .int)] s := hK
  have hP : va_P (dC, dI) vwCl [(h0, .inr (8, [.null, .null, .int 0, .int 0, .null])), (q1, .inl (k2, 8064, .inl (fun _ => 0)))] H := hP
  have hD : va_D A [(h0, .inr (8, [.null, .null, .int 0, .int 0, .null])), (q1, .inl (k2, 8064, .inl (fun _ => 0)))] := hD
  refine W.widen (k := 1) (n := 8064) (Nat.le_of_ble_eq_true rfl) (Nat.le_of_ble_eq_true rfl) ?_
  refine va_putF (D := (dC, dI)) (ci := 8) (v := .ref q1) (ty := (tyX8 0)) (C := RX8) (T := TX8) (N := 5) hx hb hts in_X8 tyX8 tyX8_ok nmX8 hown hK hP hD hS 0 rfl rfl 0 (by decide) (hts _ wd_177) (fun _ h9 => h9) rfl hin rfl (tyX8_ok 0 (by decide)) rfl rfl (Nat.le_of_ble_eq_true rfl) dX8_init_10 (fun H locs hP hD hS => ?_)
  have hP : va_P (dC, dI) vwCl [(h0, .inr (8, [.ref q1, .null, .int 0, .int 0, .null])), (q1, .inl (k2, 8064, .inl (fun _ => 0)))] H := hP
  have hD : va_D A [(h0, .inr (8, [.ref q1, .null, .int 0, .int 0, .null])), (q1, .inl (k2, 8064, .inl (fun _ => 0)))] := hD
  refine lv_aload_n hx hb dX8_init_13 rfl (lv_at hl 0 rfl) ?_
  refine lv_sipush (v := 8064) hx hb dX8_init_14 (by decide) ?_
  refine va_newa (D := (dC, dI)) (atype := .int) (a0 := (8064, .inl (fun _ => 0))) hx hb (hts _ wd_121) rfl hK hP hD hS hA (fun _ => rfl) (by decide) (by decide) (by decide) (Nat.le_of_ble_eq_true rfl) (Nat.le_of_ble_eq_true rfl) dX8_init_17 (fun q3 k4 H hK hP hD hS => ?_)
  have hK : va_K (dC, dI) vwCl [(k2, .int), (k4, .int)] s := hK
  have hP : va_P (dC, dI) vwCl [(h0, .inr (8, [.ref q1, .null, .int 0, .int 0, .null])), (q1, .inl (k2, 8064, .inl (fun _ => 0))), (q3, .inl (k4, 8064, .inl (fun _ => 0)))] H := hP
  have hD : va_D A [(h0, .inr (8, [.ref q1, .null, .int 0, .int 0, .null])), (q1, .inl (k2, 8064, .inl (fun _ => 0))), (q3, .inl (k4, 8064, .inl (fun _ => 0)))] := hD
  refine W.widen (k := 2) (n := 16128) (Nat.le_of_ble_eq_true rfl) (Nat.le_of_ble_eq_true rfl) ?_
  refine va_putF (D := (dC, dI)) (ci := 8) (v := .ref q3) (ty := (tyX8 1)) (C := RX8) (T := TX8) (N := 5) hx hb hts in_X8 tyX8 tyX8_ok nmX8 hown hK hP hD hS 0 rfl rfl 1 (by decide) (hts _ wd_178) (fun _ h9 => h9) rfl hin rfl (tyX8_ok 1 (by decide)) rfl rfl (Nat.le_of_ble_eq_true rfl) dX8_init_19 (fun H locs hP hD hS => ?_)
  have hP : va_P (dC, dI) vwCl [(h0, .inr (8, [.ref q1, .ref q3, .int 0, .int 0, .null])), (q1, .inl (k2, 8064, .inl (fun _ => 0))), (q3, .inl (k4, 8064, .inl (fun _ => 0)))] H := hP
  have hD : va_D A [(h0, .inr (8, [.ref q1, .ref q3, .int 0, .int 0, .null])), (q1, .inl (k2, 8064, .inl (fun _ => 0))), (q3, .inl (k4, 8064, .inl (fun _ => 0)))] := hD
  have hP9 := hP.sub (ws' := [(h0, .inr (8, [.ref q1, .ref q3, .int 0, .int 0, .null])), (q1, .inl (k2, 8064, .inl (fun _ => 0))), (q3, .inl (k4, 8064, .inl (fun _ => 0)))]) [0, 1, 2] rfl
  have hD9 := hD.sub (ws' := [(h0, .inr (8, [.ref q1, .ref q3, .int 0, .int 0, .null])), (q1, .inl (k2, 8064, .inl (fun _ => 0))), (q3, .inl (k4, 8064, .inl (fun _ => 0)))]) [0, 1, 2] (by decide) rfl
  have hK9 := hK.sub (tys' := [(k2, .int), (k4, .int)]) [0, 1] rfl
  refine W.widen (k := 2) (n := 16128) (Nat.le_of_ble_eq_true rfl) (Nat.le_of_ble_eq_true rfl) ?_
  exact W.vret hx hb hr (fun t ht hW => ⟨⟨(), rfl, trivial, (fun k => [q1, q3].getD k 0), (fun k => [k2, k4].getD k 0), by rw [ht]; exact hP9, va_K.moved hW.alike hK9, hD9⟩, hS.F ht⟩) hS.2.2 dX8_init_22
set_option maxHeartbeats 4000000 in
set_option maxRecDepth 100000 in
theorem ct_X3_init (l : Launch) (dC : Nat → ClassId) (dI : Nat → Nat → Nat) (h0 : Nat) (h1 : Nat) (sz : Nat) : Met l yX3_init (.code yX3_init cX3_init 2 none :: tb) ({ frames := 1, cells := 4, slots := 1840, locals := 12 }) (va_Pc [.ref h0, .ref h1] (fun U => U.heap.size = sz ∧ va_P (dC, dI) vwCl [(h0, .inr (3, [.null, .null, .null, .int 0, .int 0, .int 0, .int 0, .int 0, .int 0, .null, .null, .null, .null]))] U.heap ∧ va_K (dC, dI) vwCl [] U ∧ va_D (fun _ => True) [(h0, .inr (3, [.null, .null, .null, .int 0, .int 0, .int 0, .int 0, .int 0, .int 0, .null, .null, .null, .null]))])) (va_Qv (fun (_ : Unit) => True) (fun (_ : Unit) t => ∃ (q : Nat → Nat), ∃ (kc : Nat → ClassId), va_P (dC, dI) vwCl [(h0, .inr (3, [.ref h1, .null, .null, .int 0, .int 0, .int 0, .int 0, .int 0, .int 0, .ref (q 0), .ref (q 1), .ref (q 2), .ref (q 3)])), (q 0, .inl (kc 0, 460, .inl (fun _ => 0))), (q 1, .inl (kc 1, 460, .inl (fun _ => 0))), (q 2, .inl (kc 2, 460, .inl (fun _ => 0))), (q 3, .inl (kc 3, 460, .inr (.inl (fun _ => 0))))] t.heap ∧ va_K (dC, dI) vwCl [(kc 0, .int), (kc 1, .int), (kc 2, .int), (kc 3, .long)] t ∧ va_D (va_A [(h0, .inr (3, [.null, .null, .null, .int 0, .int 0, .int 0, .int 0, .int 0, .int 0, .null, .null, .null, .null]))] sz) [(h0, .inr (3, [.ref h1, .null, .null, .int 0, .int 0, .int 0, .int 0, .int 0, .int 0, .ref (q 0), .ref (q 1), .ref (q 2), .ref (q 3)])), (q 0, .inl (kc 0, 460, .inl (fun _ => 0))), (q 1, .inl (kc 1, 460, .inl (fun _ => 0))), (q 2, .inl (kc 2, 460, .inl (fun _ => 0))), (q 3, .inl (kc 3, 460, .inr (.inl (fun _ => 0))))]) (va_A [(h0, .inr (3, [.null, .null, .null, .int 0, .int 0, .int 0, .int 0, .int 0, .int 0, .null, .null, .null, .null]))] sz)) 4 1840 (va_A [(h0, .inr (3, [.null, .null, .null, .int 0, .int 0, .int 0, .int 0, .int 0, .int 0, .null, .null, .null, .null]))] sz) := by
  refine Met.ofW (cc := cX3_init) (maxL := 2) (ret := none) (by decide) rfl ?_
  intro p e s m args below meth c s₁ B hml hv
  obtain ⟨rfl, hsz, hP, hK, hD0⟩ := hv
  have hx := B.exec
  have hb := B.bytes
  have hr := B.returns
  have hts : ∀ w ∈ tb, w.before _ s = true := fun w h => atoms_spec (ws := (.code yX3_init cX3_init 2 none :: tb)) B.pre w (List.mem_cons_of_mem _ h)
  have hown : s.vm.findClass RX3 = some m.cls := findClass_of_methodNamed B.named
  have hlocks := B.notSynchronized
  have hin : meth.name = "<init>" := (name_of_methodNamed B.named B.method).1
  subst hsz
  have hD := hD0.self (sz := s.heap.size)
  generalize hAe : va_A [(h0, .inr (3, [.null, .null, .null, .int 0, .int 0, .int 0, .int 0, .int 0, .int 0, .null, .null, .null, .null]))] s.heap.size = A at hD ⊢
  have hA : ∀ q : Nat, s.heap.size ≤ q → A q := fun q h => by rw [← hAe]; exact Or.inr h
  have hS : va_S A s.heap s.heap [] := va_S.rf
  have hP : va_P (dC, dI) vwCl [(h0, .inr (3, [.null, .null, .null, .int 0, .int 0, .int 0, .int 0, .int 0, .int 0, .null, .null, .null, .null]))] s.heap := hP
  have hl := lv_entry ([.ref h0, .ref h1]) (n := 2) (Nat.le_of_ble_eq_true rfl)
  rw [lg_entry_eq]
  generalize (lg_sl ([.ref h0, .ref h1]) ++ List.replicate (2 - (lg_sl ([.ref h0, .ref h1])).length) Slot.unset).toArray = ls at hl ⊢
  have hl : lv_has ls 2 [(0, .ref h0), (1, .ref h1)] := hl
  refine lv_aload_n hx hb dX3_init_0 rfl (lv_at hl 0 rfl) ?_
  refine W.objInit hx hb hown (hts _ wd_130) (hts _ wd_30) (hts _ wd_obj) rfl (by rw [hml]; exact hl.1) rfl dX3_init_1 (Nat.le_of_ble_eq_true rfl) (Nat.le_of_ble_eq_true rfl) ?_
  refine W.eq (g2 := F0 m 4 ls []) rfl ?_
  refine lv_aload_n hx hb dX3_init_4 rfl (lv_at hl 0 rfl) ?_
  refine lv_sipush (v := 460) hx hb dX3_init_5 (by decide) ?_
  refine va_newa (D := (dC, dI)) (atype := .int) (a0 := (460, .inl (fun _ => 0))) hx hb (hts _ wd_121) rfl hK hP hD hS hA (fun _ => rfl) (by decide) (by decide) (by decide) (Nat.le_of_ble_eq_true rfl) (Nat.le_of_ble_eq_true rfl) dX3_init_8 (fun q1 k2 H hK hP hD hS => ?_)
  have hK : va_K (dC, dI) vwCl [(k2, .int)] s := hK
  have hP : va_P (dC, dI) vwCl [(h0, .inr (3, [.null, .null, .null, .int 0, .int 0, .int 0, .int 0, .int 0, .int 0, .null, .null, .null, .null])), (q1, .inl (k2, 460, .inl (fun _ => 0)))] H := hP
  have hD : va_D A [(h0, .inr (3, [.null, .null, .null, .int 0, .int 0, .int 0, .int 0, .int 0, .int 0, .null, .null, .null, .null])), (q1, .inl (k2, 460, .inl (fun _ => 0)))] := hD
  refine W.widen (k := 1) (n := 460) (Nat.le_of_ble_eq_true rfl) (Nat.le_of_ble_eq_true rfl) ?_
  refine va_putF (D := (dC, dI)) (ci := 3) (v := .ref q1) (ty := (tyX3 9)) (C := RX3) (T := TX3) (N := 13) hx hb hts in_X3 tyX3 tyX3_ok nmX3 hown hK hP hD hS 0 rfl rfl 9 (by decide) (hts _ wd_140) (fun _ h9 => h9) rfl hin rfl (tyX3_ok 9 (by decide)) rfl rfl (Nat.le_of_ble_eq_true rfl) dX3_init_10 (fun H locs hP hD hS => ?_)
  have hP : va_P (dC, dI) vwCl [(h0, .inr (3, [.null, .null, .null, .int 0, .int 0, .int 0, .int 0, .int 0, .int 0, .ref q1, .null, .null, .null])), (q1, .inl (k2, 460, .inl (fun _ => 0)))] H := hP
  have hD : va_D A [(h0, .inr (3, [.null, .null, .null, .int 0, .int 0, .int 0, .int 0, .int 0, .int 0, .ref q1, .null, .null, .null])), (q1, .inl (k2, 460, .inl (fun _ => 0)))] := hD
  refine lv_aload_n hx hb dX3_init_13 rfl (lv_at hl 0 rfl) ?_
  refine lv_sipush (v := 460) hx hb dX3_init_14 (by decide) ?_
  refine va_newa (D := (dC, dI)) (atype := .int) (a0 := (460, .inl (fun _ => 0))) hx hb (hts _ wd_121) rfl hK hP hD hS hA (fun _ => rfl) (by decide) (by decide) (by decide) (Nat.le_of_ble_eq_true rfl) (Nat.le_of_ble_eq_true rfl) dX3_init_17 (fun q3 k4 H hK hP hD hS => ?_)
  have hK : va_K (dC, dI) vwCl [(k2, .int), (k4, .int)] s := hK
  have hP : va_P (dC, dI) vwCl [(h0, .inr (3, [.null, .null, .null, .int 0, .int 0, .int 0, .int 0, .int 0, .int 0, .ref q1, .null, .null, .null])), (q1, .inl (k2, 460, .inl (fun _ => 0))), (q3, .inl (k4, 460, .inl (fun _ => 0)))] H := hP
  have hD : va_D A [(h0, .inr (3, [.null, .null, .null, .int 0, .int 0, .int 0, .int 0, .int 0, .int 0, .ref q1, .null, .null, .null])), (q1, .inl (k2, 460, .inl (fun _ => 0))), (q3, .inl (k4, 460, .inl (fun _ => 0)))] := hD
  refine W.widen (k := 2) (n := 920) (Nat.le_of_ble_eq_true rfl) (Nat.le_of_ble_eq_true rfl) ?_
  refine va_putF (D := (dC, dI)) (ci := 3) (v := .ref q3) (ty := (tyX3 10)) (C := RX3) (T := TX3) (N := 13) hx hb hts in_X3 tyX3 tyX3_ok nmX3 hown hK hP hD hS 0 rfl rfl 10 (by decide) (hts _ wd_141) (fun _ h9 => h9) rfl hin rfl (tyX3_ok 10 (by decide)) rfl rfl (Nat.le_of_ble_eq_true rfl) dX3_init_19 (fun H locs hP hD hS => ?_)
  have hP : va_P (dC, dI) vwCl [(h0, .inr (3, [.null, .null, .null, .int 0, .int 0, .int 0, .int 0, .int 0, .int 0, .ref q1, .ref q3, .null, .null])), (q1, .inl (k2, 460, .inl (fun _ => 0))), (q3, .inl (k4, 460, .inl (fun _ => 0)))] H := hP
  have hD : va_D A [(h0, .inr (3, [.null, .null, .null, .int 0, .int 0, .int 0, .int 0, .int 0, .int 0, .ref q1, .ref q3, .null, .null])), (q1, .inl (k2, 460, .inl (fun _ => 0))), (q3, .inl (k4, 460, .inl (fun _ => 0)))] := hD
  refine lv_aload_n hx hb dX3_init_22 rfl (lv_at hl 0 rfl) ?_
  refine lv_sipush (v := 460) hx hb dX3_init_23 (by decide) ?_
  refine va_newa (D := (dC, dI)) (atype := .int) (a0 := (460, .inl (fun _ => 0))) hx hb (hts _ wd_121) rfl hK hP hD hS hA (fun _ => rfl) (by decide) (by decide) (by decide) (Nat.le_of_ble_eq_true rfl) (Nat.le_of_ble_eq_true rfl) dX3_init_26 (fun q5 k6 H hK hP hD hS => ?_)
  have hK : va_K (dC, dI) vwCl [(k2, .int), (k4, .int), (k6, .int)] s := hK
  have hP : va_P (dC, dI) vwCl [(h0, .inr (3, [.null, .null, .null, .int 0, .int 0, .int 0, .int 0, .int 0, .int 0, .ref q1, .ref q3, .null, .null])), (q1, .inl (k2, 460, .inl (fun _ => 0))), (q3, .inl (k4, 460, .inl (fun _ => 0))), (q5, .inl (k6, 460, .inl (fun _ => 0)))] H := hP
  have hD : va_D A [(h0, .inr (3, [.null, .null, .null, .int 0, .int 0, .int 0, .int 0, .int 0, .int 0, .ref q1, .ref q3, .null, .null])), (q1, .inl (k2, 460, .inl (fun _ => 0))), (q3, .inl (k4, 460, .inl (fun _ => 0))), (q5, .inl (k6, 460, .inl (fun _ => 0)))] := hD
  refine W.widen (k := 3) (n := 1380) (Nat.le_of_ble_eq_true rfl) (Nat.le_of_ble_eq_true rfl) ?_
  refine va_putF (D := (dC, dI)) (ci := 3) (v := .ref q5) (ty := (tyX3 11)) (C := RX3) (T := TX3) (N := 13) hx hb hts in_X3 tyX3 tyX3_ok nmX3 hown hK hP hD hS 0 rfl rfl 11 (by decide) (hts _ wd_142) (fun _ h9 => h9) rfl hin rfl (tyX3_ok 11 (by decide)) rfl rfl (Nat.le_of_ble_eq_true rfl) dX3_init_28 (fun H locs hP hD hS => ?_)
  have hP : va_P (dC, dI) vwCl [(h0, .inr (3, [.null, .null, .null, .int 0, .int 0, .int 0, .int 0, .int 0, .int 0, .ref q1, .ref q3, .ref q5, .null])), (q1, .inl (k2, 460, .inl (fun _ => 0))), (q3, .inl (k4, 460, .inl (fun _ => 0))), (q5, .inl (k6, 460, .inl (fun _ => 0)))] H := hP
  have hD : va_D A [(h0, .inr (3, [.null, .null, .null, .int 0, .int 0, .int 0, .int 0, .int 0, .int 0, .ref q1, .ref q3, .ref q5, .null])), (q1, .inl (k2, 460, .inl (fun _ => 0))), (q3, .inl (k4, 460, .inl (fun _ => 0))), (q5, .inl (k6, 460, .inl (fun _ => 0)))] := hD
  refine lv_aload_n hx hb dX3_init_31 rfl (lv_at hl 0 rfl) ?_
  refine lv_sipush (v := 460) hx hb dX3_init_32 (by decide) ?_
  refine va_newa (D := (dC, dI)) (atype := .long) (a0 := (460, .inr (.inl (fun _ => 0)))) hx hb (hts _ wd_122) rfl hK hP hD hS hA (fun _ => rfl) (by decide) (by decide) (by decide) (Nat.le_of_ble_eq_true rfl) (Nat.le_of_ble_eq_true rfl) dX3_init_35 (fun q7 k8 H hK hP hD hS => ?_)
  have hK : va_K (dC, dI) vwCl [(k2, .int), (k4, .int), (k6, .int), (k8, .long)] s := hK
  have hP : va_P (dC, dI) vwCl [(h0, .inr (3, [.null, .null, .null, .int 0, .int 0, .int 0, .int 0, .int 0, .int 0, .ref q1, .ref q3, .ref q5, .null])), (q1, .inl (k2, 460, .inl (fun _ => 0))), (q3, .inl (k4, 460, .inl (fun _ => 0))), (q5, .inl (k6, 460, .inl (fun _ => 0))), (q7, .inl (k8, 460, .inr (.inl (fun _ => 0))))] H := hP
  have hD : va_D A [(h0, .inr (3, [.null, .null, .null, .int 0, .int 0, .int 0, .int 0, .int 0, .int 0, .ref q1, .ref q3, .ref q5, .null])), (q1, .inl (k2, 460, .inl (fun _ => 0))), (q3, .inl (k4, 460, .inl (fun _ => 0))), (q5, .inl (k6, 460, .inl (fun _ => 0))), (q7, .inl (k8, 460, .inr (.inl (fun _ => 0))))] := hD
  refine W.widen (k := 4) (n := 1840) (Nat.le_of_ble_eq_true rfl) (Nat.le_of_ble_eq_true rfl) ?_
  refine va_putF (D := (dC, dI)) (ci := 3) (v := .ref q7) (ty := (tyX3 12)) (C := RX3) (T := TX3) (N := 13) hx hb hts in_X3 tyX3 tyX3_ok nmX3 hown hK hP hD hS 0 rfl rfl 12 (by decide) (hts _ wd_143) (fun _ h9 => h9) rfl hin rfl (tyX3_ok 12 (by decide)) rfl rfl (Nat.le_of_ble_eq_true rfl) dX3_init_37 (fun H locs hP hD hS => ?_)
  have hP : va_P (dC, dI) vwCl [(h0, .inr (3, [.null, .null, .null, .int 0, .int 0, .int 0, .int 0, .int 0, .int 0, .ref q1, .ref q3, .ref q5, .ref q7])), (q1, .inl (k2, 460, .inl (fun _ => 0))), (q3, .inl (k4, 460, .inl (fun _ => 0))), (q5, .inl (k6, 460, .inl (fun _ => 0))), (q7, .inl (k8, 460, .inr (.inl (fun _ => 0))))] H := hP
  have hD : va_D A [(h0, .inr (3, [.null, .null, .null, .int 0, .int 0, .int 0, .int 0, .int 0, .int 0, .ref q1, .ref q3, .ref q5, .ref q7])), (q1, .inl (k2, 460, .inl (fun _ => 0))), (q3, .inl (k4, 460, .inl (fun _ => 0))), (q5, .inl (k6, 460, .inl (fun _ => 0))), (q7, .inl (k8, 460, .inr (.inl (fun _ => 0))))] := hD
  refine lv_aload_n hx hb dX3_init_40 rfl (lv_at hl 0 rfl) ?_
  refine lv_aload_n hx hb dX3_init_41 rfl (lv_at hl 1 rfl) ?_
  refine va_putF (D := (dC, dI)) (ci := 3) (v := .ref h1) (ty := (tyX3 0)) (C := RX3) (T := TX3) (N := 13) hx hb hts in_X3 tyX3 tyX3_ok nmX3 hown hK hP hD hS 0 rfl rfl 0 (by decide) (hts _ wd_131) (fun _ h9 => h9) rfl hin rfl (tyX3_ok 0 (by decide)) rfl rfl (Nat.le_of_ble_eq_true rfl) dX3_init_42 (fun H locs hP hD hS => ?_)
  have hP : va_P (dC, dI) vwCl [(h0, .inr (3, [.ref h1, .null, .null, .int 0, .int 0, .int 0, .int 0, .int 0, .int 0, .ref q1, .ref q3, .ref q5, .ref q7])), (q1, .inl (k2, 460, .inl (fun _ => 0))), (q3, .inl (k4, 460, .inl (fun _ => 0))), (q5, .inl (k6, 460, .inl (fun _ => 0))), (q7, .inl (k8, 460, .inr (.inl (fun _ => 0))))] H := hP
  have hD : va_D A [(h0, .inr (3, [.ref h1, .null, .null, .int 0, .int 0, .int 0, .int 0, .int 0, .int 0, .ref q1, .ref q3, .ref q5, .ref q7])), (q1, .inl (k2, 460, .inl (fun _ => 0))), (q3, .inl (k4, 460, .inl (fun _ => 0))), (q5, .inl (k6, 460, .inl (fun _ => 0))), (q7, .inl (k8, 460, .inr (.inl (fun _ => 0))))] := hD
  have hP9 := hP.sub (ws' := [(h0, .inr (3, [.ref h1, .null, .null, .int 0, .int 0, .int 0, .int 0, .int 0, .int 0, .ref q1, .ref q3, .ref q5, .ref q7])), (q1, .inl (k2, 460, .inl (fun _ => 0))), (q3, .inl (k4, 460, .inl (fun _ => 0))), (q5, .inl (k6, 460, .inl (fun _ => 0))), (q7, .inl (k8, 460, .inr (.inl (fun _ => 0))))]) [0, 1, 2, 3, 4] rfl
  have hD9 := hD.sub (ws' := [(h0, .inr (3, [.ref h1, .null, .null, .int 0, .int 0, .int 0, .int 0, .int 0, .int 0, .ref q1, .ref q3, .ref q5, .ref q7])), (q1, .inl (k2, 460, .inl (fun _ => 0))), (q3, .inl (k4, 460, .inl (fun _ => 0))), (q5, .inl (k6, 460, .inl (fun _ => 0))), (q7, .inl (k8, 460, .inr (.inl (fun _ => 0))))]) [0, 1, 2, 3, 4] (by decide) rfl
  have hK9 := hK.sub (tys' := [(k2, .int), (k4, .int), (k6, .int), (k8, .long)]) [0, 1, 2, 3] rfl
  refine W.widen (k := 4) (n := 1840) (Nat.le_of_ble_eq_true rfl) (Nat.le_of_ble_eq_true rfl) ?_
  exact W.vret hx hb hr (fun t ht hW => ⟨⟨(), rfl, trivial, (fun k => [q1, q3, q5, q7].getD k 0), (fun k => [k2, k4, k6, k8].getD k 0), by rw [ht]; exact hP9, va_K.moved hW.alike hK9, hD9⟩, hS.F ht⟩) hS.2.2 dX3_init_45
