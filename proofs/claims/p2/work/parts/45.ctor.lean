theorem wd_37 : (Jvm.Cond.methodLink "Sleepers$Tokens" (3 : Nat) ({ cls := "java/lang/Object", name := "<init>", desc := "()V" } : Jvm.MethodName)) ∈ tb := tb_at 37 (by decide +kernel) (by decide +kernel)
theorem wd_39 : (Jvm.Cond.methodLink "Sleepers$Tokens" (31 : Nat) ({ cls := "java/lang/String", name := "length", desc := "()I" } : Jvm.MethodName)) ∈ tb := tb_at 39 (by decide +kernel) (by decide +kernel)
theorem wd_40 : (Jvm.Cond.instanceMethod ({ cls := "java/lang/String", name := "length", desc := "()I" } : Jvm.MethodName)) ∈ tb := tb_at 40 (by decide +kernel) (by decide +kernel)
theorem wd_41 : (Jvm.Cond.selects "java/lang/String" ({ cls := "java/lang/String", name := "length", desc := "()I" } : Jvm.MethodName) ({ cls := "java/lang/String", name := "length", desc := "()I" } : Jvm.MethodName)) ∈ tb := tb_at 41 (by decide +kernel) (by decide +kernel)
theorem wd_42 : (Jvm.Cond.code ({ cls := "java/lang/String", name := "length", desc := "()I" } : Jvm.MethodName) prog_19_method_54_code (1 : Nat) (Option.some Jvm.ClassFile.FieldType.int)) ∈ tb := tb_at 42 (by decide +kernel) (by decide +kernel)
theorem wd_49 : (Jvm.Cond.methodLink "Sleepers$Tokens" (37 : Nat) ({ cls := "java/lang/String", name := "charAt", desc := "(I)C" } : Jvm.MethodName)) ∈ tb := tb_at 49 (by decide +kernel) (by decide +kernel)
theorem wd_50 : (Jvm.Cond.instanceMethod ({ cls := "java/lang/String", name := "charAt", desc := "(I)C" } : Jvm.MethodName)) ∈ tb := tb_at 50 (by decide +kernel) (by decide +kernel)
theorem wd_51 : (Jvm.Cond.selects "java/lang/String" ({ cls := "java/lang/String", name := "charAt", desc := "(I)C" } : Jvm.MethodName) ({ cls := "java/lang/String", name := "charAt", desc := "(I)C" } : Jvm.MethodName)) ∈ tb := tb_at 51 (by decide +kernel) (by decide +kernel)
theorem wd_52 : (Jvm.Cond.code ({ cls := "java/lang/String", name := "charAt", desc := "(I)C" } : Jvm.MethodName) prog_19_method_56_code (2 : Nat) (Option.some Jvm.ClassFile.FieldType.char)) ∈ tb := tb_at 52 (by decide +kernel) (by decide +kernel)
theorem wd_87 : (Jvm.Cond.methodLink "Sleepers$Tokens" (41 : Nat) ({ cls := "Sleepers$Tokens", name := "longer", desc := "(JC)J" } : Jvm.MethodName)) ∈ tb := tb_at 87 (by decide +kernel) (by decide +kernel)
theorem wd_88 : (Jvm.Cond.static ({ cls := "Sleepers$Tokens", name := "longer", desc := "(JC)J" } : Jvm.MethodName)) ∈ tb := tb_at 88 (by decide +kernel) (by decide +kernel)
theorem wd_89 : (Jvm.Cond.code ({ cls := "Sleepers$Tokens", name := "longer", desc := "(JC)J" } : Jvm.MethodName) prog_12_method_9_code (3 : Nat) (Option.some Jvm.ClassFile.FieldType.long)) ∈ tb := tb_at 89 (by decide +kernel) (by decide +kernel)
theorem wd_94 : (Jvm.Cond.fieldLink "Sleepers$Tokens" (9 : Nat) "Sleepers$Tokens" "kind" "[I") ∈ tb := tb_at 94 (by decide +kernel) (by decide +kernel)
theorem wd_96 : (Jvm.Cond.fieldLink "Sleepers$Tokens" (15 : Nat) "Sleepers$Tokens" "place" "[I") ∈ tb := tb_at 96 (by decide +kernel) (by decide +kernel)
theorem wd_98 : (Jvm.Cond.fieldLink "Sleepers$Tokens" (18 : Nat) "Sleepers$Tokens" "value" "[J") ∈ tb := tb_at 98 (by decide +kernel) (by decide +kernel)
theorem wd_104 : (Jvm.Cond.fieldLink "Sleepers$Tokens" (22 : Nat) "Sleepers$Tokens" "tape" "[C") ∈ tb := tb_at 104 (by decide +kernel) (by decide +kernel)
theorem wd_105 : (Jvm.Cond.fieldLink "Sleepers$Tokens" (26 : Nat) "Sleepers$Tokens" "reserved" "[J") ∈ tb := tb_at 105 (by decide +kernel) (by decide +kernel)
theorem wd_123 : (Jvm.Cond.arrayClass Jvm.ClassFile.FieldType.char) ∈ tb := tb_at 123 (by decide +kernel) (by decide +kernel)
theorem dX10_init_0 : decode cX10_init 0 = .ok (.aload_n 0, 1) := by decide +kernel
theorem dX10_init_1 : decode cX10_init 1 = .ok (.invokespecial 3, 3) := by decide +kernel
theorem dX10_init_4 : decode cX10_init 4 = .ok (.aload_n 0, 1) := by decide +kernel
theorem dX10_init_5 : decode cX10_init 5 = .ok (.sipush 4002, 3) := by decide +kernel
theorem dX10_init_8 : decode cX10_init 8 = .ok (.newarray .int, 2) := by decide +kernel
theorem dX10_init_10 : decode cX10_init 10 = .ok (.putfield 9, 3) := by decide +kernel
theorem dX10_init_13 : decode cX10_init 13 = .ok (.aload_n 0, 1) := by decide +kernel
theorem dX10_init_14 : decode cX10_init 14 = .ok (.sipush 4002, 3) := by decide +kernel
theorem dX10_init_17 : decode cX10_init 17 = .ok (.newarray .int, 2) := by decide +kernel
theorem dX10_init_19 : decode cX10_init 19 = .ok (.putfield 15, 3) := by decide +kernel
theorem dX10_init_22 : decode cX10_init 22 = .ok (.aload_n 0, 1) := by decide +kernel
theorem dX10_init_23 : decode cX10_init 23 = .ok (.sipush 4002, 3) := by decide +kernel
theorem dX10_init_26 : decode cX10_init 26 = .ok (.newarray .long, 2) := by decide +kernel
theorem dX10_init_28 : decode cX10_init 28 = .ok (.putfield 18, 3) := by decide +kernel
theorem dX10_init_31 : decode cX10_init 31 = .ok (.aload_n 0, 1) := by decide +kernel
theorem dX10_init_32 : decode cX10_init 32 = .ok (.sipush 4000, 3) := by decide +kernel
theorem dX10_init_35 : decode cX10_init 35 = .ok (.newarray .char, 2) := by decide +kernel
theorem dX10_init_37 : decode cX10_init 37 = .ok (.putfield 22, 3) := by decide +kernel
theorem dX10_init_40 : decode cX10_init 40 = .ok (.aload_n 0, 1) := by decide +kernel
theorem dX10_init_41 : decode cX10_init 41 = .ok (.bipush 21, 2) := by decide +kernel
theorem dX10_init_43 : decode cX10_init 43 = .ok (.newarray .long, 2) := by decide +kernel
theorem dX10_init_45 : decode cX10_init 45 = .ok (.putfield 26, 3) := by decide +kernel
theorem dX10_init_48 : decode cX10_init 48 = .ok (.aload_n 0, 1) := by decide +kernel
theorem dX10_init_49 : decode cX10_init 49 = .ok (.getfield 9, 3) := by decide +kernel
theorem dX10_init_52 : decode cX10_init 52 = .ok (.sipush 4001, 3) := by decide +kernel
theorem dX10_init_55 : decode cX10_init 55 = .ok (.iconst 4, 1) := by decide +kernel
theorem dX10_init_56 : decode cX10_init 56 = .ok (.iastore, 1) := by decide +kernel
theorem dX10_init_57 : decode cX10_init 57 = .ok (.iconst 0, 1) := by decide +kernel
theorem dX10_init_58 : decode cX10_init 58 = .ok (.istore_n 1, 1) := by decide +kernel
theorem dX10_init_59 : decode cX10_init 59 = .ok (.lconst 0, 1) := by decide +kernel
theorem dX10_init_60 : decode cX10_init 60 = .ok (.lstore_n 2, 1) := by decide +kernel
theorem dX10_init_61 : decode cX10_init 61 = .ok (.iconst 0, 1) := by decide +kernel
theorem dX10_init_62 : decode cX10_init 62 = .ok (.istore 4, 2) := by decide +kernel
theorem dX10_init_64 : decode cX10_init 64 = .ok (.iload 4, 2) := by decide +kernel
theorem dX10_init_66 : decode cX10_init 66 = .ok (.ldc 29, 2) := by decide +kernel
theorem dX10_init_68 : decode cX10_init 68 = .ok (.invokevirtual 31, 3) := by decide +kernel
theorem dX10_init_71 : decode cX10_init 71 = .ok (.if_icmp .gt 68, 3) := by decide +kernel
theorem dX10_init_74 : decode cX10_init 74 = .ok (.iload_n 1, 1) := by decide +kernel
theorem dX10_init_75 : decode cX10_init 75 = .ok (.bipush 21, 2) := by decide +kernel
theorem dX10_init_77 : decode cX10_init 77 = .ok (.if_icmp .ge 62, 3) := by decide +kernel
theorem dX10_init_80 : decode cX10_init 80 = .ok (.iload 4, 2) := by decide +kernel
theorem dX10_init_82 : decode cX10_init 82 = .ok (.ldc 29, 2) := by decide +kernel
theorem dX10_init_84 : decode cX10_init 84 = .ok (.invokevirtual 31, 3) := by decide +kernel
theorem dX10_init_87 : decode cX10_init 87 = .ok (.if_icmp .ge 13, 3) := by decide +kernel
theorem dX10_init_90 : decode cX10_init 90 = .ok (.ldc 29, 2) := by decide +kernel
theorem dX10_init_92 : decode cX10_init 92 = .ok (.iload 4, 2) := by decide +kernel
theorem dX10_init_94 : decode cX10_init 94 = .ok (.invokevirtual 37, 3) := by decide +kernel
theorem dX10_init_97 : decode cX10_init 97 = .ok (.goto 5, 3) := by decide +kernel
theorem dX10_init_100 : decode cX10_init 100 = .ok (.bipush 32, 2) := by decide +kernel
theorem dX10_init_102 : decode cX10_init 102 = .ok (.istore 5, 2) := by decide +kernel
theorem dX10_init_104 : decode cX10_init 104 = .ok (.iload 5, 2) := by decide +kernel
theorem dX10_init_106 : decode cX10_init 106 = .ok (.bipush 32, 2) := by decide +kernel
theorem dX10_init_108 : decode cX10_init 108 = .ok (.if_icmp .ne 18, 3) := by decide +kernel
theorem dX10_init_111 : decode cX10_init 111 = .ok (.aload_n 0, 1) := by decide +kernel
theorem dX10_init_112 : decode cX10_init 112 = .ok (.getfield 26, 3) := by decide +kernel
theorem dX10_init_115 : decode cX10_init 115 = .ok (.iload_n 1, 1) := by decide +kernel
theorem dX10_init_116 : decode cX10_init 116 = .ok (.lload_n 2, 1) := by decide +kernel
theorem dX10_init_117 : decode cX10_init 117 = .ok (.lastore, 1) := by decide +kernel
theorem dX10_init_118 : decode cX10_init 118 = .ok (.iinc 1 1, 3) := by decide +kernel
theorem dX10_init_121 : decode cX10_init 121 = .ok (.lconst 0, 1) := by decide +kernel
theorem dX10_init_122 : decode cX10_init 122 = .ok (.lstore_n 2, 1) := by decide +kernel
theorem dX10_init_123 : decode cX10_init 123 = .ok (.goto 10, 3) := by decide +kernel
theorem dX10_init_126 : decode cX10_init 126 = .ok (.lload_n 2, 1) := by decide +kernel
theorem dX10_init_127 : decode cX10_init 127 = .ok (.iload 5, 2) := by decide +kernel
theorem dX10_init_129 : decode cX10_init 129 = .ok (.invokestatic 41, 3) := by decide +kernel
theorem dX10_init_132 : decode cX10_init 132 = .ok (.lstore_n 2, 1) := by decide +kernel
theorem dX10_init_133 : decode cX10_init 133 = .ok (.iinc 4 1, 3) := by decide +kernel
theorem dX10_init_136 : decode cX10_init 136 = .ok (.goto (-72), 3) := by decide +kernel
theorem dX10_init_139 : decode cX10_init 139 = .ok (.return_, 1) := by decide +kernel
set_option maxHeartbeats 4000000 in
set_option maxRecDepth 100000 in
theorem ct_X10_init (l : Launch) (dC : Nat → ClassId) (dI : Nat → Nat → Nat) (h0 : Nat) (a : Nat) (v : Nat) (n : Nat) (bs : List Int32) (sz : Nat) (hn : n < 2 ^ 30) : Met l yX10_init (.code yX10_init cX10_init 6 none :: tb) ({ frames := 4, cells := 5, slots := 16027, locals := 85 }) (va_Pc [.ref h0] (fun U => U.heap.size = sz ∧ va_P (dC, dI) vwCl [(h0, .inr (10, [.null, .null, .null, .int 0, .int 0, .null, .null]))] U.heap ∧ va_K (dC, dI) vwCl [] U ∧ va_D (fun _ => True) [(h0, .inr (10, [.null, .null, .null, .int 0, .int 0, .null, .null]))] ∧ vk_R RX10 29 "routine wait put if else while break continue return fail try on finish letter tick yield child both first within clock" a U ∧ sx_F a v n bs (va_A [(h0, .inr (10, [.null, .null, .null, .int 0, .int 0, .null, .null]))] sz) U U.heap ∧ sj_F (va_A [(h0, .inr (10, [.null, .null, .null, .int 0, .int 0, .null, .null]))] sz) U U.heap)) (va_Qv (fun (_ : Unit) => True) (fun (_ : Unit) t => ∃ (kd : Nat), ∃ (pl : Nat), ∃ (va : Nat), ∃ (tp : Nat), ∃ (rs : Nat), ∃ (kkd : ClassId), ∃ (kpl : ClassId), ∃ (kva : ClassId), ∃ (ktp : ClassId), ∃ (krs : ClassId), ∃ (fr : Nat → Int64), va_P (dC, dI) vwCl [(h0, .inr (10, [.ref kd, .ref pl, .ref va, .int 0, .int 0, .ref tp, .ref rs])), (kd, .inl (kkd, 4002, .inl (upd (fun _ => 0) (4001 : Int32).toNatClampNeg 4))), (pl, .inl (kpl, 4002, .inl (fun _ => 0))), (va, .inl (kva, 4002, .inr (.inl (fun _ => 0)))), (tp, .inl (ktp, 4000, .inl (fun _ => 0))), (rs, .inl (krs, 21, .inr (.inl (fr))))] t.heap ∧ va_K (dC, dI) vwCl [(kkd, .int), (kpl, .int), (kva, .long), (ktp, .char), (krs, .long)] t ∧ va_D (va_A [(h0, .inr (10, [.null, .null, .null, .int 0, .int 0, .null, .null]))] sz) [(h0, .inr (10, [.ref kd, .ref pl, .ref va, .int 0, .int 0, .ref tp, .ref rs])), (kd, .inl (kkd, 4002, .inl (upd (fun _ => 0) (4001 : Int32).toNatClampNeg 4))), (pl, .inl (kpl, 4002, .inl (fun _ => 0))), (va, .inl (kva, 4002, .inr (.inl (fun _ => 0)))), (tp, .inl (ktp, 4000, .inl (fun _ => 0))), (rs, .inl (krs, 21, .inr (.inl (fr))))]) (va_A [(h0, .inr (10, [.null, .null, .null, .int 0, .int 0, .null, .null]))] sz)) 5 16027 (va_A [(h0, .inr (10, [.null, .null, .null, .int 0, .int 0, .null, .null]))] sz) := by
  refine Met.ofW (cc := cX10_init) (maxL := 6) (ret := none) (by decide) rfl ?_
  intro p e s m args below meth c s₁ B hml hv
  obtain ⟨rfl, hsz, hP, hK, hD0, hZ0, hZ1, hZ2⟩ := hv
  have hx := B.exec
  have hb := B.bytes
  have hr := B.returns
  have hts : ∀ w ∈ tb, w.before _ s = true := fun w h => atoms_spec (ws := (.code yX10_init cX10_init 6 none :: tb)) B.pre w (List.mem_cons_of_mem _ h)
  have hown : s.vm.findClass RX10 = some m.cls := findClass_of_methodNamed B.named
  have hlocks := B.notSynchronized
  have hin : meth.name = "<init>" := (name_of_methodNamed B.named B.method).1
  subst hsz
  have hD := hD0.self (sz := s.heap.size)
  generalize hAe : va_A [(h0, .inr (10, [.null, .null, .null, .int 0, .int 0, .null, .null]))] s.heap.size = A at hD hZ1 hZ2 ⊢
  have hA : ∀ q : Nat, s.heap.size ≤ q → A q := fun q h => by rw [← hAe]; exact Or.inr h
  have hS : va_S A s.heap s.heap [] := va_S.rf
  have hP : va_P (dC, dI) vwCl [(h0, .inr (10, [.null, .null, .null, .int 0, .int 0, .null, .null]))] s.heap := hP
  have hl := lv_entry ([.ref h0]) (n := 6) (Nat.le_of_ble_eq_true rfl)
  rw [lg_entry_eq]
  generalize (lg_sl ([.ref h0]) ++ List.replicate (6 - (lg_sl ([.ref h0])).length) Slot.unset).toArray = ls at hl ⊢
  have hl : lv_has ls 6 [(0, .ref h0)] := hl
  refine lv_aload_n hx hb dX10_init_0 rfl (lv_at hl 0 rfl) ?_
  refine W.objInit hx hb hown (hts _ wd_37) (hts _ wd_30) (hts _ wd_obj) rfl (by rw [hml]; exact hl.1) rfl dX10_init_1 (Nat.le_of_ble_eq_true rfl) (Nat.le_of_ble_eq_true rfl) ?_
  refine W.eq (g2 := F0 m 4 ls []) rfl ?_
  refine lv_aload_n hx hb dX10_init_4 rfl (lv_at hl 0 rfl) ?_
  refine lv_sipush (v := 4002) hx hb dX10_init_5 (by decide) ?_
  refine va_newa (D := (dC, dI)) (atype := .int) (a0 := (4002, .inl (fun _ => 0))) hx hb (hts _ wd_121) rfl hK hP hD hS hA (fun _ => rfl) (by decide) (by decide) (by decide) (Nat.le_of_ble_eq_true rfl) (Nat.le_of_ble_eq_true rfl) dX10_init_8 (fun q1 k2 H hK hP hD hS => ?_)
  have hK : va_K (dC, dI) vwCl [(k2, .int)] s := hK
  have hP : va_P (dC, dI) vwCl [(h0, .inr (10, [.null, .null, .null, .int 0, .int 0, .null, .null])), (q1, .inl (k2, 4002, .inl (fun _ => 0)))] H := hP
  have hD : va_D A [(h0, .inr (10, [.null, .null, .null, .int 0, .int 0, .null, .null])), (q1, .inl (k2, 4002, .inl (fun _ => 0)))] := hD
  refine W.widen (k := 1) (n := 4002) (Nat.le_of_ble_eq_true rfl) (Nat.le_of_ble_eq_true rfl) ?_
  refine va_putF (D := (dC, dI)) (ci := 10) (v := .ref q1) (ty := (tyX10 0)) (C := RX10) (T := TX10) (N := 7) hx hb hts in_X10 tyX10 tyX10_ok nmX10 hown hK hP hD hS 0 rfl rfl 0 (by decide) (hts _ wd_94) (fun _ h9 => h9) rfl hin rfl (tyX10_ok 0 (by decide)) rfl rfl (Nat.le_of_ble_eq_true rfl) dX10_init_10 (fun H locs hP hD hS => ?_)
  have hP : va_P (dC, dI) vwCl [(h0, .inr (10, [.ref q1, .null, .null, .int 0, .int 0, .null, .null])), (q1, .inl (k2, 4002, .inl (fun _ => 0)))] H := hP
  have hD : va_D A [(h0, .inr (10, [.ref q1, .null, .null, .int 0, .int 0, .null, .null])), (q1, .inl (k2, 4002, .inl (fun _ => 0)))] := hD
  refine lv_aload_n hx hb dX10_init_13 rfl (lv_at hl 0 rfl) ?_
  refine lv_sipush (v := 4002) hx hb dX10_init_14 (by decide) ?_
  refine va_newa (D := (dC, dI)) (atype := .int) (a0 := (4002, .inl (fun _ => 0))) hx hb (hts _ wd_121) rfl hK hP hD hS hA (fun _ => rfl) (by decide) (by decide) (by decide) (Nat.le_of_ble_eq_true rfl) (Nat.le_of_ble_eq_true rfl) dX10_init_17 (fun q3 k4 H hK hP hD hS => ?_)
  have hK : va_K (dC, dI) vwCl [(k2, .int), (k4, .int)] s := hK
  have hP : va_P (dC, dI) vwCl [(h0, .inr (10, [.ref q1, .null, .null, .int 0, .int 0, .null, .null])), (q1, .inl (k2, 4002, .inl (fun _ => 0))), (q3, .inl (k4, 4002, .inl (fun _ => 0)))] H := hP
  have hD : va_D A [(h0, .inr (10, [.ref q1, .null, .null, .int 0, .int 0, .null, .null])), (q1, .inl (k2, 4002, .inl (fun _ => 0))), (q3, .inl (k4, 4002, .inl (fun _ => 0)))] := hD
  refine W.widen (k := 2) (n := 8004) (Nat.le_of_ble_eq_true rfl) (Nat.le_of_ble_eq_true rfl) ?_
  refine va_putF (D := (dC, dI)) (ci := 10) (v := .ref q3) (ty := (tyX10 1)) (C := RX10) (T := TX10) (N := 7) hx hb hts in_X10 tyX10 tyX10_ok nmX10 hown hK hP hD hS 0 rfl rfl 1 (by decide) (hts _ wd_96) (fun _ h9 => h9) rfl hin rfl (tyX10_ok 1 (by decide)) rfl rfl (Nat.le_of_ble_eq_true rfl) dX10_init_19 (fun H locs hP hD hS => ?_)
  have hP : va_P (dC, dI) vwCl [(h0, .inr (10, [.ref q1, .ref q3, .null, .int 0, .int 0, .null, .null])), (q1, .inl (k2, 4002, .inl (fun _ => 0))), (q3, .inl (k4, 4002, .inl (fun _ => 0)))] H := hP
  have hD : va_D A [(h0, .inr (10, [.ref q1, .ref q3, .null, .int 0, .int 0, .null, .null])), (q1, .inl (k2, 4002, .inl (fun _ => 0))), (q3, .inl (k4, 4002, .inl (fun _ => 0)))] := hD
  refine lv_aload_n hx hb dX10_init_22 rfl (lv_at hl 0 rfl) ?_
  refine lv_sipush (v := 4002) hx hb dX10_init_23 (by decide) ?_
  refine va_newa (D := (dC, dI)) (atype := .long) (a0 := (4002, .inr (.inl (fun _ => 0)))) hx hb (hts _ wd_122) rfl hK hP hD hS hA (fun _ => rfl) (by decide) (by decide) (by decide) (Nat.le_of_ble_eq_true rfl) (Nat.le_of_ble_eq_true rfl) dX10_init_26 (fun q5 k6 H hK hP hD hS => ?_)
  have hK : va_K (dC, dI) vwCl [(k2, .int), (k4, .int), (k6, .long)] s := hK
  have hP : va_P (dC, dI) vwCl [(h0, .inr (10, [.ref q1, .ref q3, .null, .int 0, .int 0, .null, .null])), (q1, .inl (k2, 4002, .inl (fun _ => 0))), (q3, .inl (k4, 4002, .inl (fun _ => 0))), (q5, .inl (k6, 4002, .inr (.inl (fun _ => 0))))] H := hP
  have hD : va_D A [(h0, .inr (10, [.ref q1, .ref q3, .null, .int 0, .int 0, .null, .null])), (q1, .inl (k2, 4002, .inl (fun _ => 0))), (q3, .inl (k4, 4002, .inl (fun _ => 0))), (q5, .inl (k6, 4002, .inr (.inl (fun _ => 0))))] := hD
  refine W.widen (k := 3) (n := 12006) (Nat.le_of_ble_eq_true rfl) (Nat.le_of_ble_eq_true rfl) ?_
  refine va_putF (D := (dC, dI)) (ci := 10) (v := .ref q5) (ty := (tyX10 2)) (C := RX10) (T := TX10) (N := 7) hx hb hts in_X10 tyX10 tyX10_ok nmX10 hown hK hP hD hS 0 rfl rfl 2 (by decide) (hts _ wd_98) (fun _ h9 => h9) rfl hin rfl (tyX10_ok 2 (by decide)) rfl rfl (Nat.le_of_ble_eq_true rfl) dX10_init_28 (fun H locs hP hD hS => ?_)
  have hP : va_P (dC, dI) vwCl [(h0, .inr (10, [.ref q1, .ref q3, .ref q5, .int 0, .int 0, .null, .null])), (q1, .inl (k2, 4002, .inl (fun _ => 0))), (q3, .inl (k4, 4002, .inl (fun _ => 0))), (q5, .inl (k6, 4002, .inr (.inl (fun _ => 0))))] H := hP
  have hD : va_D A [(h0, .inr (10, [.ref q1, .ref q3, .ref q5, .int 0, .int 0, .null, .null])), (q1, .inl (k2, 4002, .inl (fun _ => 0))), (q3, .inl (k4, 4002, .inl (fun _ => 0))), (q5, .inl (k6, 4002, .inr (.inl (fun _ => 0))))] := hD
  refine lv_aload_n hx hb dX10_init_31 rfl (lv_at hl 0 rfl) ?_
  refine lv_sipush (v := 4000) hx hb dX10_init_32 (by decide) ?_
  refine va_newa (D := (dC, dI)) (atype := .char) (a0 := (4000, .inl (fun _ => 0))) hx hb (hts _ wd_123) rfl hK hP hD hS hA (fun _ => rfl) (by decide) (by decide) (by decide) (Nat.le_of_ble_eq_true rfl) (Nat.le_of_ble_eq_true rfl) dX10_init_35 (fun q7 k8 H hK hP hD hS => ?_)
  have hK : va_K (dC, dI) vwCl [(k2, .int), (k4, .int), (k6, .long), (k8, .char)] s := hK
  have hP : va_P (dC, dI) vwCl [(h0, .inr (10, [.ref q1, .ref q3, .ref q5, .int 0, .int 0, .null, .null])), (q1, .inl (k2, 4002, .inl (fun _ => 0))), (q3, .inl (k4, 4002, .inl (fun _ => 0))), (q5, .inl (k6, 4002, .inr (.inl (fun _ => 0)))), (q7, .inl (k8, 4000, .inl (fun _ => 0)))] H := hP
  have hD : va_D A [(h0, .inr (10, [.ref q1, .ref q3, .ref q5, .int 0, .int 0, .null, .null])), (q1, .inl (k2, 4002, .inl (fun _ => 0))), (q3, .inl (k4, 4002, .inl (fun _ => 0))), (q5, .inl (k6, 4002, .inr (.inl (fun _ => 0)))), (q7, .inl (k8, 4000, .inl (fun _ => 0)))] := hD
  refine W.widen (k := 4) (n := 16006) (Nat.le_of_ble_eq_true rfl) (Nat.le_of_ble_eq_true rfl) ?_
  refine va_putF (D := (dC, dI)) (ci := 10) (v := .ref q7) (ty := (tyX10 5)) (C := RX10) (T := TX10) (N := 7) hx hb hts in_X10 tyX10 tyX10_ok nmX10 hown hK hP hD hS 0 rfl rfl 5 (by decide) (hts _ wd_104) (fun _ h9 => h9) rfl hin rfl (tyX10_ok 5 (by decide)) rfl rfl (Nat.le_of_ble_eq_true rfl) dX10_init_37 (fun H locs hP hD hS => ?_)
  have hP : va_P (dC, dI) vwCl [(h0, .inr (10, [.ref q1, .ref q3, .ref q5, .int 0, .int 0, .ref q7, .null])), (q1, .inl (k2, 4002, .inl (fun _ => 0))), (q3, .inl (k4, 4002, .inl (fun _ => 0))), (q5, .inl (k6, 4002, .inr (.inl (fun _ => 0)))), (q7, .inl (k8, 4000, .inl (fun _ => 0)))] H := hP
  have hD : va_D A [(h0, .inr (10, [.ref q1, .ref q3, .ref q5, .int 0, .int 0, .ref q7, .null])), (q1, .inl (k2, 4002, .inl (fun _ => 0))), (q3, .inl (k4, 4002, .inl (fun _ => 0))), (q5, .inl (k6, 4002, .inr (.inl (fun _ => 0)))), (q7, .inl (k8, 4000, .inl (fun _ => 0)))] := hD
  refine lv_aload_n hx hb dX10_init_40 rfl (lv_at hl 0 rfl) ?_
  refine lv_bipush (v := 21) hx hb dX10_init_41 (by decide) ?_
  refine va_newa (D := (dC, dI)) (atype := .long) (a0 := (21, .inr (.inl (fun _ => 0)))) hx hb (hts _ wd_122) rfl hK hP hD hS hA (fun _ => rfl) (by decide) (by decide) (by decide) (Nat.le_of_ble_eq_true rfl) (Nat.le_of_ble_eq_true rfl) dX10_init_43 (fun q9 k10 H hK hP hD hS => ?_)
  have hK : va_K (dC, dI) vwCl [(k2, .int), (k4, .int), (k6, .long), (k8, .char), (k10, .long)] s := hK
  have hP : va_P (dC, dI) vwCl [(h0, .inr (10, [.ref q1, .ref q3, .ref q5, .int 0, .int 0, .ref q7, .null])), (q1, .inl (k2, 4002, .inl (fun _ => 0))), (q3, .inl (k4, 4002, .inl (fun _ => 0))), (q5, .inl (k6, 4002, .inr (.inl (fun _ => 0)))), (q7, .inl (k8, 4000, .inl (fun _ => 0))), (q9, .inl (k10, 21, .inr (.inl (fun _ => 0))))] H := hP
  have hD : va_D A [(h0, .inr (10, [.ref q1, .ref q3, .ref q5, .int 0, .int 0, .ref q7, .null])), (q1, .inl (k2, 4002, .inl (fun _ => 0))), (q3, .inl (k4, 4002, .inl (fun _ => 0))), (q5, .inl (k6, 4002, .inr (.inl (fun _ => 0)))), (q7, .inl (k8, 4000, .inl (fun _ => 0))), (q9, .inl (k10, 21, .inr (.inl (fun _ => 0))))] := hD
  refine W.widen (k := 5) (n := 16027) (Nat.le_of_ble_eq_true rfl) (Nat.le_of_ble_eq_true rfl) ?_
  refine va_putF (D := (dC, dI)) (ci := 10) (v := .ref q9) (ty := (tyX10 6)) (C := RX10) (T := TX10) (N := 7) hx hb hts in_X10 tyX10 tyX10_ok nmX10 hown hK hP hD hS 0 rfl rfl 6 (by decide) (hts _ wd_105) (fun _ h9 => h9) rfl hin rfl (tyX10_ok 6 (by decide)) rfl rfl (Nat.le_of_ble_eq_true rfl) dX10_init_45 (fun H locs hP hD hS => ?_)
  have hP : va_P (dC, dI) vwCl [(h0, .inr (10, [.ref q1, .ref q3, .ref q5, .int 0, .int 0, .ref q7, .ref q9])), (q1, .inl (k2, 4002, .inl (fun _ => 0))), (q3, .inl (k4, 4002, .inl (fun _ => 0))), (q5, .inl (k6, 4002, .inr (.inl (fun _ => 0)))), (q7, .inl (k8, 4000, .inl (fun _ => 0))), (q9, .inl (k10, 21, .inr (.inl (fun _ => 0))))] H := hP
  have hD : va_D A [(h0, .inr (10, [.ref q1, .ref q3, .ref q5, .int 0, .int 0, .ref q7, .ref q9])), (q1, .inl (k2, 4002, .inl (fun _ => 0))), (q3, .inl (k4, 4002, .inl (fun _ => 0))), (q5, .inl (k6, 4002, .inr (.inl (fun _ => 0)))), (q7, .inl (k8, 4000, .inl (fun _ => 0))), (q9, .inl (k10, 21, .inr (.inl (fun _ => 0))))] := hD
  refine lv_aload_n hx hb dX10_init_48 rfl (lv_at hl 0 rfl) ?_
  refine va_get (D := (dC, dI)) (ci := 10) (v := .ref q1) (C := RX10) (T := TX10) (N := 7) hx hb hts in_X10 hown hK hP 0 rfl rfl 0 (by decide) (hts _ wd_94) (fun _ h9 => h9) rfl dX10_init_49 ?_
  refine lv_sipush (v := 4001) hx hb dX10_init_52 (by decide) ?_
  refine lv_iconst (v := 4) hx hb dX10_init_55 (by decide) ?_
  refine va_iast hx hb hK hP hD hS 1 0 rfl rfl (px_in 4001 4002 (by decide +kernel)) dX10_init_56 (fun H locs hP hD hS => ?_)
  have hP : va_P (dC, dI) vwCl [(h0, .inr (10, [.ref q1, .ref q3, .ref q5, .int 0, .int 0, .ref q7, .ref q9])), (q1, .inl (k2, 4002, .inl (upd (fun _ => 0) (4001 : Int32).toNatClampNeg 4))), (q3, .inl (k4, 4002, .inl (fun _ => 0))), (q5, .inl (k6, 4002, .inr (.inl (fun _ => 0)))), (q7, .inl (k8, 4000, .inl (fun _ => 0))), (q9, .inl (k10, 21, .inr (.inl (fun _ => 0))))] H := hP
  have hD : va_D A [(h0, .inr (10, [.ref q1, .ref q3, .ref q5, .int 0, .int 0, .ref q7, .ref q9])), (q1, .inl (k2, 4002, .inl (upd (fun _ => 0) (4001 : Int32).toNatClampNeg 4))), (q3, .inl (k4, 4002, .inl (fun _ => 0))), (q5, .inl (k6, 4002, .inr (.inl (fun _ => 0)))), (q7, .inl (k8, 4000, .inl (fun _ => 0))), (q9, .inl (k10, 21, .inr (.inl (fun _ => 0))))] := hD
  refine lv_iconst (v := 0) hx hb dX10_init_57 (by decide) ?_
  refine lv_istore_n (lv' := [(1, .int 0), (0, .ref h0)]) hx hb dX10_init_58 rfl hl (by decide) rfl (fun ls hl => ?_)
  refine lv_lconst (v := 0) hx hb dX10_init_59 (by decide) ?_
  refine lv_lstore_n (lv' := [(2, .long 0), (1, .int 0), (0, .ref h0)]) hx hb dX10_init_60 rfl hl (by decide) rfl (fun ls hl => ?_)
  refine lv_iconst (v := 0) hx hb dX10_init_61 (by decide) ?_
  refine lv_istore (lv' := [(4, .int 0), (2, .long 0), (1, .int 0), (0, .ref h0)]) hx hb dX10_init_62 hl (by decide) rfl (fun ls hl => ?_)
  generalize hQ : MQ below _ _ s _ _ A = Q
  have loop : ∀ (j k c9 : Nat) (w : Int64) (f : Nat → Int64) (H : Heap) (locs : List Loc) (ls : Array Slot), k + j = n + 1 → c9 ≤ 21 → va_P (dC, dI) vwCl [(h0, .inr (10, [.ref q1, .ref q3, .ref q5, .int 0, .int 0, .ref q7, .ref q9])), (q1, .inl (k2, 4002, .inl (upd (fun _ => 0) (4001 : Int32).toNatClampNeg 4))), (q3, .inl (k4, 4002, .inl (fun _ => 0))), (q5, .inl (k6, 4002, .inr (.inl (fun _ => 0)))), (q7, .inl (k8, 4000, .inl (fun _ => 0))), (q9, .inl (k10, 21, .inr (.inl (f))))] H → va_D A [(h0, .inr (10, [.ref q1, .ref q3, .ref q5, .int 0, .int 0, .ref q7, .ref q9])), (q1, .inl (k2, 4002, .inl (upd (fun _ => 0) (4001 : Int32).toNatClampNeg 4))), (q3, .inl (k4, 4002, .inl (fun _ => 0))), (q5, .inl (k6, 4002, .inr (.inl (fun _ => 0)))), (q7, .inl (k8, 4000, .inl (fun _ => 0))), (q9, .inl (k10, 21, .inr (.inl (f))))] → va_S A s.heap H locs → lv_has ls 6 [(0, .ref h0), (1, .int (nI c9)), (2, .long w), (4, .int (nI k))] → W p l e (headSpec (.code yX10_init cX10_init 6 none :: tb) ({ frames := 4, cells := 5, slots := 16027, locals := 85 })).room s m #[.ref h0] below meth c H locs 5 16027 Q (F0 m 64 ls []) := by
    intro j
    induction j with
    | zero =>
      intro k c9 w f H locs ls hj hc9 hP hD hS hl
      refine lv_iload hx hb dX10_init_64 (lv_at hl 3 rfl) ?_
      refine va_ldcS hx hb hown hZ0 dX10_init_66 ?_
      have hPc := hP.sub (ws' := []) [] rfl
      have hDc := hD.sub (ws' := []) [] (by decide) rfl
      have hKc := hK.sub (tys' := []) [] rfl
      have hFc := va_free (wc := []) hD hS hA [] rfl
      refine va_calli (va_runV (As := []) (rest := [.int (nI k)]) ⟨hx, hb, hml, hown, hts⟩ (ct_J0_length_8abf5 l dC dI a v n bs H.size (by omega)) (cwV 0 hts (gd_V wd_39 wd_40 wd_41 wd_3 wd_42) rfl rfl rfl (by decide +kernel) ⟨Nat.le_of_ble_eq_true rfl, Nat.le_of_ble_eq_true rfl⟩) ⟨fun a U g mk q => by obtain ⟨q0, q1, qP, qK, qD, qZ0, qZ1⟩ := q; exact ⟨q0, q1, qP, va_K.moved (u := U) (U := U.calling g mk a) (Vm.Alike.refl U.vm) qK, qD, sx_F.moved (u := U) (U := U.calling g mk a) (Vm.Alike.refl U.vm) qZ0, sj_F.moved (u := U) (U := U.calling g mk a) (Vm.Alike.refl U.vm) qZ1⟩, sx_recv hZ1 hS, fun U hU hW => ⟨rfl, by rw [hU], by rw [hU]; exact hPc, va_K.moved hW.alike hKc, hDc.weaken (fun _ _ _ _ => trivial), (by rw [hU]; exact ((hZ1.kept hS.2.1).narrow hFc).moved hW.alike), (by rw [hU]; exact ((hZ2.kept hS.2.1).narrow hFc).moved hW.alike)⟩⟩ rfl rfl hl.1 rfl (lv_room (Nat.le_of_ble_eq_true rfl)) dX10_init_68 ⟨Nat.le_of_ble_eq_true rfl, Nat.le_of_ble_eq_true rfl⟩) hS (fun q _ h => hFc q h) hFc (fun r11 u t H1 locs ht hvm hw hB hz1 hk1 hS => ?_)
      obtain ⟨hP1, hK1, hD1⟩ := hB
      rw [ht] at hP1
      have hK1 := va_K.moved hvm.symm hK1
      obtain ⟨hP, hD⟩ := va_join (wr := [(h0, .inr (10, [.ref q1, .ref q3, .ref q5, .int 0, .int 0, .ref q7, .ref q9])), (q1, .inl (k2, 4002, .inl (upd (fun _ => 0) (4001 : Int32).toNatClampNeg 4))), (q3, .inl (k4, 4002, .inl (fun _ => 0))), (q5, .inl (k6, 4002, .inr (.inl (fun _ => 0)))), (q7, .inl (k8, 4000, .inl (fun _ => 0))), (q9, .inl (k10, 21, .inr (.inl (f))))]) (w1 := []) hP hD [] [0, 1, 2, 3, 4, 5] rfl rfl (by decide) (by decide) hk1 hFc hP1 hD1
      have hK := (hK.sub (tys' := [(k2, .int), (k4, .int), (k6, .long), (k8, .char), (k10, .long)]) [0, 1, 2, 3, 4] rfl).app (hK1.sub (tys' := []) [] rfl)
      generalize H1 = H at hP hS ⊢
      have hP : va_P (dC, dI) vwCl [(h0, .inr (10, [.ref q1, .ref q3, .ref q5, .int 0, .int 0, .ref q7, .ref q9])), (q1, .inl (k2, 4002, .inl (upd (fun _ => 0) (4001 : Int32).toNatClampNeg 4))), (q3, .inl (k4, 4002, .inl (fun _ => 0))), (q5, .inl (k6, 4002, .inr (.inl (fun _ => 0)))), (q7, .inl (k8, 4000, .inl (fun _ => 0))), (q9, .inl (k10, 21, .inr (.inl (f))))] H := hP
      have hD : va_D A [(h0, .inr (10, [.ref q1, .ref q3, .ref q5, .int 0, .int 0, .ref q7, .ref q9])), (q1, .inl (k2, 4002, .inl (upd (fun _ => 0) (4001 : Int32).toNatClampNeg 4))), (q3, .inl (k4, 4002, .inl (fun _ => 0))), (q5, .inl (k6, 4002, .inr (.inl (fun _ => 0)))), (q7, .inl (k8, 4000, .inl (fun _ => 0))), (q9, .inl (k10, 21, .inr (.inl (f))))] := hD
      have hK : va_K (dC, dI) vwCl [(k2, .int), (k4, .int), (k6, .long), (k8, .char), (k10, .long)] s := hK
      obtain rfl := hw
      refine lv_icmp_gt (tgt := 139) hx hb dX10_init_71 (by decide) (fun c12 => ?_) (fun c12 => ?_)
      · subst hQ
        have hP9 := hP.sub (ws' := [(h0, .inr (10, [.ref q1, .ref q3, .ref q5, .int 0, .int 0, .ref q7, .ref q9])), (q1, .inl (k2, 4002, .inl (upd (fun _ => 0) (4001 : Int32).toNatClampNeg 4))), (q3, .inl (k4, 4002, .inl (fun _ => 0))), (q5, .inl (k6, 4002, .inr (.inl (fun _ => 0)))), (q7, .inl (k8, 4000, .inl (fun _ => 0))), (q9, .inl (k10, 21, .inr (.inl (f))))]) [0, 1, 2, 3, 4, 5] rfl
        have hD9 := hD.sub (ws' := [(h0, .inr (10, [.ref q1, .ref q3, .ref q5, .int 0, .int 0, .ref q7, .ref q9])), (q1, .inl (k2, 4002, .inl (upd (fun _ => 0) (4001 : Int32).toNatClampNeg 4))), (q3, .inl (k4, 4002, .inl (fun _ => 0))), (q5, .inl (k6, 4002, .inr (.inl (fun _ => 0)))), (q7, .inl (k8, 4000, .inl (fun _ => 0))), (q9, .inl (k10, 21, .inr (.inl (f))))]) [0, 1, 2, 3, 4, 5] (by decide) rfl
        have hK9 := hK.sub (tys' := [(k2, .int), (k4, .int), (k6, .long), (k8, .char), (k10, .long)]) [0, 1, 2, 3, 4] rfl
        refine W.widen (k := 5) (n := 16027) (Nat.le_of_ble_eq_true rfl) (Nat.le_of_ble_eq_true rfl) ?_
        exact W.vret hx hb hr (fun t ht hW => ⟨⟨(), rfl, trivial, q1, q3, q5, q7, q9, k2, k4, k6, k8, k10, f, by rw [ht]; exact hP9, va_K.moved hW.alike hK9, hD9⟩, hS.F ht⟩) hS.2.2 dX10_init_139
      · exact absurd (nI_lt (by omega) (by omega)) c12
    | succ j ih =>
      intro k c9 w f H locs ls hj hc9 hP hD hS hl
      refine lv_iload hx hb dX10_init_64 (lv_at hl 3 rfl) ?_
      refine va_ldcS hx hb hown hZ0 dX10_init_66 ?_
      have hPc := hP.sub (ws' := []) [] rfl
      have hDc := hD.sub (ws' := []) [] (by decide) rfl
      have hKc := hK.sub (tys' := []) [] rfl
      have hFc := va_free (wc := []) hD hS hA [] rfl
      refine va_calli (va_runV (As := []) (rest := [.int (nI k)]) ⟨hx, hb, hml, hown, hts⟩ (ct_J0_length_8abf5 l dC dI a v n bs H.size (by omega)) (cwV 0 hts (gd_V wd_39 wd_40 wd_41 wd_3 wd_42) rfl rfl rfl (by decide +kernel) ⟨Nat.le_of_ble_eq_true rfl, Nat.le_of_ble_eq_true rfl⟩) ⟨fun a U g mk q => by obtain ⟨q0, q1, qP, qK, qD, qZ0, qZ1⟩ := q; exact ⟨q0, q1, qP, va_K.moved (u := U) (U := U.calling g mk a) (Vm.Alike.refl U.vm) qK, qD, sx_F.moved (u := U) (U := U.calling g mk a) (Vm.Alike.refl U.vm) qZ0, sj_F.moved (u := U) (U := U.calling g mk a) (Vm.Alike.refl U.vm) qZ1⟩, sx_recv hZ1 hS, fun U hU hW => ⟨rfl, by rw [hU], by rw [hU]; exact hPc, va_K.moved hW.alike hKc, hDc.weaken (fun _ _ _ _ => trivial), (by rw [hU]; exact ((hZ1.kept hS.2.1).narrow hFc).moved hW.alike), (by rw [hU]; exact ((hZ2.kept hS.2.1).narrow hFc).moved hW.alike)⟩⟩ rfl rfl hl.1 rfl (lv_room (Nat.le_of_ble_eq_true rfl)) dX10_init_68 ⟨Nat.le_of_ble_eq_true rfl, Nat.le_of_ble_eq_true rfl⟩) hS (fun q _ h => hFc q h) hFc (fun r13 u t H1 locs ht hvm hw hB hz1 hk1 hS => ?_)
      obtain ⟨hP1, hK1, hD1⟩ := hB
      rw [ht] at hP1
      have hK1 := va_K.moved hvm.symm hK1
      obtain ⟨hP, hD⟩ := va_join (wr := [(h0, .inr (10, [.ref q1, .ref q3, .ref q5, .int 0, .int 0, .ref q7, .ref q9])), (q1, .inl (k2, 4002, .inl (upd (fun _ => 0) (4001 : Int32).toNatClampNeg 4))), (q3, .inl (k4, 4002, .inl (fun _ => 0))), (q5, .inl (k6, 4002, .inr (.inl (fun _ => 0)))), (q7, .inl (k8, 4000, .inl (fun _ => 0))), (q9, .inl (k10, 21, .inr (.inl (f))))]) (w1 := []) hP hD [] [0, 1, 2, 3, 4, 5] rfl rfl (by decide) (by decide) hk1 hFc hP1 hD1
      have hK := (hK.sub (tys' := [(k2, .int), (k4, .int), (k6, .long), (k8, .char), (k10, .long)]) [0, 1, 2, 3, 4] rfl).app (hK1.sub (tys' := []) [] rfl)
      generalize H1 = H at hP hS ⊢
      have hP : va_P (dC, dI) vwCl [(h0, .inr (10, [.ref q1, .ref q3, .ref q5, .int 0, .int 0, .ref q7, .ref q9])), (q1, .inl (k2, 4002, .inl (upd (fun _ => 0) (4001 : Int32).toNatClampNeg 4))), (q3, .inl (k4, 4002, .inl (fun _ => 0))), (q5, .inl (k6, 4002, .inr (.inl (fun _ => 0)))), (q7, .inl (k8, 4000, .inl (fun _ => 0))), (q9, .inl (k10, 21, .inr (.inl (f))))] H := hP
      have hD : va_D A [(h0, .inr (10, [.ref q1, .ref q3, .ref q5, .int 0, .int 0, .ref q7, .ref q9])), (q1, .inl (k2, 4002, .inl (upd (fun _ => 0) (4001 : Int32).toNatClampNeg 4))), (q3, .inl (k4, 4002, .inl (fun _ => 0))), (q5, .inl (k6, 4002, .inr (.inl (fun _ => 0)))), (q7, .inl (k8, 4000, .inl (fun _ => 0))), (q9, .inl (k10, 21, .inr (.inl (f))))] := hD
      have hK : va_K (dC, dI) vwCl [(k2, .int), (k4, .int), (k6, .long), (k8, .char), (k10, .long)] s := hK
      obtain rfl := hw
      refine lv_icmp_gt (tgt := 139) hx hb dX10_init_71 (by decide) (fun c14 => ?_) (fun c14 => ?_)
      · exact absurd c14 (nI_nlt (by omega) (by omega))
      · refine lv_iload_n hx hb dX10_init_74 rfl (lv_at hl 1 rfl) ?_
        refine lv_bipush (v := 21) hx hb dX10_init_75 (by decide) ?_
        refine lv_icmp_ge (tgt := 139) hx hb dX10_init_77 (by decide) (fun c15 => ?_) (fun c15 => ?_)
        · subst hQ
          have hP9 := hP.sub (ws' := [(h0, .inr (10, [.ref q1, .ref q3, .ref q5, .int 0, .int 0, .ref q7, .ref q9])), (q1, .inl (k2, 4002, .inl (upd (fun _ => 0) (4001 : Int32).toNatClampNeg 4))), (q3, .inl (k4, 4002, .inl (fun _ => 0))), (q5, .inl (k6, 4002, .inr (.inl (fun _ => 0)))), (q7, .inl (k8, 4000, .inl (fun _ => 0))), (q9, .inl (k10, 21, .inr (.inl (f))))]) [0, 1, 2, 3, 4, 5] rfl
          have hD9 := hD.sub (ws' := [(h0, .inr (10, [.ref q1, .ref q3, .ref q5, .int 0, .int 0, .ref q7, .ref q9])), (q1, .inl (k2, 4002, .inl (upd (fun _ => 0) (4001 : Int32).toNatClampNeg 4))), (q3, .inl (k4, 4002, .inl (fun _ => 0))), (q5, .inl (k6, 4002, .inr (.inl (fun _ => 0)))), (q7, .inl (k8, 4000, .inl (fun _ => 0))), (q9, .inl (k10, 21, .inr (.inl (f))))]) [0, 1, 2, 3, 4, 5] (by decide) rfl
          have hK9 := hK.sub (tys' := [(k2, .int), (k4, .int), (k6, .long), (k8, .char), (k10, .long)]) [0, 1, 2, 3, 4] rfl
          refine W.widen (k := 5) (n := 16027) (Nat.le_of_ble_eq_true rfl) (Nat.le_of_ble_eq_true rfl) ?_
          exact W.vret hx hb hr (fun t ht hW => ⟨⟨(), rfl, trivial, q1, q3, q5, q7, q9, k2, k4, k6, k8, k10, f, by rw [ht]; exact hP9, va_K.moved hW.alike hK9, hD9⟩, hS.F ht⟩) hS.2.2 dX10_init_139
        · have hc21 : c9 < 21 := by rcases Nat.lt_or_ge c9 21 with q | q; exact q; exact absurd (nI_le q (by omega)) c15
          refine lv_iload hx hb dX10_init_80 (lv_at hl 3 rfl) ?_
          refine va_ldcS hx hb hown hZ0 dX10_init_82 ?_
          have hPc := hP.sub (ws' := []) [] rfl
          have hDc := hD.sub (ws' := []) [] (by decide) rfl
          have hKc := hK.sub (tys' := []) [] rfl
          have hFc := va_free (wc := []) hD hS hA [] rfl
          refine va_calli (va_runV (As := []) (rest := [.int (nI k)]) ⟨hx, hb, hml, hown, hts⟩ (ct_J0_length_8abf5 l dC dI a v n bs H.size (by omega)) (cwV 0 hts (gd_V wd_39 wd_40 wd_41 wd_3 wd_42) rfl rfl rfl (by decide +kernel) ⟨Nat.le_of_ble_eq_true rfl, Nat.le_of_ble_eq_true rfl⟩) ⟨fun a U g mk q => by obtain ⟨q0, q1, qP, qK, qD, qZ0, qZ1⟩ := q; exact ⟨q0, q1, qP, va_K.moved (u := U) (U := U.calling g mk a) (Vm.Alike.refl U.vm) qK, qD, sx_F.moved (u := U) (U := U.calling g mk a) (Vm.Alike.refl U.vm) qZ0, sj_F.moved (u := U) (U := U.calling g mk a) (Vm.Alike.refl U.vm) qZ1⟩, sx_recv hZ1 hS, fun U hU hW => ⟨rfl, by rw [hU], by rw [hU]; exact hPc, va_K.moved hW.alike hKc, hDc.weaken (fun _ _ _ _ => trivial), (by rw [hU]; exact ((hZ1.kept hS.2.1).narrow hFc).moved hW.alike), (by rw [hU]; exact ((hZ2.kept hS.2.1).narrow hFc).moved hW.alike)⟩⟩ rfl rfl hl.1 rfl (lv_room (Nat.le_of_ble_eq_true rfl)) dX10_init_84 ⟨Nat.le_of_ble_eq_true rfl, Nat.le_of_ble_eq_true rfl⟩) hS (fun q _ h => hFc q h) hFc (fun r16 u t H1 locs ht hvm hw hB hz1 hk1 hS => ?_)
          obtain ⟨hP1, hK1, hD1⟩ := hB
          rw [ht] at hP1
          have hK1 := va_K.moved hvm.symm hK1
          obtain ⟨hP, hD⟩ := va_join (wr := [(h0, .inr (10, [.ref q1, .ref q3, .ref q5, .int 0, .int 0, .ref q7, .ref q9])), (q1, .inl (k2, 4002, .inl (upd (fun _ => 0) (4001 : Int32).toNatClampNeg 4))), (q3, .inl (k4, 4002, .inl (fun _ => 0))), (q5, .inl (k6, 4002, .inr (.inl (fun _ => 0)))), (q7, .inl (k8, 4000, .inl (fun _ => 0))), (q9, .inl (k10, 21, .inr (.inl (f))))]) (w1 := []) hP hD [] [0, 1, 2, 3, 4, 5] rfl rfl (by decide) (by decide) hk1 hFc hP1 hD1
          have hK := (hK.sub (tys' := [(k2, .int), (k4, .int), (k6, .long), (k8, .char), (k10, .long)]) [0, 1, 2, 3, 4] rfl).app (hK1.sub (tys' := []) [] rfl)
          generalize H1 = H at hP hS ⊢
          have hP : va_P (dC, dI) vwCl [(h0, .inr (10, [.ref q1, .ref q3, .ref q5, .int 0, .int 0, .ref q7, .ref q9])), (q1, .inl (k2, 4002, .inl (upd (fun _ => 0) (4001 : Int32).toNatClampNeg 4))), (q3, .inl (k4, 4002, .inl (fun _ => 0))), (q5, .inl (k6, 4002, .inr (.inl (fun _ => 0)))), (q7, .inl (k8, 4000, .inl (fun _ => 0))), (q9, .inl (k10, 21, .inr (.inl (f))))] H := hP
          have hD : va_D A [(h0, .inr (10, [.ref q1, .ref q3, .ref q5, .int 0, .int 0, .ref q7, .ref q9])), (q1, .inl (k2, 4002, .inl (upd (fun _ => 0) (4001 : Int32).toNatClampNeg 4))), (q3, .inl (k4, 4002, .inl (fun _ => 0))), (q5, .inl (k6, 4002, .inr (.inl (fun _ => 0)))), (q7, .inl (k8, 4000, .inl (fun _ => 0))), (q9, .inl (k10, 21, .inr (.inl (f))))] := hD
          have hK : va_K (dC, dI) vwCl [(k2, .int), (k4, .int), (k6, .long), (k8, .char), (k10, .long)] s := hK
          obtain rfl := hw
          refine lv_icmp_ge (tgt := 100) hx hb dX10_init_87 (by decide) (fun c17 => ?_) (fun c17 => ?_)
          · refine lv_bipush (v := 32) hx hb dX10_init_100 (by decide) ?_
            refine lv_istore (lv' := [(5, .int 32), (0, .ref h0), (1, .int (nI c9)), (2, .long w), (4, .int (nI k))]) hx hb dX10_init_102 hl (by decide) rfl (fun ls hl => ?_)
            refine lv_iload hx hb dX10_init_104 (lv_at hl 0 rfl) ?_
            refine lv_bipush (v := 32) hx hb dX10_init_106 (by decide) ?_
            refine lv_icmp_ne (tgt := 126) hx hb dX10_init_108 (by decide) (fun h => absurd rfl h) (fun _ => ?_)
            refine lv_aload_n hx hb dX10_init_111 rfl (lv_at hl 1 rfl) ?_
            refine va_get (D := (dC, dI)) (ci := 10) (v := .ref q9) (C := RX10) (T := TX10) (N := 7) hx hb hts in_X10 hown hK hP 0 rfl rfl 6 (by decide) (hts _ wd_105) (fun _ h9 => h9) rfl dX10_init_112 ?_
            refine lv_iload_n hx hb dX10_init_115 rfl (lv_at hl 2 rfl) ?_
            refine lv_lload_n hx hb dX10_init_116 rfl (lv_at hl 3 rfl) ?_
            refine va_last hx hb hK hP hD hS 5 4 rfl rfl (vp_in_nI (by omega) (by omega)) dX10_init_117 (fun H locs hP hD hS => ?_)
            have hP : va_P (dC, dI) vwCl [(h0, .inr (10, [.ref q1, .ref q3, .ref q5, .int 0, .int 0, .ref q7, .ref q9])), (q1, .inl (k2, 4002, .inl (upd (fun _ => 0) (4001 : Int32).toNatClampNeg 4))), (q3, .inl (k4, 4002, .inl (fun _ => 0))), (q5, .inl (k6, 4002, .inr (.inl (fun _ => 0)))), (q7, .inl (k8, 4000, .inl (fun _ => 0))), (q9, .inl (k10, 21, .inr (.inl (vp_updL (f) (nI c9 : Int32).toNatClampNeg w))))] H := hP
            have hD : va_D A [(h0, .inr (10, [.ref q1, .ref q3, .ref q5, .int 0, .int 0, .ref q7, .ref q9])), (q1, .inl (k2, 4002, .inl (upd (fun _ => 0) (4001 : Int32).toNatClampNeg 4))), (q3, .inl (k4, 4002, .inl (fun _ => 0))), (q5, .inl (k6, 4002, .inr (.inl (fun _ => 0)))), (q7, .inl (k8, 4000, .inl (fun _ => 0))), (q9, .inl (k10, 21, .inr (.inl (vp_updL (f) (nI c9 : Int32).toNatClampNeg w))))] := hD
            obtain ⟨f18, ef18⟩ : ∃ g : Nat → Int64, g = (vp_updL (f) (nI c9 : Int32).toNatClampNeg w) := ⟨_, rfl⟩
            rw [← ef18] at hP hD
            have hP : va_P (dC, dI) vwCl [(h0, .inr (10, [.ref q1, .ref q3, .ref q5, .int 0, .int 0, .ref q7, .ref q9])), (q1, .inl (k2, 4002, .inl (upd (fun _ => 0) (4001 : Int32).toNatClampNeg 4))), (q3, .inl (k4, 4002, .inl (fun _ => 0))), (q5, .inl (k6, 4002, .inr (.inl (fun _ => 0)))), (q7, .inl (k8, 4000, .inl (fun _ => 0))), (q9, .inl (k10, 21, .inr (.inl (f18))))] H := hP
            have hD : va_D A [(h0, .inr (10, [.ref q1, .ref q3, .ref q5, .int 0, .int 0, .ref q7, .ref q9])), (q1, .inl (k2, 4002, .inl (upd (fun _ => 0) (4001 : Int32).toNatClampNeg 4))), (q3, .inl (k4, 4002, .inl (fun _ => 0))), (q5, .inl (k6, 4002, .inr (.inl (fun _ => 0)))), (q7, .inl (k8, 4000, .inl (fun _ => 0))), (q9, .inl (k10, 21, .inr (.inl (f18))))] := hD
            obtain ⟨z19, ez19⟩ : ∃ y : Int32, y = nI c9 + 1 := ⟨_, rfl⟩
            refine lv_iinc (v := z19) (lv' := [(1, .int z19), (5, .int 32), (0, .ref h0), (2, .long w), (4, .int (nI k))]) hx hb dX10_init_118 hl (k := 2) rfl (by rw [ez19]; rfl) (by decide) rfl (fun ls hl => ?_)
            refine lv_lconst (v := 0) hx hb dX10_init_121 (by decide) ?_
            refine lv_lstore_n (lv' := [(2, .long 0), (1, .int z19), (5, .int 32), (0, .ref h0), (4, .int (nI k))]) hx hb dX10_init_122 rfl hl (by decide) rfl (fun ls hl => ?_)
            refine lv_goto (tgt := 133) hx hb dX10_init_123 (by decide) ?_
            obtain ⟨z20, ez20⟩ : ∃ y : Int32, y = nI k + 1 := ⟨_, rfl⟩
            refine lv_iinc (v := z20) (lv' := [(4, .int z20), (2, .long 0), (1, .int z19), (5, .int 32), (0, .ref h0)]) hx hb dX10_init_133 hl (k := 4) rfl (by rw [ez20]; rfl) (by decide) rfl (fun ls hl => ?_)
            refine lv_goto (tgt := 64) hx hb dX10_init_136 (by decide) ?_
            obtain rfl : z20 = nI (k + 1) := ez20.trans (nI_1 k)
            obtain rfl : z19 = nI (c9 + 1) := ez19.trans (nI_1 c9)
            exact ih (k + 1) (c9 + 1) 0 _ _ _ _ (by omega) (by omega) hP hD hS (lv_sub hl [4, 2, 1, 0] rfl)
          · have hkn : k < n := by rcases Nat.lt_or_ge k n with q | q; exact q; exact absurd (nI_le q (by omega)) c17
            refine va_ldcS hx hb hown hZ0 dX10_init_90 ?_
            refine lv_iload hx hb dX10_init_92 (lv_at hl 3 rfl) ?_
            have hPc := hP.sub (ws' := []) [] rfl
            have hDc := hD.sub (ws' := []) [] (by decide) rfl
            have hKc := hK.sub (tys' := []) [] rfl
            have hFc := va_free (wc := []) hD hS hA [] rfl
            refine va_calli (va_runV (As := [.int (nI k)]) (rest := []) ⟨hx, hb, hml, hown, hts⟩ (ct_J0_charAt_5068e l dC dI a v n bs k H.size (by omega) (by omega)) (cwV 1 hts (gd_V wd_49 wd_50 wd_51 wd_3 wd_52) rfl rfl rfl (by decide +kernel) ⟨Nat.le_of_ble_eq_true rfl, Nat.le_of_ble_eq_true rfl⟩) ⟨fun a U g mk q => by obtain ⟨q0, q1, qP, qK, qD, qZ0, qZ1⟩ := q; exact ⟨q0, q1, qP, va_K.moved (u := U) (U := U.calling g mk a) (Vm.Alike.refl U.vm) qK, qD, sx_F.moved (u := U) (U := U.calling g mk a) (Vm.Alike.refl U.vm) qZ0, sj_F.moved (u := U) (U := U.calling g mk a) (Vm.Alike.refl U.vm) qZ1⟩, sx_recv hZ1 hS, fun U hU hW => ⟨rfl, by rw [hU], by rw [hU]; exact hPc, va_K.moved hW.alike hKc, hDc.weaken (fun _ _ _ _ => trivial), (by rw [hU]; exact ((hZ1.kept hS.2.1).narrow hFc).moved hW.alike), (by rw [hU]; exact ((hZ2.kept hS.2.1).narrow hFc).moved hW.alike)⟩⟩ rfl rfl hl.1 rfl (lv_room (Nat.le_of_ble_eq_true rfl)) dX10_init_94 ⟨Nat.le_of_ble_eq_true rfl, Nat.le_of_ble_eq_true rfl⟩) hS (fun q _ h => hFc q h) hFc (fun r21 u t H1 locs ht hvm hw hB hz1 hk1 hS => ?_)
            obtain ⟨hP1, hK1, hD1⟩ := hB
            rw [ht] at hP1
            have hK1 := va_K.moved hvm.symm hK1
            obtain ⟨hP, hD⟩ := va_join (wr := [(h0, .inr (10, [.ref q1, .ref q3, .ref q5, .int 0, .int 0, .ref q7, .ref q9])), (q1, .inl (k2, 4002, .inl (upd (fun _ => 0) (4001 : Int32).toNatClampNeg 4))), (q3, .inl (k4, 4002, .inl (fun _ => 0))), (q5, .inl (k6, 4002, .inr (.inl (fun _ => 0)))), (q7, .inl (k8, 4000, .inl (fun _ => 0))), (q9, .inl (k10, 21, .inr (.inl (f))))]) (w1 := []) hP hD [] [0, 1, 2, 3, 4, 5] rfl rfl (by decide) (by decide) hk1 hFc hP1 hD1
            have hK := (hK.sub (tys' := [(k2, .int), (k4, .int), (k6, .long), (k8, .char), (k10, .long)]) [0, 1, 2, 3, 4] rfl).app (hK1.sub (tys' := []) [] rfl)
            generalize H1 = H at hP hS ⊢
            have hP : va_P (dC, dI) vwCl [(h0, .inr (10, [.ref q1, .ref q3, .ref q5, .int 0, .int 0, .ref q7, .ref q9])), (q1, .inl (k2, 4002, .inl (upd (fun _ => 0) (4001 : Int32).toNatClampNeg 4))), (q3, .inl (k4, 4002, .inl (fun _ => 0))), (q5, .inl (k6, 4002, .inr (.inl (fun _ => 0)))), (q7, .inl (k8, 4000, .inl (fun _ => 0))), (q9, .inl (k10, 21, .inr (.inl (f))))] H := hP
            have hD : va_D A [(h0, .inr (10, [.ref q1, .ref q3, .ref q5, .int 0, .int 0, .ref q7, .ref q9])), (q1, .inl (k2, 4002, .inl (upd (fun _ => 0) (4001 : Int32).toNatClampNeg 4))), (q3, .inl (k4, 4002, .inl (fun _ => 0))), (q5, .inl (k6, 4002, .inr (.inl (fun _ => 0)))), (q7, .inl (k8, 4000, .inl (fun _ => 0))), (q9, .inl (k10, 21, .inr (.inl (f))))] := hD
            have hK : va_K (dC, dI) vwCl [(k2, .int), (k4, .int), (k6, .long), (k8, .char), (k10, .long)] s := hK
            obtain rfl := hw
            refine lv_goto (tgt := 102) hx hb dX10_init_97 (by decide) ?_
            refine lv_istore (lv' := [(5, .int (sx_c bs k)), (0, .ref h0), (1, .int (nI c9)), (2, .long w), (4, .int (nI k))]) hx hb dX10_init_102 hl (by decide) rfl (fun ls hl => ?_)
            refine lv_iload hx hb dX10_init_104 (lv_at hl 0 rfl) ?_
            refine lv_bipush (v := 32) hx hb dX10_init_106 (by decide) ?_
            refine lv_icmp_ne (tgt := 126) hx hb dX10_init_108 (by decide) (fun c22 => ?_) (fun c22 => ?_)
            · refine lv_lload_n hx hb dX10_init_126 rfl (lv_at hl 3 rfl) ?_
              refine lv_iload hx hb dX10_init_127 (lv_at hl 0 rfl) ?_
              have hPc := hP.sub (ws' := []) [] rfl
              have hDc := hD.sub (ws' := []) [] (by decide) rfl
              have hKc := hK.sub (tys' := []) [] rfl
              have hFc := va_free (wc := []) hD hS hA [] rfl
              refine va_calll (va_runS (As := [.long w, .int (sx_c bs k)]) (rest := []) ⟨hx, hb, hml, hown, hts⟩ (ct_X10_longer l dC dI w (sx_c bs k) H.size) (cwS 2 hts (gd_S wd_87 wd_88 wd_2 wd_89) rfl rfl rfl (by decide +kernel) ⟨Nat.le_of_ble_eq_true rfl, Nat.le_of_ble_eq_true rfl⟩) ⟨fun a U g mk q => by obtain ⟨q0, q1, qP, qK, qD⟩ := q; exact ⟨q0, q1, qP, va_K.moved (u := U) (U := U.calling g mk a) (Vm.Alike.refl U.vm) qK, qD⟩, fun U hU hW => ⟨rfl, by rw [hU], by rw [hU]; exact hPc, va_K.moved hW.alike hKc, hDc.weaken (fun _ _ _ _ => trivial)⟩⟩ rfl rfl hl.1 rfl (lv_room (Nat.le_of_ble_eq_true rfl)) dX10_init_129 ⟨Nat.le_of_ble_eq_true rfl, Nat.le_of_ble_eq_true rfl⟩) hS (fun q _ h => hFc q h) hFc (fun r23 u t H1 locs ht hvm hw hB hz1 hk1 hS => ?_)
              obtain ⟨hP1, hK1, hD1⟩ := hB
              rw [ht] at hP1
              have hK1 := va_K.moved hvm.symm hK1
              obtain ⟨hP, hD⟩ := va_join (wr := [(h0, .inr (10, [.ref q1, .ref q3, .ref q5, .int 0, .int 0, .ref q7, .ref q9])), (q1, .inl (k2, 4002, .inl (upd (fun _ => 0) (4001 : Int32).toNatClampNeg 4))), (q3, .inl (k4, 4002, .inl (fun _ => 0))), (q5, .inl (k6, 4002, .inr (.inl (fun _ => 0)))), (q7, .inl (k8, 4000, .inl (fun _ => 0))), (q9, .inl (k10, 21, .inr (.inl (f))))]) (w1 := []) hP hD [] [0, 1, 2, 3, 4, 5] rfl rfl (by decide) (by decide) hk1 hFc hP1 hD1
              have hK := (hK.sub (tys' := [(k2, .int), (k4, .int), (k6, .long), (k8, .char), (k10, .long)]) [0, 1, 2, 3, 4] rfl).app (hK1.sub (tys' := []) [] rfl)
              generalize H1 = H at hP hS ⊢
              have hP : va_P (dC, dI) vwCl [(h0, .inr (10, [.ref q1, .ref q3, .ref q5, .int 0, .int 0, .ref q7, .ref q9])), (q1, .inl (k2, 4002, .inl (upd (fun _ => 0) (4001 : Int32).toNatClampNeg 4))), (q3, .inl (k4, 4002, .inl (fun _ => 0))), (q5, .inl (k6, 4002, .inr (.inl (fun _ => 0)))), (q7, .inl (k8, 4000, .inl (fun _ => 0))), (q9, .inl (k10, 21, .inr (.inl (f))))] H := hP
              have hD : va_D A [(h0, .inr (10, [.ref q1, .ref q3, .ref q5, .int 0, .int 0, .ref q7, .ref q9])), (q1, .inl (k2, 4002, .inl (upd (fun _ => 0) (4001 : Int32).toNatClampNeg 4))), (q3, .inl (k4, 4002, .inl (fun _ => 0))), (q5, .inl (k6, 4002, .inr (.inl (fun _ => 0)))), (q7, .inl (k8, 4000, .inl (fun _ => 0))), (q9, .inl (k10, 21, .inr (.inl (f))))] := hD
              have hK : va_K (dC, dI) vwCl [(k2, .int), (k4, .int), (k6, .long), (k8, .char), (k10, .long)] s := hK
              refine lv_lstore_n (lv' := [(2, .long r23), (5, .int (sx_c bs k)), (0, .ref h0), (1, .int (nI c9)), (4, .int (nI k))]) hx hb dX10_init_132 rfl hl (by decide) rfl (fun ls hl => ?_)
              obtain ⟨z24, ez24⟩ : ∃ y : Int32, y = nI k + 1 := ⟨_, rfl⟩
              refine lv_iinc (v := z24) (lv' := [(4, .int z24), (2, .long r23), (5, .int (sx_c bs k)), (0, .ref h0), (1, .int (nI c9))]) hx hb dX10_init_133 hl (k := 4) rfl (by rw [ez24]; rfl) (by decide) rfl (fun ls hl => ?_)
              refine lv_goto (tgt := 64) hx hb dX10_init_136 (by decide) ?_
              obtain rfl : z24 = nI (k + 1) := ez24.trans (nI_1 k)
              exact ih (k + 1) c9 r23 _ _ _ _ (by omega) (by omega) hP hD hS (lv_sub hl [3, 4, 1, 0] rfl)
            · refine lv_aload_n hx hb dX10_init_111 rfl (lv_at hl 1 rfl) ?_
              refine va_get (D := (dC, dI)) (ci := 10) (v := .ref q9) (C := RX10) (T := TX10) (N := 7) hx hb hts in_X10 hown hK hP 0 rfl rfl 6 (by decide) (hts _ wd_105) (fun _ h9 => h9) rfl dX10_init_112 ?_
              refine lv_iload_n hx hb dX10_init_115 rfl (lv_at hl 2 rfl) ?_
              refine lv_lload_n hx hb dX10_init_116 rfl (lv_at hl 3 rfl) ?_
              refine va_last hx hb hK hP hD hS 5 4 rfl rfl (vp_in_nI (by omega) (by omega)) dX10_init_117 (fun H locs hP hD hS => ?_)
              have hP : va_P (dC, dI) vwCl [(h0, .inr (10, [.ref q1, .ref q3, .ref q5, .int 0, .int 0, .ref q7, .ref q9])), (q1, .inl (k2, 4002, .inl (upd (fun _ => 0) (4001 : Int32).toNatClampNeg 4))), (q3, .inl (k4, 4002, .inl (fun _ => 0))), (q5, .inl (k6, 4002, .inr (.inl (fun _ => 0)))), (q7, .inl (k8, 4000, .inl (fun _ => 0))), (q9, .inl (k10, 21, .inr (.inl (vp_updL (f) (nI c9 : Int32).toNatClampNeg w))))] H := hP
              have hD : va_D A [(h0, .inr (10, [.ref q1, .ref q3, .ref q5, .int 0, .int 0, .ref q7, .ref q9])), (q1, .inl (k2, 4002, .inl (upd (fun _ => 0) (4001 : Int32).toNatClampNeg 4))), (q3, .inl (k4, 4002, .inl (fun _ => 0))), (q5, .inl (k6, 4002, .inr (.inl (fun _ => 0)))), (q7, .inl (k8, 4000, .inl (fun _ => 0))), (q9, .inl (k10, 21, .inr (.inl (vp_updL (f) (nI c9 : Int32).toNatClampNeg w))))] := hD
              obtain ⟨f25, ef25⟩ : ∃ g : Nat → Int64, g = (vp_updL (f) (nI c9 : Int32).toNatClampNeg w) := ⟨_, rfl⟩
              rw [← ef25] at hP hD
              have hP : va_P (dC, dI) vwCl [(h0, .inr (10, [.ref q1, .ref q3, .ref q5, .int 0, .int 0, .ref q7, .ref q9])), (q1, .inl (k2, 4002, .inl (upd (fun _ => 0) (4001 : Int32).toNatClampNeg 4))), (q3, .inl (k4, 4002, .inl (fun _ => 0))), (q5, .inl (k6, 4002, .inr (.inl (fun _ => 0)))), (q7, .inl (k8, 4000, .inl (fun _ => 0))), (q9, .inl (k10, 21, .inr (.inl (f25))))] H := hP
              have hD : va_D A [(h0, .inr (10, [.ref q1, .ref q3, .ref q5, .int 0, .int 0, .ref q7, .ref q9])), (q1, .inl (k2, 4002, .inl (upd (fun _ => 0) (4001 : Int32).toNatClampNeg 4))), (q3, .inl (k4, 4002, .inl (fun _ => 0))), (q5, .inl (k6, 4002, .inr (.inl (fun _ => 0)))), (q7, .inl (k8, 4000, .inl (fun _ => 0))), (q9, .inl (k10, 21, .inr (.inl (f25))))] := hD
              obtain ⟨z26, ez26⟩ : ∃ y : Int32, y = nI c9 + 1 := ⟨_, rfl⟩
              refine lv_iinc (v := z26) (lv' := [(1, .int z26), (5, .int (sx_c bs k)), (0, .ref h0), (2, .long w), (4, .int (nI k))]) hx hb dX10_init_118 hl (k := 2) rfl (by rw [ez26]; rfl) (by decide) rfl (fun ls hl => ?_)
              refine lv_lconst (v := 0) hx hb dX10_init_121 (by decide) ?_
              refine lv_lstore_n (lv' := [(2, .long 0), (1, .int z26), (5, .int (sx_c bs k)), (0, .ref h0), (4, .int (nI k))]) hx hb dX10_init_122 rfl hl (by decide) rfl (fun ls hl => ?_)
              refine lv_goto (tgt := 133) hx hb dX10_init_123 (by decide) ?_
              obtain ⟨z27, ez27⟩ : ∃ y : Int32, y = nI k + 1 := ⟨_, rfl⟩
              refine lv_iinc (v := z27) (lv' := [(4, .int z27), (2, .long 0), (1, .int z26), (5, .int (sx_c bs k)), (0, .ref h0)]) hx hb dX10_init_133 hl (k := 4) rfl (by rw [ez27]; rfl) (by decide) rfl (fun ls hl => ?_)
              refine lv_goto (tgt := 64) hx hb dX10_init_136 (by decide) ?_
              obtain rfl : z27 = nI (k + 1) := ez27.trans (nI_1 k)
              obtain rfl : z26 = nI (c9 + 1) := ez26.trans (nI_1 c9)
              exact ih (k + 1) (c9 + 1) 0 _ _ _ _ (by omega) (by omega) hP hD hS (lv_sub hl [4, 2, 1, 0] rfl)
  exact loop (n + 1) 0 0 0 _ _ _ _ (by omega) (by omega) hP hD hS (lv_sub hl [3, 2, 1, 0] rfl)
