theorem wd_11 : (Jvm.Cond.initialized "Sleepers$Book") ∈ tb := tb_at 11 (by decide +kernel) (by decide +kernel)
theorem wd_14 : (Jvm.Cond.initialized "Sleepers$Scopes") ∈ tb := tb_at 14 (by decide +kernel) (by decide +kernel)
theorem wd_217 : (Jvm.Cond.instantiable "Sleepers$Book" (3 : Nat)) ∈ tb := tb_at 217 (by decide +kernel) (by decide +kernel)
theorem wd_219 : (Jvm.Cond.instanceMethod ({ cls := "Sleepers$Book", name := "<init>", desc := "()V" } : Jvm.MethodName)) ∈ tb := tb_at 219 (by decide +kernel) (by decide +kernel)
theorem wd_220 : (Jvm.Cond.code ({ cls := "Sleepers$Book", name := "<init>", desc := "()V" } : Jvm.MethodName) prog_2_method_1_code (1 : Nat) (Option.none : Option Jvm.ClassFile.FieldType)) ∈ tb := tb_at 220 (by decide +kernel) (by decide +kernel)
theorem wd_298 : (Jvm.Cond.methodLink "Sleepers$Runner" (3 : Nat) ({ cls := "java/lang/Object", name := "<init>", desc := "()V" } : Jvm.MethodName)) ∈ tb := tb_at 298 (by decide +kernel) (by decide +kernel)
theorem wd_299 : (Jvm.Cond.classLink "Sleepers$Runner" (9 : Nat) "Sleepers$Book") ∈ tb := tb_at 299 (by decide +kernel) (by decide +kernel)
theorem wd_305 : (Jvm.Cond.fieldLink "Sleepers$Runner" (12 : Nat) "Sleepers$Runner" "puts" "LSleepers$Book;") ∈ tb := tb_at 305 (by decide +kernel) (by decide +kernel)
theorem wd_307 : (Jvm.Cond.fieldLink "Sleepers$Runner" (22 : Nat) "Sleepers$Runner" "hall" "LSleepers$Hall;") ∈ tb := tb_at 307 (by decide +kernel) (by decide +kernel)
theorem wd_308 : (Jvm.Cond.fieldLink "Sleepers$Runner" (18 : Nat) "Sleepers$Runner" "numbers" "[I") ∈ tb := tb_at 308 (by decide +kernel) (by decide +kernel)
theorem wd_334 : (Jvm.Cond.methodLink "Sleepers$Program" (5 : Nat) ({ cls := "java/lang/Object", name := "<init>", desc := "()V" } : Jvm.MethodName)) ∈ tb := tb_at 334 (by decide +kernel) (by decide +kernel)
theorem wd_335 : (Jvm.Cond.classLink "Sleepers$Program" (21 : Nat) "Sleepers$Scopes") ∈ tb := tb_at 335 (by decide +kernel) (by decide +kernel)
theorem wd_336 : (Jvm.Cond.instantiable "Sleepers$Scopes" (12 : Nat)) ∈ tb := tb_at 336 (by decide +kernel) (by decide +kernel)
theorem wd_338 : (Jvm.Cond.instanceMethod ({ cls := "Sleepers$Scopes", name := "<init>", desc := "()V" } : Jvm.MethodName)) ∈ tb := tb_at 338 (by decide +kernel) (by decide +kernel)
theorem wd_339 : (Jvm.Cond.code ({ cls := "Sleepers$Scopes", name := "<init>", desc := "()V" } : Jvm.MethodName) prog_9_method_1_code (1 : Nat) (Option.none : Option Jvm.ClassFile.FieldType)) ∈ tb := tb_at 339 (by decide +kernel) (by decide +kernel)
theorem wd_399 : (Jvm.Cond.fieldLink "Sleepers$Program" (11 : Nat) "Sleepers$Program" "op" "[I") ∈ tb := tb_at 399 (by decide +kernel) (by decide +kernel)
theorem wd_402 : (Jvm.Cond.fieldLink "Sleepers$Program" (15 : Nat) "Sleepers$Program" "arg" "[I") ∈ tb := tb_at 402 (by decide +kernel) (by decide +kernel)
theorem wd_406 : (Jvm.Cond.fieldLink "Sleepers$Program" (18 : Nat) "Sleepers$Program" "scope" "[I") ∈ tb := tb_at 406 (by decide +kernel) (by decide +kernel)
theorem wd_409 : (Jvm.Cond.fieldLink "Sleepers$Program" (24 : Nat) "Sleepers$Program" "scopes" "LSleepers$Scopes;") ∈ tb := tb_at 409 (by decide +kernel) (by decide +kernel)
theorem wd_416 : (Jvm.Cond.fieldLink "Sleepers$Program" (28 : Nat) "Sleepers$Program" "start" "[I") ∈ tb := tb_at 416 (by decide +kernel) (by decide +kernel)
theorem wd_419 : (Jvm.Cond.fieldLink "Sleepers$Program" (31 : Nat) "Sleepers$Program" "end" "[I") ∈ tb := tb_at 419 (by decide +kernel) (by decide +kernel)
theorem wd_421 : (Jvm.Cond.fieldLink "Sleepers$Program" (34 : Nat) "Sleepers$Program" "given" "[I") ∈ tb := tb_at 421 (by decide +kernel) (by decide +kernel)
theorem wd_425 : (Jvm.Cond.fieldLink "Sleepers$Program" (37 : Nat) "Sleepers$Program" "cells" "[I") ∈ tb := tb_at 425 (by decide +kernel) (by decide +kernel)
theorem wd_427 : (Jvm.Cond.fieldLink "Sleepers$Program" (40 : Nat) "Sleepers$Program" "waits" "[I") ∈ tb := tb_at 427 (by decide +kernel) (by decide +kernel)
theorem wd_429 : (Jvm.Cond.fieldLink "Sleepers$Program" (43 : Nat) "Sleepers$Program" "standAt" "[I") ∈ tb := tb_at 429 (by decide +kernel) (by decide +kernel)
theorem wd_431 : (Jvm.Cond.fieldLink "Sleepers$Program" (46 : Nat) "Sleepers$Program" "names" "[J") ∈ tb := tb_at 431 (by decide +kernel) (by decide +kernel)
theorem wd_432 : (Jvm.Cond.fieldLink "Sleepers$Program" (50 : Nat) "Sleepers$Program" "cellNames" "[J") ∈ tb := tb_at 432 (by decide +kernel) (by decide +kernel)
theorem dX5_init_0 : decode cX5_init 0 = .ok (.aload_n 0, 1) := by decide +kernel
theorem dX5_init_1 : decode cX5_init 1 = .ok (.invokespecial 5, 3) := by decide +kernel
theorem dX5_init_4 : decode cX5_init 4 = .ok (.aload_n 0, 1) := by decide +kernel
theorem dX5_init_5 : decode cX5_init 5 = .ok (.sipush 8064, 3) := by decide +kernel
theorem dX5_init_8 : decode cX5_init 8 = .ok (.newarray .int, 2) := by decide +kernel
theorem dX5_init_10 : decode cX5_init 10 = .ok (.putfield 11, 3) := by decide +kernel
theorem dX5_init_13 : decode cX5_init 13 = .ok (.aload_n 0, 1) := by decide +kernel
theorem dX5_init_14 : decode cX5_init 14 = .ok (.sipush 8064, 3) := by decide +kernel
theorem dX5_init_17 : decode cX5_init 17 = .ok (.newarray .int, 2) := by decide +kernel
theorem dX5_init_19 : decode cX5_init 19 = .ok (.putfield 15, 3) := by decide +kernel
theorem dX5_init_22 : decode cX5_init 22 = .ok (.aload_n 0, 1) := by decide +kernel
theorem dX5_init_23 : decode cX5_init 23 = .ok (.sipush 8064, 3) := by decide +kernel
theorem dX5_init_26 : decode cX5_init 26 = .ok (.newarray .int, 2) := by decide +kernel
theorem dX5_init_28 : decode cX5_init 28 = .ok (.putfield 18, 3) := by decide +kernel
theorem dX5_init_31 : decode cX5_init 31 = .ok (.aload_n 0, 1) := by decide +kernel
theorem dX5_init_32 : decode cX5_init 32 = .ok (.new 21, 3) := by decide +kernel
theorem dX5_init_35 : decode cX5_init 35 = .ok (.dup, 1) := by decide +kernel
theorem dX5_init_36 : decode cX5_init 36 = .ok (.invokespecial 23, 3) := by decide +kernel
theorem dX5_init_39 : decode cX5_init 39 = .ok (.putfield 24, 3) := by decide +kernel
theorem dX5_init_42 : decode cX5_init 42 = .ok (.aload_n 0, 1) := by decide +kernel
theorem dX5_init_43 : decode cX5_init 43 = .ok (.bipush 12, 2) := by decide +kernel
theorem dX5_init_45 : decode cX5_init 45 = .ok (.newarray .int, 2) := by decide +kernel
theorem dX5_init_47 : decode cX5_init 47 = .ok (.putfield 28, 3) := by decide +kernel
theorem dX5_init_50 : decode cX5_init 50 = .ok (.aload_n 0, 1) := by decide +kernel
theorem dX5_init_51 : decode cX5_init 51 = .ok (.bipush 12, 2) := by decide +kernel
theorem dX5_init_53 : decode cX5_init 53 = .ok (.newarray .int, 2) := by decide +kernel
theorem dX5_init_55 : decode cX5_init 55 = .ok (.putfield 31, 3) := by decide +kernel
theorem dX5_init_58 : decode cX5_init 58 = .ok (.aload_n 0, 1) := by decide +kernel
theorem dX5_init_59 : decode cX5_init 59 = .ok (.bipush 12, 2) := by decide +kernel
theorem dX5_init_61 : decode cX5_init 61 = .ok (.newarray .int, 2) := by decide +kernel
theorem dX5_init_63 : decode cX5_init 63 = .ok (.putfield 34, 3) := by decide +kernel
theorem dX5_init_66 : decode cX5_init 66 = .ok (.aload_n 0, 1) := by decide +kernel
theorem dX5_init_67 : decode cX5_init 67 = .ok (.bipush 12, 2) := by decide +kernel
theorem dX5_init_69 : decode cX5_init 69 = .ok (.newarray .int, 2) := by decide +kernel
theorem dX5_init_71 : decode cX5_init 71 = .ok (.putfield 37, 3) := by decide +kernel
theorem dX5_init_74 : decode cX5_init 74 = .ok (.aload_n 0, 1) := by decide +kernel
theorem dX5_init_75 : decode cX5_init 75 = .ok (.bipush 12, 2) := by decide +kernel
theorem dX5_init_77 : decode cX5_init 77 = .ok (.newarray .int, 2) := by decide +kernel
theorem dX5_init_79 : decode cX5_init 79 = .ok (.putfield 40, 3) := by decide +kernel
theorem dX5_init_82 : decode cX5_init 82 = .ok (.aload_n 0, 1) := by decide +kernel
theorem dX5_init_83 : decode cX5_init 83 = .ok (.sipush 192, 3) := by decide +kernel
theorem dX5_init_86 : decode cX5_init 86 = .ok (.newarray .int, 2) := by decide +kernel
theorem dX5_init_88 : decode cX5_init 88 = .ok (.putfield 43, 3) := by decide +kernel
theorem dX5_init_91 : decode cX5_init 91 = .ok (.aload_n 0, 1) := by decide +kernel
theorem dX5_init_92 : decode cX5_init 92 = .ok (.bipush 12, 2) := by decide +kernel
theorem dX5_init_94 : decode cX5_init 94 = .ok (.newarray .long, 2) := by decide +kernel
theorem dX5_init_96 : decode cX5_init 96 = .ok (.putfield 46, 3) := by decide +kernel
theorem dX5_init_99 : decode cX5_init 99 = .ok (.aload_n 0, 1) := by decide +kernel
theorem dX5_init_100 : decode cX5_init 100 = .ok (.sipush 144, 3) := by decide +kernel
theorem dX5_init_103 : decode cX5_init 103 = .ok (.newarray .long, 2) := by decide +kernel
theorem dX5_init_105 : decode cX5_init 105 = .ok (.putfield 50, 3) := by decide +kernel
theorem dX5_init_108 : decode cX5_init 108 = .ok (.return_, 1) := by decide +kernel
theorem dX6_init_0 : decode cX6_init 0 = .ok (.aload_n 0, 1) := by decide +kernel
theorem dX6_init_1 : decode cX6_init 1 = .ok (.invokespecial 3, 3) := by decide +kernel
theorem dX6_init_4 : decode cX6_init 4 = .ok (.aload_n 0, 1) := by decide +kernel
theorem dX6_init_5 : decode cX6_init 5 = .ok (.new 9, 3) := by decide +kernel
theorem dX6_init_8 : decode cX6_init 8 = .ok (.dup, 1) := by decide +kernel
theorem dX6_init_9 : decode cX6_init 9 = .ok (.invokespecial 11, 3) := by decide +kernel
theorem dX6_init_12 : decode cX6_init 12 = .ok (.putfield 12, 3) := by decide +kernel
theorem dX6_init_15 : decode cX6_init 15 = .ok (.aload_n 0, 1) := by decide +kernel
theorem dX6_init_16 : decode cX6_init 16 = .ok (.bipush 64, 2) := by decide +kernel
theorem dX6_init_18 : decode cX6_init 18 = .ok (.newarray .int, 2) := by decide +kernel
theorem dX6_init_20 : decode cX6_init 20 = .ok (.putfield 18, 3) := by decide +kernel
theorem dX6_init_23 : decode cX6_init 23 = .ok (.aload_n 0, 1) := by decide +kernel
theorem dX6_init_24 : decode cX6_init 24 = .ok (.aload_n 1, 1) := by decide +kernel
theorem dX6_init_25 : decode cX6_init 25 = .ok (.putfield 22, 3) := by decide +kernel
theorem dX6_init_28 : decode cX6_init 28 = .ok (.return_, 1) := by decide +kernel
set_option maxHeartbeats 4000000 in
set_option maxRecDepth 100000 in
theorem ct_X5_init (l : Launch) (dC : Nat → ClassId) (dI : Nat → Nat → Nat) (h0 : Nat) (sz : Nat) : Met l yX5_init (.code yX5_init cX5_init 1 none :: tb) ({ frames := 2, cells := 22, slots := 29212, locals := 32 }) (va_Pc [.ref h0] (fun U => U.heap.size = sz ∧ va_P (dC, dI) vwCl [(h0, .inr (5, [.int 0, .null, .null, .null, .null, .int 0, .null, .null, .null, .null, .null, .null, .null, .null]))] U.heap ∧ va_K (dC, dI) vwCl [] U ∧ va_D (fun _ => True) [(h0, .inr (5, [.int 0, .null, .null, .null, .null, .int 0, .null, .null, .null, .null, .null, .null, .null, .null]))] ∧ va_Nw (.methodLinkNest RX5 23 yX7_init "Sleepers") U)) (va_Qv (fun (_ : Unit) => True) (fun (_ : Unit) t => ∃ (q : Nat → Nat), ∃ (sc : Nat), ∃ (qc : Nat → Nat), va_P (dC, dI) vwCl [(h0, .inr (5, [.int 0, .ref (q 0), .ref (q 1), .ref (q 2), .ref sc, .int 0, .ref (q 3), .ref (q 4), .ref (q 5), .ref (q 6), .ref (q 7), .ref (q 8), .ref (q 9), .ref (q 10)])), (sc, .inr (7, [.int 0, .ref (qc 0), .ref (qc 1), .ref (qc 2), .ref (qc 3), .ref (qc 4), .ref (qc 5), .ref (qc 6), .int 0, .ref (qc 7), .ref (qc 8), .ref (qc 9)]))] t.heap ∧ va_K (dC, dI) vwCl [] t ∧ va_D (va_A [(h0, .inr (5, [.int 0, .null, .null, .null, .null, .int 0, .null, .null, .null, .null, .null, .null, .null, .null]))] sz) [(h0, .inr (5, [.int 0, .ref (q 0), .ref (q 1), .ref (q 2), .ref sc, .int 0, .ref (q 3), .ref (q 4), .ref (q 5), .ref (q 6), .ref (q 7), .ref (q 8), .ref (q 9), .ref (q 10)])), (sc, .inr (7, [.int 0, .ref (qc 0), .ref (qc 1), .ref (qc 2), .ref (qc 3), .ref (qc 4), .ref (qc 5), .ref (qc 6), .int 0, .ref (qc 7), .ref (qc 8), .ref (qc 9)]))]) (va_A [(h0, .inr (5, [.int 0, .null, .null, .null, .null, .int 0, .null, .null, .null, .null, .null, .null, .null, .null]))] sz)) 22 29212 (va_A [(h0, .inr (5, [.int 0, .null, .null, .null, .null, .int 0, .null, .null, .null, .null, .null, .null, .null, .null]))] sz) := by
  refine Met.ofW (cc := cX5_init) (maxL := 1) (ret := none) (by decide) rfl ?_
  intro p e s m args below meth c s₁ B hml hv
  obtain ⟨rfl, hsz, hP, hK, hD0, hZ0⟩ := hv
  have hx := B.exec
  have hb := B.bytes
  have hr := B.returns
  have hts : ∀ w ∈ tb, w.before _ s = true := fun w h => atoms_spec (ws := (.code yX5_init cX5_init 1 none :: tb)) B.pre w (List.mem_cons_of_mem _ h)
  have hown : s.vm.findClass RX5 = some m.cls := findClass_of_methodNamed B.named
  have hlocks := B.notSynchronized
  have hin : meth.name = "<init>" := (name_of_methodNamed B.named B.method).1
  subst hsz
  have hD := hD0.self (sz := s.heap.size)
  generalize hAe : va_A [(h0, .inr (5, [.int 0, .null, .null, .null, .null, .int 0, .null, .null, .null, .null, .null, .null, .null, .null]))] s.heap.size = A at hD ⊢
  have hA : ∀ q : Nat, s.heap.size ≤ q → A q := fun q h => by rw [← hAe]; exact Or.inr h
  have hS : va_S A s.heap s.heap [] := va_S.rf
  have hP : va_P (dC, dI) vwCl [(h0, .inr (5, [.int 0, .null, .null, .null, .null, .int 0, .null, .null, .null, .null, .null, .null, .null, .null]))] s.heap := hP
  have hl := lv_entry ([.ref h0]) (n := 1) (Nat.le_of_ble_eq_true rfl)
  rw [lg_entry_eq]
  generalize (lg_sl ([.ref h0]) ++ List.replicate (1 - (lg_sl ([.ref h0])).length) Slot.unset).toArray = ls at hl ⊢
  have hl : lv_has ls 1 [(0, .ref h0)] := hl
  refine lv_aload_n hx hb dX5_init_0 rfl (lv_at hl 0 rfl) ?_
  refine W.objInit hx hb hown (hts _ wd_334) (hts _ wd_30) (hts _ wd_obj) rfl (by rw [hml]; exact hl.1) rfl dX5_init_1 (Nat.le_of_ble_eq_true rfl) (Nat.le_of_ble_eq_true rfl) ?_
  refine W.eq (g2 := F0 m 4 ls []) rfl ?_
  refine lv_aload_n hx hb dX5_init_4 rfl (lv_at hl 0 rfl) ?_
  refine lv_sipush (v := 8064) hx hb dX5_init_5 (by decide) ?_
  refine va_newa (D := (dC, dI)) (atype := .int) (a0 := (8064, .inl (fun _ => 0))) hx hb (hts _ wd_121) rfl hK hP hD hS hA (fun _ => rfl) (by decide) (by decide) (by decide) (Nat.le_of_ble_eq_true rfl) (Nat.le_of_ble_eq_true rfl) dX5_init_8 (fun q1 k2 H hK hP hD hS => ?_)
  have hK : va_K (dC, dI) vwCl [(k2, .int)] s := hK
  have hP : va_P (dC, dI) vwCl [(h0, .inr (5, [.int 0, .null, .null, .null, .null, .int 0, .null, .null, .null, .null, .null, .null, .null, .null])), (q1, .inl (k2, 8064, .inl (fun _ => 0)))] H := hP
  have hD : va_D A [(h0, .inr (5, [.int 0, .null, .null, .null, .null, .int 0, .null, .null, .null, .null, .null, .null, .null, .null])), (q1, .inl (k2, 8064, .inl (fun _ => 0)))] := hD
  refine W.widen (k := 1) (n := 8064) (Nat.le_of_ble_eq_true rfl) (Nat.le_of_ble_eq_true rfl) ?_
  refine va_putF (D := (dC, dI)) (ci := 5) (v := .ref q1) (ty := (tyX5 1)) (C := RX5) (T := TX5) (N := 14) hx hb hts in_X5 tyX5 tyX5_ok nmX5 hown hK hP hD hS 0 rfl rfl 1 (by decide) (hts _ wd_399) (fun _ h9 => h9) rfl hin rfl (tyX5_ok 1 (by decide)) rfl rfl (Nat.le_of_ble_eq_true rfl) dX5_init_10 (fun H locs hP hD hS => ?_)
  have hP : va_P (dC, dI) vwCl [(h0, .inr (5, [.int 0, .ref q1, .null, .null, .null, .int 0, .null, .null, .null, .null, .null, .null, .null, .null])), (q1, .inl (k2, 8064, .inl (fun _ => 0)))] H := hP
  have hD : va_D A [(h0, .inr (5, [.int 0, .ref q1, .null, .null, .null, .int 0, .null, .null, .null, .null, .null, .null, .null, .null])), (q1, .inl (k2, 8064, .inl (fun _ => 0)))] := hD
  have hP := hP.sub (ws' := [(h0, .inr (5, [.int 0, .ref q1, .null, .null, .null, .int 0, .null, .null, .null, .null, .null, .null, .null, .null]))]) [0] rfl
  have hD := hD.sub (ws' := [(h0, .inr (5, [.int 0, .ref q1, .null, .null, .null, .int 0, .null, .null, .null, .null, .null, .null, .null, .null]))]) [0] (by decide) rfl
  have hK := hK.sub (tys' := []) [] rfl
  refine lv_aload_n hx hb dX5_init_13 rfl (lv_at hl 0 rfl) ?_
  refine lv_sipush (v := 8064) hx hb dX5_init_14 (by decide) ?_
  refine va_newa (D := (dC, dI)) (atype := .int) (a0 := (8064, .inl (fun _ => 0))) hx hb (hts _ wd_121) rfl hK hP hD hS hA (fun _ => rfl) (by decide) (by decide) (by decide) (Nat.le_of_ble_eq_true rfl) (Nat.le_of_ble_eq_true rfl) dX5_init_17 (fun q3 k4 H hK hP hD hS => ?_)
  have hK : va_K (dC, dI) vwCl [(k4, .int)] s := hK
  have hP : va_P (dC, dI) vwCl [(h0, .inr (5, [.int 0, .ref q1, .null, .null, .null, .int 0, .null, .null, .null, .null, .null, .null, .null, .null])), (q3, .inl (k4, 8064, .inl (fun _ => 0)))] H := hP
  have hD : va_D A [(h0, .inr (5, [.int 0, .ref q1, .null, .null, .null, .int 0, .null, .null, .null, .null, .null, .null, .null, .null])), (q3, .inl (k4, 8064, .inl (fun _ => 0)))] := hD
  refine W.widen (k := 2) (n := 16128) (Nat.le_of_ble_eq_true rfl) (Nat.le_of_ble_eq_true rfl) ?_
  refine va_putF (D := (dC, dI)) (ci := 5) (v := .ref q3) (ty := (tyX5 2)) (C := RX5) (T := TX5) (N := 14) hx hb hts in_X5 tyX5 tyX5_ok nmX5 hown hK hP hD hS 0 rfl rfl 2 (by decide) (hts _ wd_402) (fun _ h9 => h9) rfl hin rfl (tyX5_ok 2 (by decide)) rfl rfl (Nat.le_of_ble_eq_true rfl) dX5_init_19 (fun H locs hP hD hS => ?_)
  have hP : va_P (dC, dI) vwCl [(h0, .inr (5, [.int 0, .ref q1, .ref q3, .null, .null, .int 0, .null, .null, .null, .null, .null, .null, .null, .null])), (q3, .inl (k4, 8064, .inl (fun _ => 0)))] H := hP
  have hD : va_D A [(h0, .inr (5, [.int 0, .ref q1, .ref q3, .null, .null, .int 0, .null, .null, .null, .null, .null, .null, .null, .null])), (q3, .inl (k4, 8064, .inl (fun _ => 0)))] := hD
  have hP := hP.sub (ws' := [(h0, .inr (5, [.int 0, .ref q1, .ref q3, .null, .null, .int 0, .null, .null, .null, .null, .null, .null, .null, .null]))]) [0] rfl
  have hD := hD.sub (ws' := [(h0, .inr (5, [.int 0, .ref q1, .ref q3, .null, .null, .int 0, .null, .null, .null, .null, .null, .null, .null, .null]))]) [0] (by decide) rfl
  have hK := hK.sub (tys' := []) [] rfl
  refine lv_aload_n hx hb dX5_init_22 rfl (lv_at hl 0 rfl) ?_
  refine lv_sipush (v := 8064) hx hb dX5_init_23 (by decide) ?_
  refine va_newa (D := (dC, dI)) (atype := .int) (a0 := (8064, .inl (fun _ => 0))) hx hb (hts _ wd_121) rfl hK hP hD hS hA (fun _ => rfl) (by decide) (by decide) (by decide) (Nat.le_of_ble_eq_true rfl) (Nat.le_of_ble_eq_true rfl) dX5_init_26 (fun q5 k6 H hK hP hD hS => ?_)
  have hK : va_K (dC, dI) vwCl [(k6, .int)] s := hK
  have hP : va_P (dC, dI) vwCl [(h0, .inr (5, [.int 0, .ref q1, .ref q3, .null, .null, .int 0, .null, .null, .null, .null, .null, .null, .null, .null])), (q5, .inl (k6, 8064, .inl (fun _ => 0)))] H := hP
  have hD : va_D A [(h0, .inr (5, [.int 0, .ref q1, .ref q3, .null, .null, .int 0, .null, .null, .null, .null, .null, .null, .null, .null])), (q5, .inl (k6, 8064, .inl (fun _ => 0)))] := hD
  refine W.widen (k := 3) (n := 24192) (Nat.le_of_ble_eq_true rfl) (Nat.le_of_ble_eq_true rfl) ?_
  refine va_putF (D := (dC, dI)) (ci := 5) (v := .ref q5) (ty := (tyX5 3)) (C := RX5) (T := TX5) (N := 14) hx hb hts in_X5 tyX5 tyX5_ok nmX5 hown hK hP hD hS 0 rfl rfl 3 (by decide) (hts _ wd_406) (fun _ h9 => h9) rfl hin rfl (tyX5_ok 3 (by decide)) rfl rfl (Nat.le_of_ble_eq_true rfl) dX5_init_28 (fun H locs hP hD hS => ?_)
  have hP : va_P (dC, dI) vwCl [(h0, .inr (5, [.int 0, .ref q1, .ref q3, .ref q5, .null, .int 0, .null, .null, .null, .null, .null, .null, .null, .null])), (q5, .inl (k6, 8064, .inl (fun _ => 0)))] H := hP
  have hD : va_D A [(h0, .inr (5, [.int 0, .ref q1, .ref q3, .ref q5, .null, .int 0, .null, .null, .null, .null, .null, .null, .null, .null])), (q5, .inl (k6, 8064, .inl (fun _ => 0)))] := hD
  have hP := hP.sub (ws' := [(h0, .inr (5, [.int 0, .ref q1, .ref q3, .ref q5, .null, .int 0, .null, .null, .null, .null, .null, .null, .null, .null]))]) [0] rfl
  have hD := hD.sub (ws' := [(h0, .inr (5, [.int 0, .ref q1, .ref q3, .ref q5, .null, .int 0, .null, .null, .null, .null, .null, .null, .null, .null]))]) [0] (by decide) rfl
  have hK := hK.sub (tys' := []) [] rfl
  refine lv_aload_n hx hb dX5_init_31 rfl (lv_at hl 0 rfl) ?_
  refine va_new (ci := 7) (fs := [.int 0, .null, .null, .null, .null, .null, .null, .null, .int 0, .null, .null, .null]) (C := RX7) (T := TX7) (N := 12) hx hb hts in_X7 tyX7 tyX7_ok hown (hts _ wd_335) (hts _ wd_336) (hts _ wd_14) hK hP hD hS hA rfl df_X7 (Nat.le_of_ble_eq_true rfl) (Nat.le_of_ble_eq_true rfl) dX5_init_32 (fun q7 H hP hD hS => ?_)
  have hP : va_P (dC, dI) vwCl [(h0, .inr (5, [.int 0, .ref q1, .ref q3, .ref q5, .null, .int 0, .null, .null, .null, .null, .null, .null, .null, .null])), (q7, .inr (7, [.int 0, .null, .null, .null, .null, .null, .null, .null, .int 0, .null, .null, .null]))] H := hP
  have hD : va_D A [(h0, .inr (5, [.int 0, .ref q1, .ref q3, .ref q5, .null, .int 0, .null, .null, .null, .null, .null, .null, .null, .null])), (q7, .inr (7, [.int 0, .null, .null, .null, .null, .null, .null, .null, .int 0, .null, .null, .null]))] := hD
  refine W.widen (k := 4) (n := 24204) (Nat.le_of_ble_eq_true rfl) (Nat.le_of_ble_eq_true rfl) ?_
  refine lv_dup hx hb dX5_init_35 rfl ?_
  have hPc := hP.sub (ws' := [(q7, .inr (7, [.int 0, .null, .null, .null, .null, .null, .null, .null, .int 0, .null, .null, .null]))]) [1] rfl
  have hDc := hD.sub (ws' := [(q7, .inr (7, [.int 0, .null, .null, .null, .null, .null, .null, .null, .int 0, .null, .null, .null]))]) [1] (by decide) rfl
  have hKc := hK.sub (tys' := []) [] rfl
  have hFc := va_free (wc := [(q7, .inr (7, [.int 0, .null, .null, .null, .null, .null, .null, .null, .int 0, .null, .null, .null]))]) hD hS hA [1] rfl
  refine va_callv (va_runIN (As := []) (rest := [.ref q7, .ref h0]) ⟨hx, hb, hml, hown, hts⟩ (ct_X7_init l dC dI q7 H.size) ⟨va_cnB 0 hts (gd_c wd_339) rfl rfl rfl hZ0 (hts _ wd_14) (by decide +kernel) ⟨Nat.le_of_ble_eq_true rfl, Nat.le_of_ble_eq_true rfl⟩, rfl, hts _ wd_338⟩ ⟨fun a U g mk q => by obtain ⟨q0, q1, qP, qK, qD⟩ := q; exact ⟨q0, q1, qP, va_K.moved (u := U) (U := U.calling g mk a) (Vm.Alike.refl U.vm) qK, qD⟩, fun U hU hW => ⟨rfl, by rw [hU], by rw [hU]; exact hPc, va_K.moved hW.alike hKc, hDc.weaken (fun _ _ _ _ => trivial)⟩⟩ rfl rfl hl.1 rfl (lv_room (Nat.le_of_ble_eq_true rfl)) dX5_init_36 ⟨Nat.le_of_ble_eq_true rfl, Nat.le_of_ble_eq_true rfl⟩) hS (fun q _ h => hFc q h) hFc (fun u t H1 locs ht hvm hw hB hz1 hk1 hS => ?_)
  obtain ⟨x8, hP1, hK1, hD1⟩ := hB
  rw [ht] at hP1
  have hK1 := va_K.moved hvm.symm hK1
  obtain ⟨hP, hD⟩ := va_join (wr := [(h0, .inr (5, [.int 0, .ref q1, .ref q3, .ref q5, .null, .int 0, .null, .null, .null, .null, .null, .null, .null, .null]))]) (w1 := [(q7, .inr (7, [.int 0, .ref (x8 0), .ref (x8 1), .ref (x8 2), .ref (x8 3), .ref (x8 4), .ref (x8 5), .ref (x8 6), .int 0, .ref (x8 7), .ref (x8 8), .ref (x8 9)]))]) hP hD [1] [0] rfl rfl (by decide) (by decide) hk1 hFc hP1 hD1
  have hK := (hK.sub (tys' := []) [] rfl).app (hK1.sub (tys' := []) [] rfl)
  generalize H1 = H at hP hS ⊢
  have hP : va_P (dC, dI) vwCl [(h0, .inr (5, [.int 0, .ref q1, .ref q3, .ref q5, .null, .int 0, .null, .null, .null, .null, .null, .null, .null, .null])), (q7, .inr (7, [.int 0, .ref (x8 0), .ref (x8 1), .ref (x8 2), .ref (x8 3), .ref (x8 4), .ref (x8 5), .ref (x8 6), .int 0, .ref (x8 7), .ref (x8 8), .ref (x8 9)]))] H := hP
  have hD : va_D A [(h0, .inr (5, [.int 0, .ref q1, .ref q3, .ref q5, .null, .int 0, .null, .null, .null, .null, .null, .null, .null, .null])), (q7, .inr (7, [.int 0, .ref (x8 0), .ref (x8 1), .ref (x8 2), .ref (x8 3), .ref (x8 4), .ref (x8 5), .ref (x8 6), .int 0, .ref (x8 7), .ref (x8 8), .ref (x8 9)]))] := hD
  have hK : va_K (dC, dI) vwCl [] s := hK
  refine W.widen (k := 14) (n := 28804) (Nat.le_of_ble_eq_true rfl) (Nat.le_of_ble_eq_true rfl) ?_
  refine va_putF (D := (dC, dI)) (ci := 5) (v := .ref q7) (ty := (tyX5 4)) (C := RX5) (T := TX5) (N := 14) hx hb hts in_X5 tyX5 tyX5_ok nmX5 hown hK hP hD hS 0 rfl rfl 4 (by decide) (hts _ wd_409) (fun _ h9 => h9) rfl hin rfl (tyX5_ok 4 (by decide)) rfl rfl (Nat.le_of_ble_eq_true rfl) dX5_init_39 (fun H locs hP hD hS => ?_)
  have hP : va_P (dC, dI) vwCl [(h0, .inr (5, [.int 0, .ref q1, .ref q3, .ref q5, .ref q7, .int 0, .null, .null, .null, .null, .null, .null, .null, .null])), (q7, .inr (7, [.int 0, .ref (x8 0), .ref (x8 1), .ref (x8 2), .ref (x8 3), .ref (x8 4), .ref (x8 5), .ref (x8 6), .int 0, .ref (x8 7), .ref (x8 8), .ref (x8 9)]))] H := hP
  have hD : va_D A [(h0, .inr (5, [.int 0, .ref q1, .ref q3, .ref q5, .ref q7, .int 0, .null, .null, .null, .null, .null, .null, .null, .null])), (q7, .inr (7, [.int 0, .ref (x8 0), .ref (x8 1), .ref (x8 2), .ref (x8 3), .ref (x8 4), .ref (x8 5), .ref (x8 6), .int 0, .ref (x8 7), .ref (x8 8), .ref (x8 9)]))] := hD
  refine lv_aload_n hx hb dX5_init_42 rfl (lv_at hl 0 rfl) ?_
  refine lv_bipush (v := 12) hx hb dX5_init_43 (by decide) ?_
  refine va_newa (D := (dC, dI)) (atype := .int) (a0 := (12, .inl (fun _ => 0))) hx hb (hts _ wd_121) rfl hK hP hD hS hA (fun _ => rfl) (by decide) (by decide) (by decide) (Nat.le_of_ble_eq_true rfl) (Nat.le_of_ble_eq_true rfl) dX5_init_45 (fun q9 k10 H hK hP hD hS => ?_)
  have hK : va_K (dC, dI) vwCl [(k10, .int)] s := hK
  have hP : va_P (dC, dI) vwCl [(h0, .inr (5, [.int 0, .ref q1, .ref q3, .ref q5, .ref q7, .int 0, .null, .null, .null, .null, .null, .null, .null, .null])), (q7, .inr (7, [.int 0, .ref (x8 0), .ref (x8 1), .ref (x8 2), .ref (x8 3), .ref (x8 4), .ref (x8 5), .ref (x8 6), .int 0, .ref (x8 7), .ref (x8 8), .ref (x8 9)])), (q9, .inl (k10, 12, .inl (fun _ => 0)))] H := hP
  have hD : va_D A [(h0, .inr (5, [.int 0, .ref q1, .ref q3, .ref q5, .ref q7, .int 0, .null, .null, .null, .null, .null, .null, .null, .null])), (q7, .inr (7, [.int 0, .ref (x8 0), .ref (x8 1), .ref (x8 2), .ref (x8 3), .ref (x8 4), .ref (x8 5), .ref (x8 6), .int 0, .ref (x8 7), .ref (x8 8), .ref (x8 9)])), (q9, .inl (k10, 12, .inl (fun _ => 0)))] := hD
  refine W.widen (k := 15) (n := 28816) (Nat.le_of_ble_eq_true rfl) (Nat.le_of_ble_eq_true rfl) ?_
  refine va_putF (D := (dC, dI)) (ci := 5) (v := .ref q9) (ty := (tyX5 6)) (C := RX5) (T := TX5) (N := 14) hx hb hts in_X5 tyX5 tyX5_ok nmX5 hown hK hP hD hS 0 rfl rfl 6 (by decide) (hts _ wd_416) (fun _ h9 => h9) rfl hin rfl (tyX5_ok 6 (by decide)) rfl rfl (Nat.le_of_ble_eq_true rfl) dX5_init_47 (fun H locs hP hD hS => ?_)
  have hP : va_P (dC, dI) vwCl [(h0, .inr (5, [.int 0, .ref q1, .ref q3, .ref q5, .ref q7, .int 0, .ref q9, .null, .null, .null, .null, .null, .null, .null])), (q7, .inr (7, [.int 0, .ref (x8 0), .ref (x8 1), .ref (x8 2), .ref (x8 3), .ref (x8 4), .ref (x8 5), .ref (x8 6), .int 0, .ref (x8 7), .ref (x8 8), .ref (x8 9)])), (q9, .inl (k10, 12, .inl (fun _ => 0)))] H := hP
  have hD : va_D A [(h0, .inr (5, [.int 0, .ref q1, .ref q3, .ref q5, .ref q7, .int 0, .ref q9, .null, .null, .null, .null, .null, .null, .null])), (q7, .inr (7, [.int 0, .ref (x8 0), .ref (x8 1), .ref (x8 2), .ref (x8 3), .ref (x8 4), .ref (x8 5), .ref (x8 6), .int 0, .ref (x8 7), .ref (x8 8), .ref (x8 9)])), (q9, .inl (k10, 12, .inl (fun _ => 0)))] := hD
  have hP := hP.sub (ws' := [(h0, .inr (5, [.int 0, .ref q1, .ref q3, .ref q5, .ref q7, .int 0, .ref q9, .null, .null, .null, .null, .null, .null, .null])), (q7, .inr (7, [.int 0, .ref (x8 0), .ref (x8 1), .ref (x8 2), .ref (x8 3), .ref (x8 4), .ref (x8 5), .ref (x8 6), .int 0, .ref (x8 7), .ref (x8 8), .ref (x8 9)]))]) [0, 1] rfl
  have hD := hD.sub (ws' := [(h0, .inr (5, [.int 0, .ref q1, .ref q3, .ref q5, .ref q7, .int 0, .ref q9, .null, .null, .null, .null, .null, .null, .null])), (q7, .inr (7, [.int 0, .ref (x8 0), .ref (x8 1), .ref (x8 2), .ref (x8 3), .ref (x8 4), .ref (x8 5), .ref (x8 6), .int 0, .ref (x8 7), .ref (x8 8), .ref (x8 9)]))]) [0, 1] (by decide) rfl
  have hK := hK.sub (tys' := []) [] rfl
  refine lv_aload_n hx hb dX5_init_50 rfl (lv_at hl 0 rfl) ?_
  refine lv_bipush (v := 12) hx hb dX5_init_51 (by decide) ?_
  refine va_newa (D := (dC, dI)) (atype := .int) (a0 := (12, .inl (fun _ => 0))) hx hb (hts _ wd_121) rfl hK hP hD hS hA (fun _ => rfl) (by decide) (by decide) (by decide) (Nat.le_of_ble_eq_true rfl) (Nat.le_of_ble_eq_true rfl) dX5_init_53 (fun q11 k12 H hK hP hD hS => ?_)
  have hK : va_K (dC, dI) vwCl [(k12, .int)] s := hK
  have hP : va_P (dC, dI) vwCl [(h0, .inr (5, [.int 0, .ref q1, .ref q3, .ref q5, .ref q7, .int 0, .ref q9, .null, .null, .null, .null, .null, .null, .null])), (q7, .inr (7, [.int 0, .ref (x8 0), .ref (x8 1), .ref (x8 2), .ref (x8 3), .ref (x8 4), .ref (x8 5), .ref (x8 6), .int 0, .ref (x8 7), .ref (x8 8), .ref (x8 9)])), (q11, .inl (k12, 12, .inl (fun _ => 0)))] H := hP
  have hD : va_D A [(h0, .inr (5, [.int 0, .ref q1, .ref q3, .ref q5, .ref q7, .int 0, .ref q9, .null, .null, .null, .null, .null, .null, .null])), (q7, .inr (7, [.int 0, .ref (x8 0), .ref (x8 1), .ref (x8 2), .ref (x8 3), .ref (x8 4), .ref (x8 5), .ref (x8 6), .int 0, .ref (x8 7), .ref (x8 8), .ref (x8 9)])), (q11, .inl (k12, 12, .inl (fun _ => 0)))] := hD
  refine W.widen (k := 16) (n := 28828) (Nat.le_of_ble_eq_true rfl) (Nat.le_of_ble_eq_true rfl) ?_
  refine va_putF (D := (dC, dI)) (ci := 5) (v := .ref q11) (ty := (tyX5 7)) (C := RX5) (T := TX5) (N := 14) hx hb hts in_X5 tyX5 tyX5_ok nmX5 hown hK hP hD hS 0 rfl rfl 7 (by decide) (hts _ wd_419) (fun _ h9 => h9) rfl hin rfl (tyX5_ok 7 (by decide)) rfl rfl (Nat.le_of_ble_eq_true rfl) dX5_init_55 (fun H locs hP hD hS => ?_)
  have hP : va_P (dC, dI) vwCl [(h0, .inr (5, [.int 0, .ref q1, .ref q3, .ref q5, .ref q7, .int 0, .ref q9, .ref q11, .null, .null, .null, .null, .null, .null])), (q7, .inr (7, [.int 0, .ref (x8 0), .ref (x8 1), .ref (x8 2), .ref (x8 3), .ref (x8 4), .ref (x8 5), .ref (x8 6), .int 0, .ref (x8 7), .ref (x8 8), .ref (x8 9)])), (q11, .inl (k12, 12, .inl (fun _ => 0)))] H := hP
  have hD : va_D A [(h0, .inr (5, [.int 0, .ref q1, .ref q3, .ref q5, .ref q7, .int 0, .ref q9, .ref q11, .null, .null, .null, .null, .null, .null])), (q7, .inr (7, [.int 0, .ref (x8 0), .ref (x8 1), .ref (x8 2), .ref (x8 3), .ref (x8 4), .ref (x8 5), .ref (x8 6), .int 0, .ref (x8 7), .ref (x8 8), .ref (x8 9)])), (q11, .inl (k12, 12, .inl (fun _ => 0)))] := hD
  have hP := hP.sub (ws' := [(h0, .inr (5, [.int 0, .ref q1, .ref q3, .ref q5, .ref q7, .int 0, .ref q9, .ref q11, .null, .null, .null, .null, .null, .null])), (q7, .inr (7, [.int 0, .ref (x8 0), .ref (x8 1), .ref (x8 2), .ref (x8 3), .ref (x8 4), .ref (x8 5), .ref (x8 6), .int 0, .ref (x8 7), .ref (x8 8), .ref (x8 9)]))]) [0, 1] rfl
  have hD := hD.sub (ws' := [(h0, .inr (5, [.int 0, .ref q1, .ref q3, .ref q5, .ref q7, .int 0, .ref q9, .ref q11, .null, .null, .null, .null, .null, .null])), (q7, .inr (7, [.int 0, .ref (x8 0), .ref (x8 1), .ref (x8 2), .ref (x8 3), .ref (x8 4), .ref (x8 5), .ref (x8 6), .int 0, .ref (x8 7), .ref (x8 8), .ref (x8 9)]))]) [0, 1] (by decide) rfl
  have hK := hK.sub (tys' := []) [] rfl
  refine lv_aload_n hx hb dX5_init_58 rfl (lv_at hl 0 rfl) ?_
  refine lv_bipush (v := 12) hx hb dX5_init_59 (by decide) ?_
  refine va_newa (D := (dC, dI)) (atype := .int) (a0 := (12, .inl (fun _ => 0))) hx hb (hts _ wd_121) rfl hK hP hD hS hA (fun _ => rfl) (by decide) (by decide) (by decide) (Nat.le_of_ble_eq_true rfl) (Nat.le_of_ble_eq_true rfl) dX5_init_61 (fun q13 k14 H hK hP hD hS => ?_)
  have hK : va_K (dC, dI) vwCl [(k14, .int)] s := hK
  have hP : va_P (dC, dI) vwCl [(h0, .inr (5, [.int 0, .ref q1, .ref q3, .ref q5, .ref q7, .int 0, .ref q9, .ref q11, .null, .null, .null, .null, .null, .null])), (q7, .inr (7, [.int 0, .ref (x8 0), .ref (x8 1), .ref (x8 2), .ref (x8 3), .ref (x8 4), .ref (x8 5), .ref (x8 6), .int 0, .ref (x8 7), .ref (x8 8), .ref (x8 9)])), (q13, .inl (k14, 12, .inl (fun _ => 0)))] H := hP
  have hD : va_D A [(h0, .inr (5, [.int 0, .ref q1, .ref q3, .ref q5, .ref q7, .int 0, .ref q9, .ref q11, .null, .null, .null, .null, .null, .null])), (q7, .inr (7, [.int 0, .ref (x8 0), .ref (x8 1), .ref (x8 2), .ref (x8 3), .ref (x8 4), .ref (x8 5), .ref (x8 6), .int 0, .ref (x8 7), .ref (x8 8), .ref (x8 9)])), (q13, .inl (k14, 12, .inl (fun _ => 0)))] := hD
  refine W.widen (k := 17) (n := 28840) (Nat.le_of_ble_eq_true rfl) (Nat.le_of_ble_eq_true rfl) ?_
  refine va_putF (D := (dC, dI)) (ci := 5) (v := .ref q13) (ty := (tyX5 8)) (C := RX5) (T := TX5) (N := 14) hx hb hts in_X5 tyX5 tyX5_ok nmX5 hown hK hP hD hS 0 rfl rfl 8 (by decide) (hts _ wd_421) (fun _ h9 => h9) rfl hin rfl (tyX5_ok 8 (by decide)) rfl rfl (Nat.le_of_ble_eq_true rfl) dX5_init_63 (fun H locs hP hD hS => ?_)
  have hP : va_P (dC, dI) vwCl [(h0, .inr (5, [.int 0, .ref q1, .ref q3, .ref q5, .ref q7, .int 0, .ref q9, .ref q11, .ref q13, .null, .null, .null, .null, .null])), (q7, .inr (7, [.int 0, .ref (x8 0), .ref (x8 1), .ref (x8 2), .ref (x8 3), .ref (x8 4), .ref (x8 5), .ref (x8 6), .int 0, .ref (x8 7), .ref (x8 8), .ref (x8 9)])), (q13, .inl (k14, 12, .inl (fun _ => 0)))] H := hP
  have hD : va_D A [(h0, .inr (5, [.int 0, .ref q1, .ref q3, .ref q5, .ref q7, .int 0, .ref q9, .ref q11, .ref q13, .null, .null, .null, .null, .null])), (q7, .inr (7, [.int 0, .ref (x8 0), .ref (x8 1), .ref (x8 2), .ref (x8 3), .ref (x8 4), .ref (x8 5), .ref (x8 6), .int 0, .ref (x8 7), .ref (x8 8), .ref (x8 9)])), (q13, .inl (k14, 12, .inl (fun _ => 0)))] := hD
  have hP := hP.sub (ws' := [(h0, .inr (5, [.int 0, .ref q1, .ref q3, .ref q5, .ref q7, .int 0, .ref q9, .ref q11, .ref q13, .null, .null, .null, .null, .null])), (q7, .inr (7, [.int 0, .ref (x8 0), .ref (x8 1), .ref (x8 2), .ref (x8 3), .ref (x8 4), .ref (x8 5), .ref (x8 6), .int 0, .ref (x8 7), .ref (x8 8), .ref (x8 9)]))]) [0, 1] rfl
  have hD := hD.sub (ws' := [(h0, .inr (5, [.int 0, .ref q1, .ref q3, .ref q5, .ref q7, .int 0, .ref q9, .ref q11, .ref q13, .null, .null, .null, .null, .null])), (q7, .inr (7, [.int 0, .ref (x8 0), .ref (x8 1), .ref (x8 2), .ref (x8 3), .ref (x8 4), .ref (x8 5), .ref (x8 6), .int 0, .ref (x8 7), .ref (x8 8), .ref (x8 9)]))]) [0, 1] (by decide) rfl
  have hK := hK.sub (tys' := []) [] rfl
  refine lv_aload_n hx hb dX5_init_66 rfl (lv_at hl 0 rfl) ?_
  refine lv_bipush (v := 12) hx hb dX5_init_67 (by decide) ?_
  refine va_newa (D := (dC, dI)) (atype := .int) (a0 := (12, .inl (fun _ => 0))) hx hb (hts _ wd_121) rfl hK hP hD hS hA (fun _ => rfl) (by decide) (by decide) (by decide) (Nat.le_of_ble_eq_true rfl) (Nat.le_of_ble_eq_true rfl) dX5_init_69 (fun q15 k16 H hK hP hD hS => ?_)
  have hK : va_K (dC, dI) vwCl [(k16, .int)] s := hK
  have hP : va_P (dC, dI) vwCl [(h0, .inr (5, [.int 0, .ref q1, .ref q3, .ref q5, .ref q7, .int 0, .ref q9, .ref q11, .ref q13, .null, .null, .null, .null, .null])), (q7, .inr (7, [.int 0, .ref (x8 0), .ref (x8 1), .ref (x8 2), .ref (x8 3), .ref (x8 4), .ref (x8 5), .ref (x8 6), .int 0, .ref (x8 7), .ref (x8 8), .ref (x8 9)])), (q15, .inl (k16, 12, .inl (fun _ => 0)))] H := hP
  have hD : va_D A [(h0, .inr (5, [.int 0, .ref q1, .ref q3, .ref q5, .ref q7, .int 0, .ref q9, .ref q11, .ref q13, .null, .null, .null, .null, .null])), (q7, .inr (7, [.int 0, .ref (x8 0), .ref (x8 1), .ref (x8 2), .ref (x8 3), .ref (x8 4), .ref (x8 5), .ref (x8 6), .int 0, .ref (x8 7), .ref (x8 8), .ref (x8 9)])), (q15, .inl (k16, 12, .inl (fun _ => 0)))] := hD
  refine W.widen (k := 18) (n := 28852) (Nat.le_of_ble_eq_true rfl) (Nat.le_of_ble_eq_true rfl) ?_
  refine va_putF (D := (dC, dI)) (ci := 5) (v := .ref q15) (ty := (tyX5 9)) (C := RX5) (T := TX5) (N := 14) hx hb hts in_X5 tyX5 tyX5_ok nmX5 hown hK hP hD hS 0 rfl rfl 9 (by decide) (hts _ wd_425) (fun _ h9 => h9) rfl hin rfl (tyX5_ok 9 (by decide)) rfl rfl (Nat.le_of_ble_eq_true rfl) dX5_init_71 (fun H locs hP hD hS => ?_)
  have hP : va_P (dC, dI) vwCl [(h0, .inr (5, [.int 0, .ref q1, .ref q3, .ref q5, .ref q7, .int 0, .ref q9, .ref q11, .ref q13, .ref q15, .null, .null, .null, .null])), (q7, .inr (7, [.int 0, .ref (x8 0), .ref (x8 1), .ref (x8 2), .ref (x8 3), .ref (x8 4), .ref (x8 5), .ref (x8 6), .int 0, .ref (x8 7), .ref (x8 8), .ref (x8 9)])), (q15, .inl (k16, 12, .inl (fun _ => 0)))] H := hP
  have hD : va_D A [(h0, .inr (5, [.int 0, .ref q1, .ref q3, .ref q5, .ref q7, .int 0, .ref q9, .ref q11, .ref q13, .ref q15, .null, .null, .null, .null])), (q7, .inr (7, [.int 0, .ref (x8 0), .ref (x8 1), .ref (x8 2), .ref (x8 3), .ref (x8 4), .ref (x8 5), .ref (x8 6), .int 0, .ref (x8 7), .ref (x8 8), .ref (x8 9)])), (q15, .inl (k16, 12, .inl (fun _ => 0)))] := hD
  have hP := hP.sub (ws' := [(h0, .inr (5, [.int 0, .ref q1, .ref q3, .ref q5, .ref q7, .int 0, .ref q9, .ref q11, .ref q13, .ref q15, .null, .null, .null, .null])), (q7, .inr (7, [.int 0, .ref (x8 0), .ref (x8 1), .ref (x8 2), .ref (x8 3), .ref (x8 4), .ref (x8 5), .ref (x8 6), .int 0, .ref (x8 7), .ref (x8 8), .ref (x8 9)]))]) [0, 1] rfl
  have hD := hD.sub (ws' := [(h0, .inr (5, [.int 0, .ref q1, .ref q3, .ref q5, .ref q7, .int 0, .ref q9, .ref q11, .ref q13, .ref q15, .null, .null, .null, .null])), (q7, .inr (7, [.int 0, .ref (x8 0), .ref (x8 1), .ref (x8 2), .ref (x8 3), .ref (x8 4), .ref (x8 5), .ref (x8 6), .int 0, .ref (x8 7), .ref (x8 8), .ref (x8 9)]))]) [0, 1] (by decide) rfl
  have hK := hK.sub (tys' := []) [] rfl
  refine lv_aload_n hx hb dX5_init_74 rfl (lv_at hl 0 rfl) ?_
  refine lv_bipush (v := 12) hx hb dX5_init_75 (by decide) ?_
  refine va_newa (D := (dC, dI)) (atype := .int) (a0 := (12, .inl (fun _ => 0))) hx hb (hts _ wd_121) rfl hK hP hD hS hA (fun _ => rfl) (by decide) (by decide) (by decide) (Nat.le_of_ble_eq_true rfl) (Nat.le_of_ble_eq_true rfl) dX5_init_77 (fun q17 k18 H hK hP hD hS => ?_)
  have hK : va_K (dC, dI) vwCl [(k18, .int)] s := hK
  have hP : va_P (dC, dI) vwCl [(h0, .inr (5, [.int 0, .ref q1, .ref q3, .ref q5, .ref q7, .int 0, .ref q9, .ref q11, .ref q13, .ref q15, .null, .null, .null, .null])), (q7, .inr (7, [.int 0, .ref (x8 0), .ref (x8 1), .ref (x8 2), .ref (x8 3), .ref (x8 4), .ref (x8 5), .ref (x8 6), .int 0, .ref (x8 7), .ref (x8 8), .ref (x8 9)])), (q17, .inl (k18, 12, .inl (fun _ => 0)))] H := hP
  have hD : va_D A [(h0, .inr (5, [.int 0, .ref q1, .ref q3, .ref q5, .ref q7, .int 0, .ref q9, .ref q11, .ref q13, .ref q15, .null, .null, .null, .null])), (q7, .inr (7, [.int 0, .ref (x8 0), .ref (x8 1), .ref (x8 2), .ref (x8 3), .ref (x8 4), .ref (x8 5), .ref (x8 6), .int 0, .ref (x8 7), .ref (x8 8), .ref (x8 9)])), (q17, .inl (k18, 12, .inl (fun _ => 0)))] := hD
  refine W.widen (k := 19) (n := 28864) (Nat.le_of_ble_eq_true rfl) (Nat.le_of_ble_eq_true rfl) ?_
  refine va_putF (D := (dC, dI)) (ci := 5) (v := .ref q17) (ty := (tyX5 10)) (C := RX5) (T := TX5) (N := 14) hx hb hts in_X5 tyX5 tyX5_ok nmX5 hown hK hP hD hS 0 rfl rfl 10 (by decide) (hts _ wd_427) (fun _ h9 => h9) rfl hin rfl (tyX5_ok 10 (by decide)) rfl rfl (Nat.le_of_ble_eq_true rfl) dX5_init_79 (fun H locs hP hD hS => ?_)
  have hP : va_P (dC, dI) vwCl [(h0, .inr (5, [.int 0, .ref q1, .ref q3, .ref q5, .ref q7, .int 0, .ref q9, .ref q11, .ref q13, .ref q15, .ref q17, .null, .null, .null])), (q7, .inr (7, [.int 0, .ref (x8 0), .ref (x8 1), .ref (x8 2), .ref (x8 3), .ref (x8 4), .ref (x8 5), .ref (x8 6), .int 0, .ref (x8 7), .ref (x8 8), .ref (x8 9)])), (q17, .inl (k18, 12, .inl (fun _ => 0)))] H := hP
  have hD : va_D A [(h0, .inr (5, [.int 0, .ref q1, .ref q3, .ref q5, .ref q7, .int 0, .ref q9, .ref q11, .ref q13, .ref q15, .ref q17, .null, .null, .null])), (q7, .inr (7, [.int 0, .ref (x8 0), .ref (x8 1), .ref (x8 2), .ref (x8 3), .ref (x8 4), .ref (x8 5), .ref (x8 6), .int 0, .ref (x8 7), .ref (x8 8), .ref (x8 9)])), (q17, .inl (k18, 12, .inl (fun _ => 0)))] := hD
  have hP := hP.sub (ws' := [(h0, .inr (5, [.int 0, .ref q1, .ref q3, .ref q5, .ref q7, .int 0, .ref q9, .ref q11, .ref q13, .ref q15, .ref q17, .null, .null, .null])), (q7, .inr (7, [.int 0, .ref (x8 0), .ref (x8 1), .ref (x8 2), .ref (x8 3), .ref (x8 4), .ref (x8 5), .ref (x8 6), .int 0, .ref (x8 7), .ref (x8 8), .ref (x8 9)]))]) [0, 1] rfl
  have hD := hD.sub (ws' := [(h0, .inr (5, [.int 0, .ref q1, .ref q3, .ref q5, .ref q7, .int 0, .ref q9, .ref q11, .ref q13, .ref q15, .ref q17, .null, .null, .null])), (q7, .inr (7, [.int 0, .ref (x8 0), .ref (x8 1), .ref (x8 2), .ref (x8 3), .ref (x8 4), .ref (x8 5), .ref (x8 6), .int 0, .ref (x8 7), .ref (x8 8), .ref (x8 9)]))]) [0, 1] (by decide) rfl
  have hK := hK.sub (tys' := []) [] rfl
  refine lv_aload_n hx hb dX5_init_82 rfl (lv_at hl 0 rfl) ?_
  refine lv_sipush (v := 192) hx hb dX5_init_83 (by decide) ?_
  refine va_newa (D := (dC, dI)) (atype := .int) (a0 := (192, .inl (fun _ => 0))) hx hb (hts _ wd_121) rfl hK hP hD hS hA (fun _ => rfl) (by decide) (by decide) (by decide) (Nat.le_of_ble_eq_true rfl) (Nat.le_of_ble_eq_true rfl) dX5_init_86 (fun q19 k20 H hK hP hD hS => ?_)
  have hK : va_K (dC, dI) vwCl [(k20, .int)] s := hK
  have hP : va_P (dC, dI) vwCl [(h0, .inr (5, [.int 0, .ref q1, .ref q3, .ref q5, .ref q7, .int 0, .ref q9, .ref q11, .ref q13, .ref q15, .ref q17, .null, .null, .null])), (q7, .inr (7, [.int 0, .ref (x8 0), .ref (x8 1), .ref (x8 2), .ref (x8 3), .ref (x8 4), .ref (x8 5), .ref (x8 6), .int 0, .ref (x8 7), .ref (x8 8), .ref (x8 9)])), (q19, .inl (k20, 192, .inl (fun _ => 0)))] H := hP
  have hD : va_D A [(h0, .inr (5, [.int 0, .ref q1, .ref q3, .ref q5, .ref q7, .int 0, .ref q9, .ref q11, .ref q13, .ref q15, .ref q17, .null, .null, .null])), (q7, .inr (7, [.int 0, .ref (x8 0), .ref (x8 1), .ref (x8 2), .ref (x8 3), .ref (x8 4), .ref (x8 5), .ref (x8 6), .int 0, .ref (x8 7), .ref (x8 8), .ref (x8 9)])), (q19, .inl (k20, 192, .inl (fun _ => 0)))] := hD
  refine W.widen (k := 20) (n := 29056) (Nat.le_of_ble_eq_true rfl) (Nat.le_of_ble_eq_true rfl) ?_
  refine va_putF (D := (dC, dI)) (ci := 5) (v := .ref q19) (ty := (tyX5 11)) (C := RX5) (T := TX5) (N := 14) hx hb hts in_X5 tyX5 tyX5_ok nmX5 hown hK hP hD hS 0 rfl rfl 11 (by decide) (hts _ wd_429) (fun _ h9 => h9) rfl hin rfl (tyX5_ok 11 (by decide)) rfl rfl (Nat.le_of_ble_eq_true rfl) dX5_init_88 (fun H locs hP hD hS => ?_)
  have hP : va_P (dC, dI) vwCl [(h0, .inr (5, [.int 0, .ref q1, .ref q3, .ref q5, .ref q7, .int 0, .ref q9, .ref q11, .ref q13, .ref q15, .ref q17, .ref q19, .null, .null])), (q7, .inr (7, [.int 0, .ref (x8 0), .ref (x8 1), .ref (x8 2), .ref (x8 3), .ref (x8 4), .ref (x8 5), .ref (x8 6), .int 0, .ref (x8 7), .ref (x8 8), .ref (x8 9)])), (q19, .inl (k20, 192, .inl (fun _ => 0)))] H := hP
  have hD : va_D A [(h0, .inr (5, [.int 0, .ref q1, .ref q3, .ref q5, .ref q7, .int 0, .ref q9, .ref q11, .ref q13, .ref q15, .ref q17, .ref q19, .null, .null])), (q7, .inr (7, [.int 0, .ref (x8 0), .ref (x8 1), .ref (x8 2), .ref (x8 3), .ref (x8 4), .ref (x8 5), .ref (x8 6), .int 0, .ref (x8 7), .ref (x8 8), .ref (x8 9)])), (q19, .inl (k20, 192, .inl (fun _ => 0)))] := hD
  have hP := hP.sub (ws' := [(h0, .inr (5, [.int 0, .ref q1, .ref q3, .ref q5, .ref q7, .int 0, .ref q9, .ref q11, .ref q13, .ref q15, .ref q17, .ref q19, .null, .null])), (q7, .inr (7, [.int 0, .ref (x8 0), .ref (x8 1), .ref (x8 2), .ref (x8 3), .ref (x8 4), .ref (x8 5), .ref (x8 6), .int 0, .ref (x8 7), .ref (x8 8), .ref (x8 9)]))]) [0, 1] rfl
  have hD := hD.sub (ws' := [(h0, .inr (5, [.int 0, .ref q1, .ref q3, .ref q5, .ref q7, .int 0, .ref q9, .ref q11, .ref q13, .ref q15, .ref q17, .ref q19, .null, .null])), (q7, .inr (7, [.int 0, .ref (x8 0), .ref (x8 1), .ref (x8 2), .ref (x8 3), .ref (x8 4), .ref (x8 5), .ref (x8 6), .int 0, .ref (x8 7), .ref (x8 8), .ref (x8 9)]))]) [0, 1] (by decide) rfl
  have hK := hK.sub (tys' := []) [] rfl
  refine lv_aload_n hx hb dX5_init_91 rfl (lv_at hl 0 rfl) ?_
  refine lv_bipush (v := 12) hx hb dX5_init_92 (by decide) ?_
  refine va_newa (D := (dC, dI)) (atype := .long) (a0 := (12, .inr (.inl (fun _ => 0)))) hx hb (hts _ wd_122) rfl hK hP hD hS hA (fun _ => rfl) (by decide) (by decide) (by decide) (Nat.le_of_ble_eq_true rfl) (Nat.le_of_ble_eq_true rfl) dX5_init_94 (fun q21 k22 H hK hP hD hS => ?_)
  have hK : va_K (dC, dI) vwCl [(k22, .long)] s := hK
  have hP : va_P (dC, dI) vwCl [(h0, .inr (5, [.int 0, .ref q1, .ref q3, .ref q5, .ref q7, .int 0, .ref q9, .ref q11, .ref q13, .ref q15, .ref q17, .ref q19, .null, .null])), (q7, .inr (7, [.int 0, .ref (x8 0), .ref (x8 1), .ref (x8 2), .ref (x8 3), .ref (x8 4), .ref (x8 5), .ref (x8 6), .int 0, .ref (x8 7), .ref (x8 8), .ref (x8 9)])), (q21, .inl (k22, 12, .inr (.inl (fun _ => 0))))] H := hP
  have hD : va_D A [(h0, .inr (5, [.int 0, .ref q1, .ref q3, .ref q5, .ref q7, .int 0, .ref q9, .ref q11, .ref q13, .ref q15, .ref q17, .ref q19, .null, .null])), (q7, .inr (7, [.int 0, .ref (x8 0), .ref (x8 1), .ref (x8 2), .ref (x8 3), .ref (x8 4), .ref (x8 5), .ref (x8 6), .int 0, .ref (x8 7), .ref (x8 8), .ref (x8 9)])), (q21, .inl (k22, 12, .inr (.inl (fun _ => 0))))] := hD
  refine W.widen (k := 21) (n := 29068) (Nat.le_of_ble_eq_true rfl) (Nat.le_of_ble_eq_true rfl) ?_
  refine va_putF (D := (dC, dI)) (ci := 5) (v := .ref q21) (ty := (tyX5 12)) (C := RX5) (T := TX5) (N := 14) hx hb hts in_X5 tyX5 tyX5_ok nmX5 hown hK hP hD hS 0 rfl rfl 12 (by decide) (hts _ wd_431) (fun _ h9 => h9) rfl hin rfl (tyX5_ok 12 (by decide)) rfl rfl (Nat.le_of_ble_eq_true rfl) dX5_init_96 (fun H locs hP hD hS => ?_)
  have hP : va_P (dC, dI) vwCl [(h0, .inr (5, [.int 0, .ref q1, .ref q3, .ref q5, .ref q7, .int 0, .ref q9, .ref q11, .ref q13, .ref q15, .ref q17, .ref q19, .ref q21, .null])), (q7, .inr (7, [.int 0, .ref (x8 0), .ref (x8 1), .ref (x8 2), .ref (x8 3), .ref (x8 4), .ref (x8 5), .ref (x8 6), .int 0, .ref (x8 7), .ref (x8 8), .ref (x8 9)])), (q21, .inl (k22, 12, .inr (.inl (fun _ => 0))))] H := hP
  have hD : va_D A [(h0, .inr (5, [.int 0, .ref q1, .ref q3, .ref q5, .ref q7, .int 0, .ref q9, .ref q11, .ref q13, .ref q15, .ref q17, .ref q19, .ref q21, .null])), (q7, .inr (7, [.int 0, .ref (x8 0), .ref (x8 1), .ref (x8 2), .ref (x8 3), .ref (x8 4), .ref (x8 5), .ref (x8 6), .int 0, .ref (x8 7), .ref (x8 8), .ref (x8 9)])), (q21, .inl (k22, 12, .inr (.inl (fun _ => 0))))] := hD
  have hP := hP.sub (ws' := [(h0, .inr (5, [.int 0, .ref q1, .ref q3, .ref q5, .ref q7, .int 0, .ref q9, .ref q11, .ref q13, .ref q15, .ref q17, .ref q19, .ref q21, .null])), (q7, .inr (7, [.int 0, .ref (x8 0), .ref (x8 1), .ref (x8 2), .ref (x8 3), .ref (x8 4), .ref (x8 5), .ref (x8 6), .int 0, .ref (x8 7), .ref (x8 8), .ref (x8 9)]))]) [0, 1] rfl
  have hD := hD.sub (ws' := [(h0, .inr (5, [.int 0, .ref q1, .ref q3, .ref q5, .ref q7, .int 0, .ref q9, .ref q11, .ref q13, .ref q15, .ref q17, .ref q19, .ref q21, .null])), (q7, .inr (7, [.int 0, .ref (x8 0), .ref (x8 1), .ref (x8 2), .ref (x8 3), .ref (x8 4), .ref (x8 5), .ref (x8 6), .int 0, .ref (x8 7), .ref (x8 8), .ref (x8 9)]))]) [0, 1] (by decide) rfl
  have hK := hK.sub (tys' := []) [] rfl
  refine lv_aload_n hx hb dX5_init_99 rfl (lv_at hl 0 rfl) ?_
  refine lv_sipush (v := 144) hx hb dX5_init_100 (by decide) ?_
  refine va_newa (D := (dC, dI)) (atype := .long) (a0 := (144, .inr (.inl (fun _ => 0)))) hx hb (hts _ wd_122) rfl hK hP hD hS hA (fun _ => rfl) (by decide) (by decide) (by decide) (Nat.le_of_ble_eq_true rfl) (Nat.le_of_ble_eq_true rfl) dX5_init_103 (fun q23 k24 H hK hP hD hS => ?_)
  have hK : va_K (dC, dI) vwCl [(k24, .long)] s := hK
  have hP : va_P (dC, dI) vwCl [(h0, .inr (5, [.int 0, .ref q1, .ref q3, .ref q5, .ref q7, .int 0, .ref q9, .ref q11, .ref q13, .ref q15, .ref q17, .ref q19, .ref q21, .null])), (q7, .inr (7, [.int 0, .ref (x8 0), .ref (x8 1), .ref (x8 2), .ref (x8 3), .ref (x8 4), .ref (x8 5), .ref (x8 6), .int 0, .ref (x8 7), .ref (x8 8), .ref (x8 9)])), (q23, .inl (k24, 144, .inr (.inl (fun _ => 0))))] H := hP
  have hD : va_D A [(h0, .inr (5, [.int 0, .ref q1, .ref q3, .ref q5, .ref q7, .int 0, .ref q9, .ref q11, .ref q13, .ref q15, .ref q17, .ref q19, .ref q21, .null])), (q7, .inr (7, [.int 0, .ref (x8 0), .ref (x8 1), .ref (x8 2), .ref (x8 3), .ref (x8 4), .ref (x8 5), .ref (x8 6), .int 0, .ref (x8 7), .ref (x8 8), .ref (x8 9)])), (q23, .inl (k24, 144, .inr (.inl (fun _ => 0))))] := hD
  refine W.widen (k := 22) (n := 29212) (Nat.le_of_ble_eq_true rfl) (Nat.le_of_ble_eq_true rfl) ?_
  refine va_putF (D := (dC, dI)) (ci := 5) (v := .ref q23) (ty := (tyX5 13)) (C := RX5) (T := TX5) (N := 14) hx hb hts in_X5 tyX5 tyX5_ok nmX5 hown hK hP hD hS 0 rfl rfl 13 (by decide) (hts _ wd_432) (fun _ h9 => h9) rfl hin rfl (tyX5_ok 13 (by decide)) rfl rfl (Nat.le_of_ble_eq_true rfl) dX5_init_105 (fun H locs hP hD hS => ?_)
  have hP : va_P (dC, dI) vwCl [(h0, .inr (5, [.int 0, .ref q1, .ref q3, .ref q5, .ref q7, .int 0, .ref q9, .ref q11, .ref q13, .ref q15, .ref q17, .ref q19, .ref q21, .ref q23])), (q7, .inr (7, [.int 0, .ref (x8 0), .ref (x8 1), .ref (x8 2), .ref (x8 3), .ref (x8 4), .ref (x8 5), .ref (x8 6), .int 0, .ref (x8 7), .ref (x8 8), .ref (x8 9)])), (q23, .inl (k24, 144, .inr (.inl (fun _ => 0))))] H := hP
  have hD : va_D A [(h0, .inr (5, [.int 0, .ref q1, .ref q3, .ref q5, .ref q7, .int 0, .ref q9, .ref q11, .ref q13, .ref q15, .ref q17, .ref q19, .ref q21, .ref q23])), (q7, .inr (7, [.int 0, .ref (x8 0), .ref (x8 1), .ref (x8 2), .ref (x8 3), .ref (x8 4), .ref (x8 5), .ref (x8 6), .int 0, .ref (x8 7), .ref (x8 8), .ref (x8 9)])), (q23, .inl (k24, 144, .inr (.inl (fun _ => 0))))] := hD
  have hP := hP.sub (ws' := [(h0, .inr (5, [.int 0, .ref q1, .ref q3, .ref q5, .ref q7, .int 0, .ref q9, .ref q11, .ref q13, .ref q15, .ref q17, .ref q19, .ref q21, .ref q23])), (q7, .inr (7, [.int 0, .ref (x8 0), .ref (x8 1), .ref (x8 2), .ref (x8 3), .ref (x8 4), .ref (x8 5), .ref (x8 6), .int 0, .ref (x8 7), .ref (x8 8), .ref (x8 9)]))]) [0, 1] rfl
  have hD := hD.sub (ws' := [(h0, .inr (5, [.int 0, .ref q1, .ref q3, .ref q5, .ref q7, .int 0, .ref q9, .ref q11, .ref q13, .ref q15, .ref q17, .ref q19, .ref q21, .ref q23])), (q7, .inr (7, [.int 0, .ref (x8 0), .ref (x8 1), .ref (x8 2), .ref (x8 3), .ref (x8 4), .ref (x8 5), .ref (x8 6), .int 0, .ref (x8 7), .ref (x8 8), .ref (x8 9)]))]) [0, 1] (by decide) rfl
  have hK := hK.sub (tys' := []) [] rfl
  have hP9 := hP.sub (ws' := [(h0, .inr (5, [.int 0, .ref q1, .ref q3, .ref q5, .ref q7, .int 0, .ref q9, .ref q11, .ref q13, .ref q15, .ref q17, .ref q19, .ref q21, .ref q23])), (q7, .inr (7, [.int 0, .ref (x8 0), .ref (x8 1), .ref (x8 2), .ref (x8 3), .ref (x8 4), .ref (x8 5), .ref (x8 6), .int 0, .ref (x8 7), .ref (x8 8), .ref (x8 9)]))]) [0, 1] rfl
  have hD9 := hD.sub (ws' := [(h0, .inr (5, [.int 0, .ref q1, .ref q3, .ref q5, .ref q7, .int 0, .ref q9, .ref q11, .ref q13, .ref q15, .ref q17, .ref q19, .ref q21, .ref q23])), (q7, .inr (7, [.int 0, .ref (x8 0), .ref (x8 1), .ref (x8 2), .ref (x8 3), .ref (x8 4), .ref (x8 5), .ref (x8 6), .int 0, .ref (x8 7), .ref (x8 8), .ref (x8 9)]))]) [0, 1] (by decide) rfl
  have hK9 := hK.sub (tys' := []) [] rfl
  refine W.widen (k := 22) (n := 29212) (Nat.le_of_ble_eq_true rfl) (Nat.le_of_ble_eq_true rfl) ?_
  exact W.vret hx hb hr (fun t ht hW => ⟨⟨(), rfl, trivial, (fun k => [q1, q3, q5, q9, q11, q13, q15, q17, q19, q21, q23].getD k 0), q7, x8, by rw [ht]; exact hP9, va_K.moved hW.alike hK9, hD9⟩, hS.F ht⟩) hS.2.2 dX5_init_108
set_option maxHeartbeats 4000000 in
set_option maxRecDepth 100000 in
theorem ct_X6_init (l : Launch) (dC : Nat → ClassId) (dI : Nat → Nat → Nat) (h0 : Nat) (h1 : Nat) (sz : Nat) : Met l yX6_init (.code yX6_init cX6_init 2 none :: tb) ({ frames := 2, cells := 4, slots := 667, locals := 32 }) (va_Pc [.ref h0, .ref h1] (fun U => U.heap.size = sz ∧ va_P (dC, dI) vwCl [(h0, .inr (6, [.int 0, .int 0, .null, .null, .null, .int 0, .int 0, .int 0]))] U.heap ∧ va_K (dC, dI) vwCl [] U ∧ va_D (fun _ => True) [(h0, .inr (6, [.int 0, .int 0, .null, .null, .null, .int 0, .int 0, .int 0]))] ∧ va_Nw (.methodLinkNest RX6 11 yX0_init "Sleepers") U)) (va_Qv (fun (_ : Unit) => True) (fun (_ : Unit) t => ∃ (pu : Nat), ∃ (nu : Nat), ∃ (qu : Nat → Nat), va_P (dC, dI) vwCl [(h0, .inr (6, [.int 0, .int 0, .ref pu, .ref h1, .ref nu, .int 0, .int 0, .int 0])), (pu, .inr (0, [.int 0, .ref (qu 0), .ref (qu 1)]))] t.heap ∧ va_K (dC, dI) vwCl [] t ∧ va_D (va_A [(h0, .inr (6, [.int 0, .int 0, .null, .null, .null, .int 0, .int 0, .int 0]))] sz) [(h0, .inr (6, [.int 0, .int 0, .ref pu, .ref h1, .ref nu, .int 0, .int 0, .int 0])), (pu, .inr (0, [.int 0, .ref (qu 0), .ref (qu 1)]))]) (va_A [(h0, .inr (6, [.int 0, .int 0, .null, .null, .null, .int 0, .int 0, .int 0]))] sz)) 4 667 (va_A [(h0, .inr (6, [.int 0, .int 0, .null, .null, .null, .int 0, .int 0, .int 0]))] sz) := by
  refine Met.ofW (cc := cX6_init) (maxL := 2) (ret := none) (by decide) rfl ?_
  intro p e s m args below meth c s₁ B hml hv
  obtain ⟨rfl, hsz, hP, hK, hD0, hZ0⟩ := hv
  have hx := B.exec
  have hb := B.bytes
  have hr := B.returns
  have hts : ∀ w ∈ tb, w.before _ s = true := fun w h => atoms_spec (ws := (.code yX6_init cX6_init 2 none :: tb)) B.pre w (List.mem_cons_of_mem _ h)
  have hown : s.vm.findClass RX6 = some m.cls := findClass_of_methodNamed B.named
  have hlocks := B.notSynchronized
  have hin : meth.name = "<init>" := (name_of_methodNamed B.named B.method).1
  subst hsz
  have hD := hD0.self (sz := s.heap.size)
  generalize hAe : va_A [(h0, .inr (6, [.int 0, .int 0, .null, .null, .null, .int 0, .int 0, .int 0]))] s.heap.size = A at hD ⊢
  have hA : ∀ q : Nat, s.heap.size ≤ q → A q := fun q h => by rw [← hAe]; exact Or.inr h
  have hS : va_S A s.heap s.heap [] := va_S.rf
  have hP : va_P (dC, dI) vwCl [(h0, .inr (6, [.int 0, .int 0, .null, .null, .null, .int 0, .int 0, .int 0]))] s.heap := hP
  have hl := lv_entry ([.ref h0, .ref h1]) (n := 2) (Nat.le_of_ble_eq_true rfl)
  rw [lg_entry_eq]
  generalize (lg_sl ([.ref h0, .ref h1]) ++ List.replicate (2 - (lg_sl ([.ref h0, .ref h1])).length) Slot.unset).toArray = ls at hl ⊢
  have hl : lv_has ls 2 [(0, .ref h0), (1, .ref h1)] := hl
  refine lv_aload_n hx hb dX6_init_0 rfl (lv_at hl 0 rfl) ?_
  refine W.objInit hx hb hown (hts _ wd_298) (hts _ wd_30) (hts _ wd_obj) rfl (by rw [hml]; exact hl.1) rfl dX6_init_1 (Nat.le_of_ble_eq_true rfl) (Nat.le_of_ble_eq_true rfl) ?_
  refine W.eq (g2 := F0 m 4 ls []) rfl ?_
  refine lv_aload_n hx hb dX6_init_4 rfl (lv_at hl 0 rfl) ?_
  refine va_new (ci := 0) (fs := [.int 0, .null, .null]) (C := RX0) (T := TX0) (N := 3) hx hb hts in_X0 tyX0 tyX0_ok hown (hts _ wd_299) (hts _ wd_217) (hts _ wd_11) hK hP hD hS hA rfl df_X0 (Nat.le_of_ble_eq_true rfl) (Nat.le_of_ble_eq_true rfl) dX6_init_5 (fun q1 H hP hD hS => ?_)
  have hP : va_P (dC, dI) vwCl [(h0, .inr (6, [.int 0, .int 0, .null, .null, .null, .int 0, .int 0, .int 0])), (q1, .inr (0, [.int 0, .null, .null]))] H := hP
  have hD : va_D A [(h0, .inr (6, [.int 0, .int 0, .null, .null, .null, .int 0, .int 0, .int 0])), (q1, .inr (0, [.int 0, .null, .null]))] := hD
  refine W.widen (k := 1) (n := 3) (Nat.le_of_ble_eq_true rfl) (Nat.le_of_ble_eq_true rfl) ?_
  refine lv_dup hx hb dX6_init_8 rfl ?_
  have hPc := hP.sub (ws' := [(q1, .inr (0, [.int 0, .null, .null]))]) [1] rfl
  have hDc := hD.sub (ws' := [(q1, .inr (0, [.int 0, .null, .null]))]) [1] (by decide) rfl
  have hKc := hK.sub (tys' := []) [] rfl
  have hFc := va_free (wc := [(q1, .inr (0, [.int 0, .null, .null]))]) hD hS hA [1] rfl
  refine va_callv (va_runIN (As := []) (rest := [.ref q1, .ref h0]) ⟨hx, hb, hml, hown, hts⟩ (ct_X0_init l dC dI q1 H.size) ⟨va_cnB 0 hts (gd_c wd_220) rfl rfl rfl hZ0 (hts _ wd_11) (by decide +kernel) ⟨Nat.le_of_ble_eq_true rfl, Nat.le_of_ble_eq_true rfl⟩, rfl, hts _ wd_219⟩ ⟨fun a U g mk q => by obtain ⟨q0, q1, qP, qK, qD⟩ := q; exact ⟨q0, q1, qP, va_K.moved (u := U) (U := U.calling g mk a) (Vm.Alike.refl U.vm) qK, qD⟩, fun U hU hW => ⟨rfl, by rw [hU], by rw [hU]; exact hPc, va_K.moved hW.alike hKc, hDc.weaken (fun _ _ _ _ => trivial)⟩⟩ rfl rfl hl.1 rfl (lv_room (Nat.le_of_ble_eq_true rfl)) dX6_init_9 ⟨Nat.le_of_ble_eq_true rfl, Nat.le_of_ble_eq_true rfl⟩) hS (fun q _ h => hFc q h) hFc (fun u t H1 locs ht hvm hw hB hz1 hk1 hS => ?_)
  obtain ⟨x2, hP1, hK1, hD1⟩ := hB
  rw [ht] at hP1
  have hK1 := va_K.moved hvm.symm hK1
  obtain ⟨hP, hD⟩ := va_join (wr := [(h0, .inr (6, [.int 0, .int 0, .null, .null, .null, .int 0, .int 0, .int 0]))]) (w1 := [(q1, .inr (0, [.int 0, .ref (x2 0), .ref (x2 1)]))]) hP hD [1] [0] rfl rfl (by decide) (by decide) hk1 hFc hP1 hD1
  have hK := (hK.sub (tys' := []) [] rfl).app (hK1.sub (tys' := []) [] rfl)
  generalize H1 = H at hP hS ⊢
  have hP : va_P (dC, dI) vwCl [(h0, .inr (6, [.int 0, .int 0, .null, .null, .null, .int 0, .int 0, .int 0])), (q1, .inr (0, [.int 0, .ref (x2 0), .ref (x2 1)]))] H := hP
  have hD : va_D A [(h0, .inr (6, [.int 0, .int 0, .null, .null, .null, .int 0, .int 0, .int 0])), (q1, .inr (0, [.int 0, .ref (x2 0), .ref (x2 1)]))] := hD
  have hK : va_K (dC, dI) vwCl [] s := hK
  refine W.widen (k := 3) (n := 603) (Nat.le_of_ble_eq_true rfl) (Nat.le_of_ble_eq_true rfl) ?_
  refine va_putF (D := (dC, dI)) (ci := 6) (v := .ref q1) (ty := (tyX6 2)) (C := RX6) (T := TX6) (N := 8) hx hb hts in_X6 tyX6 tyX6_ok nmX6 hown hK hP hD hS 0 rfl rfl 2 (by decide) (hts _ wd_305) (fun _ h9 => h9) rfl hin rfl (tyX6_ok 2 (by decide)) rfl rfl (Nat.le_of_ble_eq_true rfl) dX6_init_12 (fun H locs hP hD hS => ?_)
  have hP : va_P (dC, dI) vwCl [(h0, .inr (6, [.int 0, .int 0, .ref q1, .null, .null, .int 0, .int 0, .int 0])), (q1, .inr (0, [.int 0, .ref (x2 0), .ref (x2 1)]))] H := hP
  have hD : va_D A [(h0, .inr (6, [.int 0, .int 0, .ref q1, .null, .null, .int 0, .int 0, .int 0])), (q1, .inr (0, [.int 0, .ref (x2 0), .ref (x2 1)]))] := hD
  refine lv_aload_n hx hb dX6_init_15 rfl (lv_at hl 0 rfl) ?_
  refine lv_bipush (v := 64) hx hb dX6_init_16 (by decide) ?_
  refine va_newa (D := (dC, dI)) (atype := .int) (a0 := (64, .inl (fun _ => 0))) hx hb (hts _ wd_121) rfl hK hP hD hS hA (fun _ => rfl) (by decide) (by decide) (by decide) (Nat.le_of_ble_eq_true rfl) (Nat.le_of_ble_eq_true rfl) dX6_init_18 (fun q3 k4 H hK hP hD hS => ?_)
  have hK : va_K (dC, dI) vwCl [(k4, .int)] s := hK
  have hP : va_P (dC, dI) vwCl [(h0, .inr (6, [.int 0, .int 0, .ref q1, .null, .null, .int 0, .int 0, .int 0])), (q1, .inr (0, [.int 0, .ref (x2 0), .ref (x2 1)])), (q3, .inl (k4, 64, .inl (fun _ => 0)))] H := hP
  have hD : va_D A [(h0, .inr (6, [.int 0, .int 0, .ref q1, .null, .null, .int 0, .int 0, .int 0])), (q1, .inr (0, [.int 0, .ref (x2 0), .ref (x2 1)])), (q3, .inl (k4, 64, .inl (fun _ => 0)))] := hD
  refine W.widen (k := 4) (n := 667) (Nat.le_of_ble_eq_true rfl) (Nat.le_of_ble_eq_true rfl) ?_
  refine va_putF (D := (dC, dI)) (ci := 6) (v := .ref q3) (ty := (tyX6 4)) (C := RX6) (T := TX6) (N := 8) hx hb hts in_X6 tyX6 tyX6_ok nmX6 hown hK hP hD hS 0 rfl rfl 4 (by decide) (hts _ wd_308) (fun _ h9 => h9) rfl hin rfl (tyX6_ok 4 (by decide)) rfl rfl (Nat.le_of_ble_eq_true rfl) dX6_init_20 (fun H locs hP hD hS => ?_)
  have hP : va_P (dC, dI) vwCl [(h0, .inr (6, [.int 0, .int 0, .ref q1, .null, .ref q3, .int 0, .int 0, .int 0])), (q1, .inr (0, [.int 0, .ref (x2 0), .ref (x2 1)])), (q3, .inl (k4, 64, .inl (fun _ => 0)))] H := hP
  have hD : va_D A [(h0, .inr (6, [.int 0, .int 0, .ref q1, .null, .ref q3, .int 0, .int 0, .int 0])), (q1, .inr (0, [.int 0, .ref (x2 0), .ref (x2 1)])), (q3, .inl (k4, 64, .inl (fun _ => 0)))] := hD
  have hP := hP.sub (ws' := [(h0, .inr (6, [.int 0, .int 0, .ref q1, .null, .ref q3, .int 0, .int 0, .int 0])), (q1, .inr (0, [.int 0, .ref (x2 0), .ref (x2 1)]))]) [0, 1] rfl
  have hD := hD.sub (ws' := [(h0, .inr (6, [.int 0, .int 0, .ref q1, .null, .ref q3, .int 0, .int 0, .int 0])), (q1, .inr (0, [.int 0, .ref (x2 0), .ref (x2 1)]))]) [0, 1] (by decide) rfl
  have hK := hK.sub (tys' := []) [] rfl
  refine lv_aload_n hx hb dX6_init_23 rfl (lv_at hl 0 rfl) ?_
  refine lv_aload_n hx hb dX6_init_24 rfl (lv_at hl 1 rfl) ?_
  refine va_putF (D := (dC, dI)) (ci := 6) (v := .ref h1) (ty := (tyX6 3)) (C := RX6) (T := TX6) (N := 8) hx hb hts in_X6 tyX6 tyX6_ok nmX6 hown hK hP hD hS 0 rfl rfl 3 (by decide) (hts _ wd_307) (fun _ h9 => h9) rfl hin rfl (tyX6_ok 3 (by decide)) rfl rfl (Nat.le_of_ble_eq_true rfl) dX6_init_25 (fun H locs hP hD hS => ?_)
  have hP : va_P (dC, dI) vwCl [(h0, .inr (6, [.int 0, .int 0, .ref q1, .ref h1, .ref q3, .int 0, .int 0, .int 0])), (q1, .inr (0, [.int 0, .ref (x2 0), .ref (x2 1)]))] H := hP
  have hD : va_D A [(h0, .inr (6, [.int 0, .int 0, .ref q1, .ref h1, .ref q3, .int 0, .int 0, .int 0])), (q1, .inr (0, [.int 0, .ref (x2 0), .ref (x2 1)]))] := hD
  have hP9 := hP.sub (ws' := [(h0, .inr (6, [.int 0, .int 0, .ref q1, .ref h1, .ref q3, .int 0, .int 0, .int 0])), (q1, .inr (0, [.int 0, .ref (x2 0), .ref (x2 1)]))]) [0, 1] rfl
  have hD9 := hD.sub (ws' := [(h0, .inr (6, [.int 0, .int 0, .ref q1, .ref h1, .ref q3, .int 0, .int 0, .int 0])), (q1, .inr (0, [.int 0, .ref (x2 0), .ref (x2 1)]))]) [0, 1] (by decide) rfl
  have hK9 := hK.sub (tys' := []) [] rfl
  refine W.widen (k := 4) (n := 667) (Nat.le_of_ble_eq_true rfl) (Nat.le_of_ble_eq_true rfl) ?_
  exact W.vret hx hb hr (fun t ht hW => ⟨⟨(), rfl, trivial, q1, q3, x2, by rw [ht]; exact hP9, va_K.moved hW.alike hK9, hD9⟩, hS.F ht⟩) hS.2.2 dX6_init_28
