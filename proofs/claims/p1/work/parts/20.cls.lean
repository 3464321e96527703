theorem wd_208 : (Jvm.Cond.fieldLink "Sleepers$Line" (24 : Nat) "Sleepers$Line" "first" "LSleepers$Part;") ∈ tb := tb_at 208 (by decide +kernel) (by decide +kernel)
theorem wd_210 : (Jvm.Cond.fieldLink "Sleepers$Line" (9 : Nat) "Sleepers$Line" "last" "LSleepers$Part;") ∈ tb := tb_at 210 (by decide +kernel) (by decide +kernel)
theorem wd_222 : (Jvm.Cond.fieldLink "Sleepers$Book" (18 : Nat) "Sleepers$Book" "size" "I") ∈ tb := tb_at 222 (by decide +kernel) (by decide +kernel)
theorem wd_341 : (Jvm.Cond.fieldLink "Sleepers$Scopes" (42 : Nat) "Sleepers$Scopes" "tries" "I") ∈ tb := tb_at 341 (by decide +kernel) (by decide +kernel)
theorem wd_361 : (Jvm.Cond.fieldLink "Sleepers$Scopes" (46 : Nat) "Sleepers$Scopes" "loops" "I") ∈ tb := tb_at 361 (by decide +kernel) (by decide +kernel)
theorem wd_395 : (Jvm.Cond.fieldLink "Sleepers$Program" (53 : Nat) "Sleepers$Program" "size" "I") ∈ tb := tb_at 395 (by decide +kernel) (by decide +kernel)
theorem wd_413 : (Jvm.Cond.fieldLink "Sleepers$Program" (57 : Nat) "Sleepers$Program" "routines" "I") ∈ tb := tb_at 413 (by decide +kernel) (by decide +kernel)
theorem wd_604 : (Jvm.Cond.methodLink "Sleepers$Program" (60 : Nat) ({ cls := "Sleepers$Scopes", name := "clear", desc := "()V" } : Jvm.MethodName)) ∈ tb := tb_at 604 (by decide +kernel) (by decide +kernel)
theorem wd_605 : (Jvm.Cond.instanceMethod ({ cls := "Sleepers$Scopes", name := "clear", desc := "()V" } : Jvm.MethodName)) ∈ tb := tb_at 605 (by decide +kernel) (by decide +kernel)
theorem wd_606 : (Jvm.Cond.selects "Sleepers$Scopes" ({ cls := "Sleepers$Scopes", name := "clear", desc := "()V" } : Jvm.MethodName) ({ cls := "Sleepers$Scopes", name := "clear", desc := "()V" } : Jvm.MethodName)) ∈ tb := tb_at 606 (by decide +kernel) (by decide +kernel)
theorem wd_607 : (Jvm.Cond.code ({ cls := "Sleepers$Scopes", name := "clear", desc := "()V" } : Jvm.MethodName) prog_9_method_2_code (1 : Nat) (Option.none : Option Jvm.ClassFile.FieldType)) ∈ tb := tb_at 607 (by decide +kernel) (by decide +kernel)
theorem dX0_clear_0 : decode cX0_clear 0 = .ok (.aload_n 0, 1) := by decide +kernel
theorem dX0_clear_1 : decode cX0_clear 1 = .ok (.iconst 0, 1) := by decide +kernel
theorem dX0_clear_2 : decode cX0_clear 2 = .ok (.putfield 18, 3) := by decide +kernel
theorem dX0_clear_5 : decode cX0_clear 5 = .ok (.return_, 1) := by decide +kernel
theorem dX2_clear_0 : decode cX2_clear 0 = .ok (.aload_n 0, 1) := by decide +kernel
theorem dX2_clear_1 : decode cX2_clear 1 = .ok (.aconst_null, 1) := by decide +kernel
theorem dX2_clear_2 : decode cX2_clear 2 = .ok (.putfield 24, 3) := by decide +kernel
theorem dX2_clear_5 : decode cX2_clear 5 = .ok (.aload_n 0, 1) := by decide +kernel
theorem dX2_clear_6 : decode cX2_clear 6 = .ok (.aconst_null, 1) := by decide +kernel
theorem dX2_clear_7 : decode cX2_clear 7 = .ok (.putfield 9, 3) := by decide +kernel
theorem dX2_clear_10 : decode cX2_clear 10 = .ok (.return_, 1) := by decide +kernel
theorem dX5_clear_0 : decode cX5_clear 0 = .ok (.aload_n 0, 1) := by decide +kernel
theorem dX5_clear_1 : decode cX5_clear 1 = .ok (.iconst 0, 1) := by decide +kernel
theorem dX5_clear_2 : decode cX5_clear 2 = .ok (.putfield 53, 3) := by decide +kernel
theorem dX5_clear_5 : decode cX5_clear 5 = .ok (.aload_n 0, 1) := by decide +kernel
theorem dX5_clear_6 : decode cX5_clear 6 = .ok (.iconst 0, 1) := by decide +kernel
theorem dX5_clear_7 : decode cX5_clear 7 = .ok (.putfield 57, 3) := by decide +kernel
theorem dX5_clear_10 : decode cX5_clear 10 = .ok (.aload_n 0, 1) := by decide +kernel
theorem dX5_clear_11 : decode cX5_clear 11 = .ok (.getfield 24, 3) := by decide +kernel
theorem dX5_clear_14 : decode cX5_clear 14 = .ok (.invokevirtual 60, 3) := by decide +kernel
theorem dX5_clear_17 : decode cX5_clear 17 = .ok (.return_, 1) := by decide +kernel
theorem dX7_clear_0 : decode cX7_clear 0 = .ok (.aload_n 0, 1) := by decide +kernel
theorem dX7_clear_1 : decode cX7_clear 1 = .ok (.iconst 0, 1) := by decide +kernel
theorem dX7_clear_2 : decode cX7_clear 2 = .ok (.putfield 42, 3) := by decide +kernel
theorem dX7_clear_5 : decode cX7_clear 5 = .ok (.aload_n 0, 1) := by decide +kernel
theorem dX7_clear_6 : decode cX7_clear 6 = .ok (.iconst 0, 1) := by decide +kernel
theorem dX7_clear_7 : decode cX7_clear 7 = .ok (.putfield 46, 3) := by decide +kernel
theorem dX7_clear_10 : decode cX7_clear 10 = .ok (.return_, 1) := by decide +kernel
set_option maxHeartbeats 4000000 in
set_option maxRecDepth 100000 in
theorem ct_X2_clear (l : Launch) (dC : Nat → ClassId) (dI : Nat → Nat → Nat) (h0 : Nat) (sz : Nat) : Met l yX2_clear (.code yX2_clear cX2_clear 1 none :: tb) ({ frames := 0, cells := 0, slots := 0, locals := 0 }) (va_Pc [.ref h0] (fun U => U.heap.size = sz ∧ va_P (dC, dI) vwCl [(h0, .inr (2, [.null, .null]))] U.heap ∧ va_K (dC, dI) vwCl [] U ∧ va_D (fun _ => True) [(h0, .inr (2, [.null, .null]))])) (va_Qv (fun (_ : Unit) => True) (fun (_ : Unit) t => va_P (dC, dI) vwCl [(h0, .inr (2, [.null, .null]))] t.heap ∧ va_K (dC, dI) vwCl [] t ∧ va_D (va_A [(h0, .inr (2, [.null, .null]))] sz) [(h0, .inr (2, [.null, .null]))]) (va_A [(h0, .inr (2, [.null, .null]))] sz)) 0 0 (va_A [(h0, .inr (2, [.null, .null]))] sz) := by
  refine Met.ofW (cc := cX2_clear) (maxL := 1) (ret := none) (by decide) rfl ?_
  intro p e s m args below meth c s₁ B hml hv
  obtain ⟨rfl, hsz, hP, hK, hD0⟩ := hv
  have hx := B.exec
  have hb := B.bytes
  have hr := B.returns
  have hts : ∀ w ∈ tb, w.before _ s = true := fun w h => atoms_spec (ws := (.code yX2_clear cX2_clear 1 none :: tb)) B.pre w (List.mem_cons_of_mem _ h)
  have hown : s.vm.findClass RX2 = some m.cls := findClass_of_methodNamed B.named
  have hlocks := B.notSynchronized
  subst hsz
  have hD := hD0.self (sz := s.heap.size)
  generalize hAe : va_A [(h0, .inr (2, [.null, .null]))] s.heap.size = A at hD ⊢
  have hA : ∀ q : Nat, s.heap.size ≤ q → A q := fun q h => by rw [← hAe]; exact Or.inr h
  have hS : va_S A s.heap s.heap [] := va_S.rf
  have hP : va_P (dC, dI) vwCl [(h0, .inr (2, [.null, .null]))] s.heap := hP
  have hl := lv_entry ([.ref h0]) (n := 1) (Nat.le_of_ble_eq_true rfl)
  rw [lg_entry_eq]
  generalize (lg_sl ([.ref h0]) ++ List.replicate (1 - (lg_sl ([.ref h0])).length) Slot.unset).toArray = ls at hl ⊢
  have hl : lv_has ls 1 [(0, .ref h0)] := hl
  refine lv_aload_n hx hb dX2_clear_0 rfl (lv_at hl 0 rfl) ?_
  refine lv_null hx hb dX2_clear_1 ?_
  refine va_put (D := (dC, dI)) (ci := 2) (v := .null) (ty := (tyX2 0)) (C := RX2) (T := TX2) (N := 2) hx hb hts in_X2 tyX2 tyX2_ok nmX2 hown hK hP hD hS 0 rfl rfl 0 (by decide) (hts _ wd_208) (fun _ h9 => h9) rfl (tyX2_ok 0 (by decide)) rfl rfl (Nat.le_of_ble_eq_true rfl) dX2_clear_2 (fun H locs hP hD hS => ?_)
  have hP : va_P (dC, dI) vwCl [(h0, .inr (2, [.null, .null]))] H := hP
  have hD : va_D A [(h0, .inr (2, [.null, .null]))] := hD
  refine lv_aload_n hx hb dX2_clear_5 rfl (lv_at hl 0 rfl) ?_
  refine lv_null hx hb dX2_clear_6 ?_
  refine va_put (D := (dC, dI)) (ci := 2) (v := .null) (ty := (tyX2 1)) (C := RX2) (T := TX2) (N := 2) hx hb hts in_X2 tyX2 tyX2_ok nmX2 hown hK hP hD hS 0 rfl rfl 1 (by decide) (hts _ wd_210) (fun _ h9 => h9) rfl (tyX2_ok 1 (by decide)) rfl rfl (Nat.le_of_ble_eq_true rfl) dX2_clear_7 (fun H locs hP hD hS => ?_)
  have hP : va_P (dC, dI) vwCl [(h0, .inr (2, [.null, .null]))] H := hP
  have hD : va_D A [(h0, .inr (2, [.null, .null]))] := hD
  have hP9 := hP.sub (ws' := [(h0, .inr (2, [.null, .null]))]) [0] rfl
  have hD9 := hD.sub (ws' := [(h0, .inr (2, [.null, .null]))]) [0] (by decide) rfl
  have hK9 := hK.sub (tys' := []) [] rfl
  refine W.widen (k := 0) (n := 0) (Nat.le_of_ble_eq_true rfl) (Nat.le_of_ble_eq_true rfl) ?_
  exact W.vret hx hb hr (fun t ht hW => ⟨⟨(), rfl, trivial, by rw [ht]; exact hP9, va_K.moved hW.alike hK9, hD9⟩, hS.F ht⟩) hS.2.2 dX2_clear_10
set_option maxHeartbeats 4000000 in
set_option maxRecDepth 100000 in
theorem ct_X0_clear (l : Launch) (dC : Nat → ClassId) (dI : Nat → Nat → Nat) (h0 : Nat) (q : Nat → Nat) (sz : Nat) : Met l yX0_clear (.code yX0_clear cX0_clear 1 none :: tb) ({ frames := 0, cells := 0, slots := 0, locals := 0 }) (va_Pc [.ref h0] (fun U => U.heap.size = sz ∧ va_P (dC, dI) vwCl [(h0, .inr (0, [.int 0, .ref (q 0), .ref (q 1)]))] U.heap ∧ va_K (dC, dI) vwCl [] U ∧ va_D (fun _ => True) [(h0, .inr (0, [.int 0, .ref (q 0), .ref (q 1)]))])) (va_Qv (fun (_ : Unit) => True) (fun (_ : Unit) t => va_P (dC, dI) vwCl [(h0, .inr (0, [.int 0, .ref (q 0), .ref (q 1)]))] t.heap ∧ va_K (dC, dI) vwCl [] t ∧ va_D (va_A [(h0, .inr (0, [.int 0, .ref (q 0), .ref (q 1)]))] sz) [(h0, .inr (0, [.int 0, .ref (q 0), .ref (q 1)]))]) (va_A [(h0, .inr (0, [.int 0, .ref (q 0), .ref (q 1)]))] sz)) 0 0 (va_A [(h0, .inr (0, [.int 0, .ref (q 0), .ref (q 1)]))] sz) := by
  refine Met.ofW (cc := cX0_clear) (maxL := 1) (ret := none) (by decide) rfl ?_
  intro p e s m args below meth c s₁ B hml hv
  obtain ⟨rfl, hsz, hP, hK, hD0⟩ := hv
  have hx := B.exec
  have hb := B.bytes
  have hr := B.returns
  have hts : ∀ w ∈ tb, w.before _ s = true := fun w h => atoms_spec (ws := (.code yX0_clear cX0_clear 1 none :: tb)) B.pre w (List.mem_cons_of_mem _ h)
  have hown : s.vm.findClass RX0 = some m.cls := findClass_of_methodNamed B.named
  have hlocks := B.notSynchronized
  subst hsz
  have hD := hD0.self (sz := s.heap.size)
  generalize hAe : va_A [(h0, .inr (0, [.int 0, .ref (q 0), .ref (q 1)]))] s.heap.size = A at hD ⊢
  have hA : ∀ q : Nat, s.heap.size ≤ q → A q := fun q h => by rw [← hAe]; exact Or.inr h
  have hS : va_S A s.heap s.heap [] := va_S.rf
  have hP : va_P (dC, dI) vwCl [(h0, .inr (0, [.int 0, .ref (q 0), .ref (q 1)]))] s.heap := hP
  have hl := lv_entry ([.ref h0]) (n := 1) (Nat.le_of_ble_eq_true rfl)
  rw [lg_entry_eq]
  generalize (lg_sl ([.ref h0]) ++ List.replicate (1 - (lg_sl ([.ref h0])).length) Slot.unset).toArray = ls at hl ⊢
  have hl : lv_has ls 1 [(0, .ref h0)] := hl
  refine lv_aload_n hx hb dX0_clear_0 rfl (lv_at hl 0 rfl) ?_
  refine lv_iconst (v := 0) hx hb dX0_clear_1 (by decide) ?_
  refine va_put (D := (dC, dI)) (ci := 0) (v := .int 0) (ty := (tyX0 0)) (C := RX0) (T := TX0) (N := 3) hx hb hts in_X0 tyX0 tyX0_ok nmX0 hown hK hP hD hS 0 rfl rfl 0 (by decide) (hts _ wd_222) (fun _ h9 => h9) rfl (tyX0_ok 0 (by decide)) rfl rfl (Nat.le_of_ble_eq_true rfl) dX0_clear_2 (fun H locs hP hD hS => ?_)
  have hP : va_P (dC, dI) vwCl [(h0, .inr (0, [.int 0, .ref (q 0), .ref (q 1)]))] H := hP
  have hD : va_D A [(h0, .inr (0, [.int 0, .ref (q 0), .ref (q 1)]))] := hD
  have hP9 := hP.sub (ws' := [(h0, .inr (0, [.int 0, .ref (q 0), .ref (q 1)]))]) [0] rfl
  have hD9 := hD.sub (ws' := [(h0, .inr (0, [.int 0, .ref (q 0), .ref (q 1)]))]) [0] (by decide) rfl
  have hK9 := hK.sub (tys' := []) [] rfl
  refine W.widen (k := 0) (n := 0) (Nat.le_of_ble_eq_true rfl) (Nat.le_of_ble_eq_true rfl) ?_
  exact W.vret hx hb hr (fun t ht hW => ⟨⟨(), rfl, trivial, by rw [ht]; exact hP9, va_K.moved hW.alike hK9, hD9⟩, hS.F ht⟩) hS.2.2 dX0_clear_5
set_option maxHeartbeats 4000000 in
set_option maxRecDepth 100000 in
theorem ct_X7_clear (l : Launch) (dC : Nat → ClassId) (dI : Nat → Nat → Nat) (h0 : Nat) (q : Nat → Nat) (sz : Nat) : Met l yX7_clear (.code yX7_clear cX7_clear 1 none :: tb) ({ frames := 0, cells := 0, slots := 0, locals := 0 }) (va_Pc [.ref h0] (fun U => U.heap.size = sz ∧ va_P (dC, dI) vwCl [(h0, .inr (7, [.int 0, .ref (q 0), .ref (q 1), .ref (q 2), .ref (q 3), .ref (q 4), .ref (q 5), .ref (q 6), .int 0, .ref (q 7), .ref (q 8), .ref (q 9)]))] U.heap ∧ va_K (dC, dI) vwCl [] U ∧ va_D (fun _ => True) [(h0, .inr (7, [.int 0, .ref (q 0), .ref (q 1), .ref (q 2), .ref (q 3), .ref (q 4), .ref (q 5), .ref (q 6), .int 0, .ref (q 7), .ref (q 8), .ref (q 9)]))])) (va_Qv (fun (_ : Unit) => True) (fun (_ : Unit) t => va_P (dC, dI) vwCl [(h0, .inr (7, [.int 0, .ref (q 0), .ref (q 1), .ref (q 2), .ref (q 3), .ref (q 4), .ref (q 5), .ref (q 6), .int 0, .ref (q 7), .ref (q 8), .ref (q 9)]))] t.heap ∧ va_K (dC, dI) vwCl [] t ∧ va_D (va_A [(h0, .inr (7, [.int 0, .ref (q 0), .ref (q 1), .ref (q 2), .ref (q 3), .ref (q 4), .ref (q 5), .ref (q 6), .int 0, .ref (q 7), .ref (q 8), .ref (q 9)]))] sz) [(h0, .inr (7, [.int 0, .ref (q 0), .ref (q 1), .ref (q 2), .ref (q 3), .ref (q 4), .ref (q 5), .ref (q 6), .int 0, .ref (q 7), .ref (q 8), .ref (q 9)]))]) (va_A [(h0, .inr (7, [.int 0, .ref (q 0), .ref (q 1), .ref (q 2), .ref (q 3), .ref (q 4), .ref (q 5), .ref (q 6), .int 0, .ref (q 7), .ref (q 8), .ref (q 9)]))] sz)) 0 0 (va_A [(h0, .inr (7, [.int 0, .ref (q 0), .ref (q 1), .ref (q 2), .ref (q 3), .ref (q 4), .ref (q 5), .ref (q 6), .int 0, .ref (q 7), .ref (q 8), .ref (q 9)]))] sz) := by
  refine Met.ofW (cc := cX7_clear) (maxL := 1) (ret := none) (by decide) rfl ?_
  intro p e s m args below meth c s₁ B hml hv
  obtain ⟨rfl, hsz, hP, hK, hD0⟩ := hv
  have hx := B.exec
  have hb := B.bytes
  have hr := B.returns
  have hts : ∀ w ∈ tb, w.before _ s = true := fun w h => atoms_spec (ws := (.code yX7_clear cX7_clear 1 none :: tb)) B.pre w (List.mem_cons_of_mem _ h)
  have hown : s.vm.findClass RX7 = some m.cls := findClass_of_methodNamed B.named
  have hlocks := B.notSynchronized
  subst hsz
  have hD := hD0.self (sz := s.heap.size)
  generalize hAe : va_A [(h0, .inr (7, [.int 0, .ref (q 0), .ref (q 1), .ref (q 2), .ref (q 3), .ref (q 4), .ref (q 5), .ref (q 6), .int 0, .ref (q 7), .ref (q 8), .ref (q 9)]))] s.heap.size = A at hD ⊢
  have hA : ∀ q : Nat, s.heap.size ≤ q → A q := fun q h => by rw [← hAe]; exact Or.inr h
  have hS : va_S A s.heap s.heap [] := va_S.rf
  have hP : va_P (dC, dI) vwCl [(h0, .inr (7, [.int 0, .ref (q 0), .ref (q 1), .ref (q 2), .ref (q 3), .ref (q 4), .ref (q 5), .ref (q 6), .int 0, .ref (q 7), .ref (q 8), .ref (q 9)]))] s.heap := hP
  have hl := lv_entry ([.ref h0]) (n := 1) (Nat.le_of_ble_eq_true rfl)
  rw [lg_entry_eq]
  generalize (lg_sl ([.ref h0]) ++ List.replicate (1 - (lg_sl ([.ref h0])).length) Slot.unset).toArray = ls at hl ⊢
  have hl : lv_has ls 1 [(0, .ref h0)] := hl
  refine lv_aload_n hx hb dX7_clear_0 rfl (lv_at hl 0 rfl) ?_
  refine lv_iconst (v := 0) hx hb dX7_clear_1 (by decide) ?_
  refine va_put (D := (dC, dI)) (ci := 7) (v := .int 0) (ty := (tyX7 0)) (C := RX7) (T := TX7) (N := 12) hx hb hts in_X7 tyX7 tyX7_ok nmX7 hown hK hP hD hS 0 rfl rfl 0 (by decide) (hts _ wd_341) (fun _ h9 => h9) rfl (tyX7_ok 0 (by decide)) rfl rfl (Nat.le_of_ble_eq_true rfl) dX7_clear_2 (fun H locs hP hD hS => ?_)
  have hP : va_P (dC, dI) vwCl [(h0, .inr (7, [.int 0, .ref (q 0), .ref (q 1), .ref (q 2), .ref (q 3), .ref (q 4), .ref (q 5), .ref (q 6), .int 0, .ref (q 7), .ref (q 8), .ref (q 9)]))] H := hP
  have hD : va_D A [(h0, .inr (7, [.int 0, .ref (q 0), .ref (q 1), .ref (q 2), .ref (q 3), .ref (q 4), .ref (q 5), .ref (q 6), .int 0, .ref (q 7), .ref (q 8), .ref (q 9)]))] := hD
  refine lv_aload_n hx hb dX7_clear_5 rfl (lv_at hl 0 rfl) ?_
  refine lv_iconst (v := 0) hx hb dX7_clear_6 (by decide) ?_
  refine va_put (D := (dC, dI)) (ci := 7) (v := .int 0) (ty := (tyX7 8)) (C := RX7) (T := TX7) (N := 12) hx hb hts in_X7 tyX7 tyX7_ok nmX7 hown hK hP hD hS 0 rfl rfl 8 (by decide) (hts _ wd_361) (fun _ h9 => h9) rfl (tyX7_ok 8 (by decide)) rfl rfl (Nat.le_of_ble_eq_true rfl) dX7_clear_7 (fun H locs hP hD hS => ?_)
  have hP : va_P (dC, dI) vwCl [(h0, .inr (7, [.int 0, .ref (q 0), .ref (q 1), .ref (q 2), .ref (q 3), .ref (q 4), .ref (q 5), .ref (q 6), .int 0, .ref (q 7), .ref (q 8), .ref (q 9)]))] H := hP
  have hD : va_D A [(h0, .inr (7, [.int 0, .ref (q 0), .ref (q 1), .ref (q 2), .ref (q 3), .ref (q 4), .ref (q 5), .ref (q 6), .int 0, .ref (q 7), .ref (q 8), .ref (q 9)]))] := hD
  have hP9 := hP.sub (ws' := [(h0, .inr (7, [.int 0, .ref (q 0), .ref (q 1), .ref (q 2), .ref (q 3), .ref (q 4), .ref (q 5), .ref (q 6), .int 0, .ref (q 7), .ref (q 8), .ref (q 9)]))]) [0] rfl
  have hD9 := hD.sub (ws' := [(h0, .inr (7, [.int 0, .ref (q 0), .ref (q 1), .ref (q 2), .ref (q 3), .ref (q 4), .ref (q 5), .ref (q 6), .int 0, .ref (q 7), .ref (q 8), .ref (q 9)]))]) [0] (by decide) rfl
  have hK9 := hK.sub (tys' := []) [] rfl
  refine W.widen (k := 0) (n := 0) (Nat.le_of_ble_eq_true rfl) (Nat.le_of_ble_eq_true rfl) ?_
  exact W.vret hx hb hr (fun t ht hW => ⟨⟨(), rfl, trivial, by rw [ht]; exact hP9, va_K.moved hW.alike hK9, hD9⟩, hS.F ht⟩) hS.2.2 dX7_clear_10
set_option maxHeartbeats 4000000 in
set_option maxRecDepth 100000 in
theorem ct_X5_clear (l : Launch) (dC : Nat → ClassId) (dI : Nat → Nat → Nat) (h0 : Nat) (q : Nat → Nat) (sc : Nat) (qc : Nat → Nat) (sz : Nat) : Met l yX5_clear (.code yX5_clear cX5_clear 1 none :: tb) ({ frames := 1, cells := 0, slots := 0, locals := 20 }) (va_Pc [.ref h0] (fun U => U.heap.size = sz ∧ va_P (dC, dI) vwCl [(h0, .inr (5, [.int 0, .ref (q 0), .ref (q 1), .ref (q 2), .ref sc, .int 0, .ref (q 3), .ref (q 4), .ref (q 5), .ref (q 6), .ref (q 7), .ref (q 8), .ref (q 9), .ref (q 10)])), (sc, .inr (7, [.int 0, .ref (qc 0), .ref (qc 1), .ref (qc 2), .ref (qc 3), .ref (qc 4), .ref (qc 5), .ref (qc 6), .int 0, .ref (qc 7), .ref (qc 8), .ref (qc 9)]))] U.heap ∧ va_K (dC, dI) vwCl [] U ∧ va_D (fun _ => True) [(h0, .inr (5, [.int 0, .ref (q 0), .ref (q 1), .ref (q 2), .ref sc, .int 0, .ref (q 3), .ref (q 4), .ref (q 5), .ref (q 6), .ref (q 7), .ref (q 8), .ref (q 9), .ref (q 10)])), (sc, .inr (7, [.int 0, .ref (qc 0), .ref (qc 1), .ref (qc 2), .ref (qc 3), .ref (qc 4), .ref (qc 5), .ref (qc 6), .int 0, .ref (qc 7), .ref (qc 8), .ref (qc 9)]))])) (va_Qv (fun (_ : Unit) => True) (fun (_ : Unit) t => va_P (dC, dI) vwCl [(h0, .inr (5, [.int 0, .ref (q 0), .ref (q 1), .ref (q 2), .ref sc, .int 0, .ref (q 3), .ref (q 4), .ref (q 5), .ref (q 6), .ref (q 7), .ref (q 8), .ref (q 9), .ref (q 10)])), (sc, .inr (7, [.int 0, .ref (qc 0), .ref (qc 1), .ref (qc 2), .ref (qc 3), .ref (qc 4), .ref (qc 5), .ref (qc 6), .int 0, .ref (qc 7), .ref (qc 8), .ref (qc 9)]))] t.heap ∧ va_K (dC, dI) vwCl [] t ∧ va_D (va_A [(h0, .inr (5, [.int 0, .ref (q 0), .ref (q 1), .ref (q 2), .ref sc, .int 0, .ref (q 3), .ref (q 4), .ref (q 5), .ref (q 6), .ref (q 7), .ref (q 8), .ref (q 9), .ref (q 10)])), (sc, .inr (7, [.int 0, .ref (qc 0), .ref (qc 1), .ref (qc 2), .ref (qc 3), .ref (qc 4), .ref (qc 5), .ref (qc 6), .int 0, .ref (qc 7), .ref (qc 8), .ref (qc 9)]))] sz) [(h0, .inr (5, [.int 0, .ref (q 0), .ref (q 1), .ref (q 2), .ref sc, .int 0, .ref (q 3), .ref (q 4), .ref (q 5), .ref (q 6), .ref (q 7), .ref (q 8), .ref (q 9), .ref (q 10)])), (sc, .inr (7, [.int 0, .ref (qc 0), .ref (qc 1), .ref (qc 2), .ref (qc 3), .ref (qc 4), .ref (qc 5), .ref (qc 6), .int 0, .ref (qc 7), .ref (qc 8), .ref (qc 9)]))]) (va_A [(h0, .inr (5, [.int 0, .ref (q 0), .ref (q 1), .ref (q 2), .ref sc, .int 0, .ref (q 3), .ref (q 4), .ref (q 5), .ref (q 6), .ref (q 7), .ref (q 8), .ref (q 9), .ref (q 10)])), (sc, .inr (7, [.int 0, .ref (qc 0), .ref (qc 1), .ref (qc 2), .ref (qc 3), .ref (qc 4), .ref (qc 5), .ref (qc 6), .int 0, .ref (qc 7), .ref (qc 8), .ref (qc 9)]))] sz)) 0 0 (va_A [(h0, .inr (5, [.int 0, .ref (q 0), .ref (q 1), .ref (q 2), .ref sc, .int 0, .ref (q 3), .ref (q 4), .ref (q 5), .ref (q 6), .ref (q 7), .ref (q 8), .ref (q 9), .ref (q 10)])), (sc, .inr (7, [.int 0, .ref (qc 0), .ref (qc 1), .ref (qc 2), .ref (qc 3), .ref (qc 4), .ref (qc 5), .ref (qc 6), .int 0, .ref (qc 7), .ref (qc 8), .ref (qc 9)]))] sz) := by
  refine Met.ofW (cc := cX5_clear) (maxL := 1) (ret := none) (by decide) rfl ?_
  intro p e s m args below meth c s₁ B hml hv
  obtain ⟨rfl, hsz, hP, hK, hD0⟩ := hv
  have hx := B.exec
  have hb := B.bytes
  have hr := B.returns
  have hts : ∀ w ∈ tb, w.before _ s = true := fun w h => atoms_spec (ws := (.code yX5_clear cX5_clear 1 none :: tb)) B.pre w (List.mem_cons_of_mem _ h)
  have hown : s.vm.findClass RX5 = some m.cls := findClass_of_methodNamed B.named
  have hlocks := B.notSynchronized
  subst hsz
  have hD := hD0.self (sz := s.heap.size)
  generalize hAe : va_A [(h0, .inr (5, [.int 0, .ref (q 0), .ref (q 1), .ref (q 2), .ref sc, .int 0, .ref (q 3), .ref (q 4), .ref (q 5), .ref (q 6), .ref (q 7), .ref (q 8), .ref (q 9), .ref (q 10)])), (sc, .inr (7, [.int 0, .ref (qc 0), .ref (qc 1), .ref (qc 2), .ref (qc 3), .ref (qc 4), .ref (qc 5), .ref (qc 6), .int 0, .ref (qc 7), .ref (qc 8), .ref (qc 9)]))] s.heap.size = A at hD ⊢
  have hA : ∀ q : Nat, s.heap.size ≤ q → A q := fun q h => by rw [← hAe]; exact Or.inr h
  have hS : va_S A s.heap s.heap [] := va_S.rf
  have hP : va_P (dC, dI) vwCl [(h0, .inr (5, [.int 0, .ref (q 0), .ref (q 1), .ref (q 2), .ref sc, .int 0, .ref (q 3), .ref (q 4), .ref (q 5), .ref (q 6), .ref (q 7), .ref (q 8), .ref (q 9), .ref (q 10)])), (sc, .inr (7, [.int 0, .ref (qc 0), .ref (qc 1), .ref (qc 2), .ref (qc 3), .ref (qc 4), .ref (qc 5), .ref (qc 6), .int 0, .ref (qc 7), .ref (qc 8), .ref (qc 9)]))] s.heap := hP
  have hl := lv_entry ([.ref h0]) (n := 1) (Nat.le_of_ble_eq_true rfl)
  rw [lg_entry_eq]
  generalize (lg_sl ([.ref h0]) ++ List.replicate (1 - (lg_sl ([.ref h0])).length) Slot.unset).toArray = ls at hl ⊢
  have hl : lv_has ls 1 [(0, .ref h0)] := hl
  refine lv_aload_n hx hb dX5_clear_0 rfl (lv_at hl 0 rfl) ?_
  refine lv_iconst (v := 0) hx hb dX5_clear_1 (by decide) ?_
  refine va_put (D := (dC, dI)) (ci := 5) (v := .int 0) (ty := (tyX5 0)) (C := RX5) (T := TX5) (N := 14) hx hb hts in_X5 tyX5 tyX5_ok nmX5 hown hK hP hD hS 0 rfl rfl 0 (by decide) (hts _ wd_395) (fun _ h9 => h9) rfl (tyX5_ok 0 (by decide)) rfl rfl (Nat.le_of_ble_eq_true rfl) dX5_clear_2 (fun H locs hP hD hS => ?_)
  have hP : va_P (dC, dI) vwCl [(h0, .inr (5, [.int 0, .ref (q 0), .ref (q 1), .ref (q 2), .ref sc, .int 0, .ref (q 3), .ref (q 4), .ref (q 5), .ref (q 6), .ref (q 7), .ref (q 8), .ref (q 9), .ref (q 10)])), (sc, .inr (7, [.int 0, .ref (qc 0), .ref (qc 1), .ref (qc 2), .ref (qc 3), .ref (qc 4), .ref (qc 5), .ref (qc 6), .int 0, .ref (qc 7), .ref (qc 8), .ref (qc 9)]))] H := hP
  have hD : va_D A [(h0, .inr (5, [.int 0, .ref (q 0), .ref (q 1), .ref (q 2), .ref sc, .int 0, .ref (q 3), .ref (q 4), .ref (q 5), .ref (q 6), .ref (q 7), .ref (q 8), .ref (q 9), .ref (q 10)])), (sc, .inr (7, [.int 0, .ref (qc 0), .ref (qc 1), .ref (qc 2), .ref (qc 3), .ref (qc 4), .ref (qc 5), .ref (qc 6), .int 0, .ref (qc 7), .ref (qc 8), .ref (qc 9)]))] := hD
  refine lv_aload_n hx hb dX5_clear_5 rfl (lv_at hl 0 rfl) ?_
  refine lv_iconst (v := 0) hx hb dX5_clear_6 (by decide) ?_
  refine va_put (D := (dC, dI)) (ci := 5) (v := .int 0) (ty := (tyX5 5)) (C := RX5) (T := TX5) (N := 14) hx hb hts in_X5 tyX5 tyX5_ok nmX5 hown hK hP hD hS 0 rfl rfl 5 (by decide) (hts _ wd_413) (fun _ h9 => h9) rfl (tyX5_ok 5 (by decide)) rfl rfl (Nat.le_of_ble_eq_true rfl) dX5_clear_7 (fun H locs hP hD hS => ?_)
  have hP : va_P (dC, dI) vwCl [(h0, .inr (5, [.int 0, .ref (q 0), .ref (q 1), .ref (q 2), .ref sc, .int 0, .ref (q 3), .ref (q 4), .ref (q 5), .ref (q 6), .ref (q 7), .ref (q 8), .ref (q 9), .ref (q 10)])), (sc, .inr (7, [.int 0, .ref (qc 0), .ref (qc 1), .ref (qc 2), .ref (qc 3), .ref (qc 4), .ref (qc 5), .ref (qc 6), .int 0, .ref (qc 7), .ref (qc 8), .ref (qc 9)]))] H := hP
  have hD : va_D A [(h0, .inr (5, [.int 0, .ref (q 0), .ref (q 1), .ref (q 2), .ref sc, .int 0, .ref (q 3), .ref (q 4), .ref (q 5), .ref (q 6), .ref (q 7), .ref (q 8), .ref (q 9), .ref (q 10)])), (sc, .inr (7, [.int 0, .ref (qc 0), .ref (qc 1), .ref (qc 2), .ref (qc 3), .ref (qc 4), .ref (qc 5), .ref (qc 6), .int 0, .ref (qc 7), .ref (qc 8), .ref (qc 9)]))] := hD
  refine lv_aload_n hx hb dX5_clear_10 rfl (lv_at hl 0 rfl) ?_
  refine va_get (D := (dC, dI)) (ci := 5) (v := .ref sc) (C := RX5) (T := TX5) (N := 14) hx hb hts in_X5 hown hK hP 0 rfl rfl 4 (by decide) (hts _ wd_409) (fun _ h9 => h9) rfl dX5_clear_11 ?_
  have hPc := hP.sub (ws' := [(sc, .inr (7, [.int 0, .ref (qc 0), .ref (qc 1), .ref (qc 2), .ref (qc 3), .ref (qc 4), .ref (qc 5), .ref (qc 6), .int 0, .ref (qc 7), .ref (qc 8), .ref (qc 9)]))]) [1] rfl
  have hDc := hD.sub (ws' := [(sc, .inr (7, [.int 0, .ref (qc 0), .ref (qc 1), .ref (qc 2), .ref (qc 3), .ref (qc 4), .ref (qc 5), .ref (qc 6), .int 0, .ref (qc 7), .ref (qc 8), .ref (qc 9)]))]) [1] (by decide) rfl
  have hKc := hK.sub (tys' := []) [] rfl
  have hFc := va_free (wc := [(sc, .inr (7, [.int 0, .ref (qc 0), .ref (qc 1), .ref (qc 2), .ref (qc 3), .ref (qc 4), .ref (qc 5), .ref (qc 6), .int 0, .ref (qc 7), .ref (qc 8), .ref (qc 9)]))]) hD hS hA [1] rfl
  refine va_callv (va_runV (As := []) (rest := []) ⟨hx, hb, hml, hown, hts⟩ (ct_X7_clear l dC dI sc qc H.size) (cwV 0 hts (gd_V wd_604 wd_605 wd_606 wd_14 wd_607) rfl rfl rfl (by decide +kernel) ⟨Nat.le_of_ble_eq_true rfl, Nat.le_of_ble_eq_true rfl⟩) ⟨fun a U g mk q => by obtain ⟨q0, q1, qP, qK, qD⟩ := q; exact ⟨q0, q1, qP, va_K.moved (u := U) (U := U.calling g mk a) (Vm.Alike.refl U.vm) qK, qD⟩, va_recv hKc hPc (ci := 7) (q0 := 0) rfl rfl, fun U hU hW => ⟨rfl, by rw [hU], by rw [hU]; exact hPc, va_K.moved hW.alike hKc, hDc.weaken (fun _ _ _ _ => trivial)⟩⟩ rfl rfl hl.1 rfl (lv_room (Nat.le_of_ble_eq_true rfl)) dX5_clear_14 ⟨Nat.le_of_ble_eq_true rfl, Nat.le_of_ble_eq_true rfl⟩) hS (fun q _ h => hFc q h) hFc (fun u t H1 locs ht hvm hw hB hz1 hk1 hS => ?_)
  obtain ⟨hP1, hK1, hD1⟩ := hB
  rw [ht] at hP1
  have hK1 := va_K.moved hvm.symm hK1
  obtain ⟨hP, hD⟩ := va_join (wr := [(h0, .inr (5, [.int 0, .ref (q 0), .ref (q 1), .ref (q 2), .ref sc, .int 0, .ref (q 3), .ref (q 4), .ref (q 5), .ref (q 6), .ref (q 7), .ref (q 8), .ref (q 9), .ref (q 10)]))]) (w1 := [(sc, .inr (7, [.int 0, .ref (qc 0), .ref (qc 1), .ref (qc 2), .ref (qc 3), .ref (qc 4), .ref (qc 5), .ref (qc 6), .int 0, .ref (qc 7), .ref (qc 8), .ref (qc 9)]))]) hP hD [1] [0] rfl rfl (by decide) (by decide) hk1 hFc hP1 hD1
  have hK := (hK.sub (tys' := []) [] rfl).app (hK1.sub (tys' := []) [] rfl)
  generalize H1 = H at hP hS ⊢
  have hP : va_P (dC, dI) vwCl [(h0, .inr (5, [.int 0, .ref (q 0), .ref (q 1), .ref (q 2), .ref sc, .int 0, .ref (q 3), .ref (q 4), .ref (q 5), .ref (q 6), .ref (q 7), .ref (q 8), .ref (q 9), .ref (q 10)])), (sc, .inr (7, [.int 0, .ref (qc 0), .ref (qc 1), .ref (qc 2), .ref (qc 3), .ref (qc 4), .ref (qc 5), .ref (qc 6), .int 0, .ref (qc 7), .ref (qc 8), .ref (qc 9)]))] H := hP
  have hD : va_D A [(h0, .inr (5, [.int 0, .ref (q 0), .ref (q 1), .ref (q 2), .ref sc, .int 0, .ref (q 3), .ref (q 4), .ref (q 5), .ref (q 6), .ref (q 7), .ref (q 8), .ref (q 9), .ref (q 10)])), (sc, .inr (7, [.int 0, .ref (qc 0), .ref (qc 1), .ref (qc 2), .ref (qc 3), .ref (qc 4), .ref (qc 5), .ref (qc 6), .int 0, .ref (qc 7), .ref (qc 8), .ref (qc 9)]))] := hD
  have hK : va_K (dC, dI) vwCl [] s := hK
  have hP9 := hP.sub (ws' := [(h0, .inr (5, [.int 0, .ref (q 0), .ref (q 1), .ref (q 2), .ref sc, .int 0, .ref (q 3), .ref (q 4), .ref (q 5), .ref (q 6), .ref (q 7), .ref (q 8), .ref (q 9), .ref (q 10)])), (sc, .inr (7, [.int 0, .ref (qc 0), .ref (qc 1), .ref (qc 2), .ref (qc 3), .ref (qc 4), .ref (qc 5), .ref (qc 6), .int 0, .ref (qc 7), .ref (qc 8), .ref (qc 9)]))]) [0, 1] rfl
  have hD9 := hD.sub (ws' := [(h0, .inr (5, [.int 0, .ref (q 0), .ref (q 1), .ref (q 2), .ref sc, .int 0, .ref (q 3), .ref (q 4), .ref (q 5), .ref (q 6), .ref (q 7), .ref (q 8), .ref (q 9), .ref (q 10)])), (sc, .inr (7, [.int 0, .ref (qc 0), .ref (qc 1), .ref (qc 2), .ref (qc 3), .ref (qc 4), .ref (qc 5), .ref (qc 6), .int 0, .ref (qc 7), .ref (qc 8), .ref (qc 9)]))]) [0, 1] (by decide) rfl
  have hK9 := hK.sub (tys' := []) [] rfl
  refine W.widen (k := 0) (n := 0) (Nat.le_of_ble_eq_true rfl) (Nat.le_of_ble_eq_true rfl) ?_
  exact W.vret hx hb hr (fun t ht hW => ⟨⟨(), rfl, trivial, by rw [ht]; exact hP9, va_K.moved hW.alike hK9, hD9⟩, hS.F ht⟩) hS.2.2 dX5_clear_17
