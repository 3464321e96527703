
def mS0 : mS := (fun k => if k = 20 then 1 else 0, fun _ _ => 0, fun _ _ => 0)
set_option maxHeartbeats 40000000 in
set_option maxRecDepth 1000000 in
theorem mi_all {p : Program} {l : Launch} {e : Env} {R : Room} {s : State} {m : MethodId} {args : Array Value} {below : List Frame} {meth : Method} {c : Code} {Q : State → Prop} {A : Nat → Prop} {dC : Nat → ClassId} {dI : Nat → Nat → Nat} {H : Heap} {locs : List Loc} {ls : Array Slot} {h0 a nL : Nat} {tx : String} (hx : p.tables.exec = Jvm.exec) (hb : c.code = cX12_init) (hts : ∀ w ∈ tb, w.before args s = true) (hown : s.vm.findClass RX12 = some m.cls) (hin : meth.name = "<init>") (hA : ∀ q : Nat, s.heap.size ≤ q → A q) (f0 : List Value) (hf0 : f0 = [.int 0, .null, .int 0, .int 0, .null, .null, .null, .int 0, .int 0, .null, .null, .int 0, .int 0, .null, .null, .null, .null, .null, .null, .null, .null, .null, .null, .int 0, .null, .null, .null, .null, .null, .null, .null, .int 0, .null, .null, .null, .int 0, .null, .null, .null, .null, .null, .null, .null, .null, .null, .null, .null, .null, .null, .null, .null, .int 0, .null, .null, .null, .null, .null, .null, .null, .null, .null, .int 0, .int 0, .int 0, .int 0, .int 0, .int 0, .int 0, .int 0, .int 0, .int 0, .null, .null, .int 0, .int 0, .null, .null, .null, .null, .null, .null, .null, .null, .null, .null, .null, .null, .null, .null, .null, .null, .null, .null, .null, .null, .null, .null, .null, .int 0, .int 0, .int 0, .int 0, .int 0, .null, .null, .int 0, .null, .null, .null, .null, .int 0, .null, .null, .null, .null, .null, .null, .null, .null, .int 0, .null, .int 0, .int 0, .int 0, .int 0, .int 0, .int 0, .int 0]) (hlen : f0.length = 128) (r0 : va_W) (hr0 : r0 = []) (t0 : List (ClassId × FieldType)) (ht0 : t0 = []) (hK : va_K (dC, dI) vwCl t0 s) (hP : va_P (dC, dI) vwCl ((h0, .inr (12, f0)) :: r0) H) (hD : va_D A ((h0, .inr (12, f0)) :: r0)) (hS : va_S A s.heap H locs) (hl : lv_has ls nL [(0, .ref h0)]) (hvk : vk_R RX12 34 tx a s) (hRc : 89 ≤ R.cells) (hRs : 1127702 ≤ R.slots)
    (kk : ∀ (E : mE) (H : Heap) (locs : List Loc), E.1 = (dC, dI) → E.2.1 = h0 → E.2.2.2.2 = a → va_K (dC, dI) vwCl (mT E) s → va_P (dC, dI) vwCl (mW E mS0) H → va_D A (mW E mS0) → va_S A s.heap H locs → W p l e R s m args below meth c H locs 89 1127702 Q (F0 m 805 ls [])) : W p l e R s m args below meth c H locs 0 0 Q (F0 m 4 ls []) := by
  have hN0 : f0 = [.int 0, .null, .int 0, .int 0, .null, .null, .null, .int 0, .int 0, .null, .null, .int 0, .int 0, .null, .null, .null, .null, .null, .null, .null, .null, .null, .null, .int 0, .null, .null, .null, .null, .null, .null, .null, .int 0, .null, .null, .null, .int 0, .null, .null, .null, .null, .null, .null, .null, .null, .null, .null, .null, .null, .null, .null, .null, .int 0, .null, .null, .null, .null, .null, .null, .null, .null, .null, .int 0, .int 0, .int 0, .int 0, .int 0, .int 0, .int 0, .int 0, .int 0, .int 0, .null, .null, .int 0, .int 0, .null, .null, .null, .null, .null, .null, .null, .null, .null, .null, .null, .null, .null, .null, .null, .null, .null, .null, .null, .null, .null, .null, .null, .int 0, .int 0, .int 0, .int 0, .int 0, .null, .null, .int 0, .null, .null, .null, .null, .int 0, .null, .null, .null, .null, .null, .null, .null, .null, .int 0, .null, .int 0, .int 0, .int 0, .int 0, .int 0, .int 0, .int 0] := hf0
  refine lv_aload_n hx hb dX12_init_4 rfl (lv_at hl 0 rfl) ?_
  refine lv_sipush (v := 4000) hx hb dX12_init_5 (by decide) ?_
  refine mi_keep (k := 1) (fs := f0) (rest := r0) (tys := t0) (atype := .int) (a0 := (4000, .inl (fun _ => 0))) hx hb hts hown hin hK hP hD hS hlen (by decide) (hts _ wd_1401) rfl hA wd_121 rfl (fun _ => rfl) (by decide) (by decide) (by decide) (by omega) (by omega) dX12_init_8 dX12_init_10 rfl (fun _ => rfl) (fun _ => rfl) (fun q0 k0 H locs hK hP hD hS hlen => ?_)
  refine W.widen (k := 1) (n := 4000) (by omega) (by omega) ?_
  obtain ⟨r1, hr1⟩ : ∃ r : va_W, r = r0 ++ [(q0, .inl (k0, (4000, .inl (fun _ => 0))))] := ⟨_, rfl⟩
  obtain ⟨t1, ht1⟩ : ∃ t : List (ClassId × FieldType), t = t0 ++ [(k0, .int)] := ⟨_, rfl⟩
  rw [← hr1] at hP hD
  rw [← ht1] at hK
  obtain ⟨f1, hf1⟩ : ∃ f : List Value, f = f0.set 1 (.ref q0) := ⟨_, rfl⟩
  rw [← hf1] at hP hD hlen
  refine lv_aload_n hx hb dX12_init_13 rfl (lv_at hl 0 rfl) ?_
  refine lv_sipush (v := 4002) hx hb dX12_init_14 (by decide) ?_
  refine mi_keep (k := 4) (fs := f1) (rest := r1) (tys := t1) (atype := .int) (a0 := (4002, .inl (fun _ => 0))) hx hb hts hown hin hK hP hD hS hlen (by decide) (hts _ wd_1404) rfl hA wd_121 rfl (fun _ => rfl) (by decide) (by decide) (by decide) (by omega) (by omega) dX12_init_17 dX12_init_19 rfl (fun _ => rfl) (fun _ => rfl) (fun q1 k1 H locs hK hP hD hS hlen => ?_)
  refine W.widen (k := 2) (n := 8002) (by omega) (by omega) ?_
  obtain ⟨r2, hr2⟩ : ∃ r : va_W, r = r1 ++ [(q1, .inl (k1, (4002, .inl (fun _ => 0))))] := ⟨_, rfl⟩
  obtain ⟨t2, ht2⟩ : ∃ t : List (ClassId × FieldType), t = t1 ++ [(k1, .int)] := ⟨_, rfl⟩
  rw [← hr2] at hP hD
  rw [← ht2] at hK
  obtain ⟨f2, hf2⟩ : ∃ f : List Value, f = f1.set 4 (.ref q1) := ⟨_, rfl⟩
  rw [← hf2] at hP hD hlen
  refine lv_aload_n hx hb dX12_init_22 rfl (lv_at hl 0 rfl) ?_
  refine lv_sipush (v := 4002) hx hb dX12_init_23 (by decide) ?_
  refine mi_keep (k := 5) (fs := f2) (rest := r2) (tys := t2) (atype := .int) (a0 := (4002, .inl (fun _ => 0))) hx hb hts hown hin hK hP hD hS hlen (by decide) (hts _ wd_1405) rfl hA wd_121 rfl (fun _ => rfl) (by decide) (by decide) (by decide) (by omega) (by omega) dX12_init_26 dX12_init_28 rfl (fun _ => rfl) (fun _ => rfl) (fun q2 k2 H locs hK hP hD hS hlen => ?_)
  refine W.widen (k := 3) (n := 12004) (by omega) (by omega) ?_
  obtain ⟨r3, hr3⟩ : ∃ r : va_W, r = r2 ++ [(q2, .inl (k2, (4002, .inl (fun _ => 0))))] := ⟨_, rfl⟩
  obtain ⟨t3, ht3⟩ : ∃ t : List (ClassId × FieldType), t = t2 ++ [(k2, .int)] := ⟨_, rfl⟩
  rw [← hr3] at hP hD
  rw [← ht3] at hK
  obtain ⟨f3, hf3⟩ : ∃ f : List Value, f = f2.set 5 (.ref q2) := ⟨_, rfl⟩
  rw [← hf3] at hP hD hlen
  refine lv_aload_n hx hb dX12_init_31 rfl (lv_at hl 0 rfl) ?_
  refine lv_sipush (v := 4002) hx hb dX12_init_32 (by decide) ?_
  refine mi_keep (k := 6) (fs := f3) (rest := r3) (tys := t3) (atype := .long) (a0 := (4002, .inr (.inl (fun _ => 0)))) hx hb hts hown hin hK hP hD hS hlen (by decide) (hts _ wd_1406) rfl hA wd_122 rfl (fun _ => rfl) (by decide) (by decide) (by decide) (by omega) (by omega) dX12_init_35 dX12_init_37 rfl (fun _ => rfl) (fun _ => rfl) (fun q3 k3 H locs hK hP hD hS hlen => ?_)
  refine W.widen (k := 4) (n := 16006) (by omega) (by omega) ?_
  obtain ⟨r4, hr4⟩ : ∃ r : va_W, r = r3 ++ [(q3, .inl (k3, (4002, .inr (.inl (fun _ => 0)))))] := ⟨_, rfl⟩
  obtain ⟨t4, ht4⟩ : ∃ t : List (ClassId × FieldType), t = t3 ++ [(k3, .long)] := ⟨_, rfl⟩
  rw [← hr4] at hP hD
  rw [← ht4] at hK
  obtain ⟨f4, hf4⟩ : ∃ f : List Value, f = f3.set 6 (.ref q3) := ⟨_, rfl⟩
  rw [← hf4] at hP hD hlen
  refine lv_aload_n hx hb dX12_init_40 rfl (lv_at hl 0 rfl) ?_
  refine va_ldcS hx hb hown hvk dX12_init_41 ?_
  refine mi_putF (k := 9) (fs := f4) (rest := r4) hx hb hts hown hin hK hP hD hS hlen (by decide) (hts _ wd_1409) rfl rfl rfl rfl dX12_init_43 (fun H locs hP hD hS hlen => ?_)
  obtain ⟨f5, hf5⟩ : ∃ f : List Value, f = f4.set 9 (.ref a) := ⟨_, rfl⟩
  rw [← hf5] at hP hD hlen
  refine lv_aload_n hx hb dX12_init_46 rfl (lv_at hl 0 rfl) ?_
  refine lv_bipush (v := 22) hx hb dX12_init_47 (by decide) ?_
  refine mi_keep (k := 10) (fs := f5) (rest := r4) (tys := t4) (atype := .long) (a0 := (22, .inr (.inl (fun _ => 0)))) hx hb hts hown hin hK hP hD hS hlen (by decide) (hts _ wd_1410) rfl hA wd_122 rfl (fun _ => rfl) (by decide) (by decide) (by decide) (by omega) (by omega) dX12_init_49 dX12_init_51 rfl (fun _ => rfl) (fun _ => rfl) (fun q4 k4 H locs hK hP hD hS hlen => ?_)
  refine W.widen (k := 5) (n := 16028) (by omega) (by omega) ?_
  obtain ⟨r5, hr5⟩ : ∃ r : va_W, r = r4 ++ [(q4, .inl (k4, (22, .inr (.inl (fun _ => 0)))))] := ⟨_, rfl⟩
  obtain ⟨t5, ht5⟩ : ∃ t : List (ClassId × FieldType), t = t4 ++ [(k4, .long)] := ⟨_, rfl⟩
  rw [← hr5] at hP hD
  rw [← ht5] at hK
  obtain ⟨f6, hf6⟩ : ∃ f : List Value, f = f5.set 10 (.ref q4) := ⟨_, rfl⟩
  rw [← hf6] at hP hD hlen
  refine lv_aload_n hx hb dX12_init_54 rfl (lv_at hl 0 rfl) ?_
  refine lv_iconst (v := 2) hx hb dX12_init_55 (by decide) ?_
  refine mi_keep (k := 13) (fs := f6) (rest := r5) (tys := t5) (atype := .int) (a0 := (2, .inl (fun _ => 0))) hx hb hts hown hin hK hP hD hS hlen (by decide) (hts _ wd_1413) rfl hA wd_121 rfl (fun _ => rfl) (by decide) (by decide) (by decide) (by omega) (by omega) dX12_init_56 dX12_init_58 rfl (fun _ => rfl) (fun _ => rfl) (fun q5 k5 H locs hK hP hD hS hlen => ?_)
  refine W.widen (k := 6) (n := 16030) (by omega) (by omega) ?_
  obtain ⟨r6, hr6⟩ : ∃ r : va_W, r = r5 ++ [(q5, .inl (k5, (2, .inl (fun _ => 0))))] := ⟨_, rfl⟩
  obtain ⟨t6, ht6⟩ : ∃ t : List (ClassId × FieldType), t = t5 ++ [(k5, .int)] := ⟨_, rfl⟩
  rw [← hr6] at hP hD
  rw [← ht6] at hK
  obtain ⟨f7, hf7⟩ : ∃ f : List Value, f = f6.set 13 (.ref q5) := ⟨_, rfl⟩
  rw [← hf7] at hP hD hlen
  have hN1 : f7 = [.int 0, .ref q0, .int 0, .int 0, .ref q1, .ref q2, .ref q3, .int 0, .int 0, .ref a, .ref q4, .int 0, .int 0, .ref q5, .null, .null, .null, .null, .null, .null, .null, .null, .null, .int 0, .null, .null, .null, .null, .null, .null, .null, .int 0, .null, .null, .null, .int 0, .null, .null, .null, .null, .null, .null, .null, .null, .null, .null, .null, .null, .null, .null, .null, .int 0, .null, .null, .null, .null, .null, .null, .null, .null, .null, .int 0, .int 0, .int 0, .int 0, .int 0, .int 0, .int 0, .int 0, .int 0, .int 0, .null, .null, .int 0, .int 0, .null, .null, .null, .null, .null, .null, .null, .null, .null, .null, .null, .null, .null, .null, .null, .null, .null, .null, .null, .null, .null, .null, .null, .int 0, .int 0, .int 0, .int 0, .int 0, .null, .null, .int 0, .null, .null, .null, .null, .int 0, .null, .null, .null, .null, .null, .null, .null, .null, .int 0, .null, .int 0, .int 0, .int 0, .int 0, .int 0, .int 0, .int 0] := by rw [hf7, hf6, hf5, hf4, hf3, hf2, hf1, hN0]; rfl
  refine lv_aload_n hx hb dX12_init_61 rfl (lv_at hl 0 rfl) ?_
  refine lv_bipush (v := 24) hx hb dX12_init_62 (by decide) ?_
  refine mi_keep (k := 14) (fs := f7) (rest := r6) (tys := t6) (atype := .long) (a0 := (24, .inr (.inl (fun _ => 0)))) hx hb hts hown hin hK hP hD hS hlen (by decide) (hts _ wd_1414) rfl hA wd_122 rfl (fun _ => rfl) (by decide) (by decide) (by decide) (by omega) (by omega) dX12_init_64 dX12_init_66 rfl (fun _ => rfl) (fun _ => rfl) (fun q6 k6 H locs hK hP hD hS hlen => ?_)
  refine W.widen (k := 7) (n := 16054) (by omega) (by omega) ?_
  obtain ⟨r7, hr7⟩ : ∃ r : va_W, r = r6 ++ [(q6, .inl (k6, (24, .inr (.inl (fun _ => 0)))))] := ⟨_, rfl⟩
  obtain ⟨t7, ht7⟩ : ∃ t : List (ClassId × FieldType), t = t6 ++ [(k6, .long)] := ⟨_, rfl⟩
  rw [← hr7] at hP hD
  rw [← ht7] at hK
  obtain ⟨f8, hf8⟩ : ∃ f : List Value, f = f7.set 14 (.ref q6) := ⟨_, rfl⟩
  rw [← hf8] at hP hD hlen
  refine lv_aload_n hx hb dX12_init_69 rfl (lv_at hl 0 rfl) ?_
  refine lv_bipush (v := 24) hx hb dX12_init_70 (by decide) ?_
  refine mi_keep (k := 15) (fs := f8) (rest := r7) (tys := t7) (atype := .int) (a0 := (24, .inl (fun _ => 0))) hx hb hts hown hin hK hP hD hS hlen (by decide) (hts _ wd_1415) rfl hA wd_121 rfl (fun _ => rfl) (by decide) (by decide) (by decide) (by omega) (by omega) dX12_init_72 dX12_init_74 rfl (fun _ => rfl) (fun _ => rfl) (fun q7 k7 H locs hK hP hD hS hlen => ?_)
  refine W.widen (k := 8) (n := 16078) (by omega) (by omega) ?_
  obtain ⟨r8, hr8⟩ : ∃ r : va_W, r = r7 ++ [(q7, .inl (k7, (24, .inl (fun _ => 0))))] := ⟨_, rfl⟩
  obtain ⟨t8, ht8⟩ : ∃ t : List (ClassId × FieldType), t = t7 ++ [(k7, .int)] := ⟨_, rfl⟩
  rw [← hr8] at hP hD
  rw [← ht8] at hK
  obtain ⟨f9, hf9⟩ : ∃ f : List Value, f = f8.set 15 (.ref q7) := ⟨_, rfl⟩
  rw [← hf9] at hP hD hlen
  refine lv_aload_n hx hb dX12_init_77 rfl (lv_at hl 0 rfl) ?_
  refine lv_bipush (v := 24) hx hb dX12_init_78 (by decide) ?_
  refine mi_keep (k := 16) (fs := f9) (rest := r8) (tys := t8) (atype := .int) (a0 := (24, .inl (fun _ => 0))) hx hb hts hown hin hK hP hD hS hlen (by decide) (hts _ wd_1416) rfl hA wd_121 rfl (fun _ => rfl) (by decide) (by decide) (by decide) (by omega) (by omega) dX12_init_80 dX12_init_82 rfl (fun _ => rfl) (fun _ => rfl) (fun q8 k8 H locs hK hP hD hS hlen => ?_)
  refine W.widen (k := 9) (n := 16102) (by omega) (by omega) ?_
  obtain ⟨r9, hr9⟩ : ∃ r : va_W, r = r8 ++ [(q8, .inl (k8, (24, .inl (fun _ => 0))))] := ⟨_, rfl⟩
  obtain ⟨t9, ht9⟩ : ∃ t : List (ClassId × FieldType), t = t8 ++ [(k8, .int)] := ⟨_, rfl⟩
  rw [← hr9] at hP hD
  rw [← ht9] at hK
  obtain ⟨f10, hf10⟩ : ∃ f : List Value, f = f9.set 16 (.ref q8) := ⟨_, rfl⟩
  rw [← hf10] at hP hD hlen
  refine lv_aload_n hx hb dX12_init_85 rfl (lv_at hl 0 rfl) ?_
  refine lv_sipush (v := 288) hx hb dX12_init_86 (by decide) ?_
  refine mi_keep (k := 17) (fs := f10) (rest := r9) (tys := t9) (atype := .long) (a0 := (288, .inr (.inl (fun _ => 0)))) hx hb hts hown hin hK hP hD hS hlen (by decide) (hts _ wd_1417) rfl hA wd_122 rfl (fun _ => rfl) (by decide) (by decide) (by decide) (by omega) (by omega) dX12_init_89 dX12_init_91 rfl (fun _ => rfl) (fun _ => rfl) (fun q9 k9 H locs hK hP hD hS hlen => ?_)
  refine W.widen (k := 10) (n := 16390) (by omega) (by omega) ?_
  obtain ⟨r10, hr10⟩ : ∃ r : va_W, r = r9 ++ [(q9, .inl (k9, (288, .inr (.inl (fun _ => 0)))))] := ⟨_, rfl⟩
  obtain ⟨t10, ht10⟩ : ∃ t : List (ClassId × FieldType), t = t9 ++ [(k9, .long)] := ⟨_, rfl⟩
  rw [← hr10] at hP hD
  rw [← ht10] at hK
  obtain ⟨f11, hf11⟩ : ∃ f : List Value, f = f10.set 17 (.ref q9) := ⟨_, rfl⟩
  rw [← hf11] at hP hD hlen
  refine lv_aload_n hx hb dX12_init_94 rfl (lv_at hl 0 rfl) ?_
  refine lv_bipush (v := 24) hx hb dX12_init_95 (by decide) ?_
  refine mi_keep (k := 18) (fs := f11) (rest := r10) (tys := t10) (atype := .int) (a0 := (24, .inl (fun _ => 0))) hx hb hts hown hin hK hP hD hS hlen (by decide) (hts _ wd_1418) rfl hA wd_121 rfl (fun _ => rfl) (by decide) (by decide) (by decide) (by omega) (by omega) dX12_init_97 dX12_init_99 rfl (fun _ => rfl) (fun _ => rfl) (fun q10 k10 H locs hK hP hD hS hlen => ?_)
  refine W.widen (k := 11) (n := 16414) (by omega) (by omega) ?_
  obtain ⟨r11, hr11⟩ : ∃ r : va_W, r = r10 ++ [(q10, .inl (k10, (24, .inl (fun _ => 0))))] := ⟨_, rfl⟩
  obtain ⟨t11, ht11⟩ : ∃ t : List (ClassId × FieldType), t = t10 ++ [(k10, .int)] := ⟨_, rfl⟩
  rw [← hr11] at hP hD
  rw [← ht11] at hK
  obtain ⟨f12, hf12⟩ : ∃ f : List Value, f = f11.set 18 (.ref q10) := ⟨_, rfl⟩
  rw [← hf12] at hP hD hlen
  refine lv_aload_n hx hb dX12_init_102 rfl (lv_at hl 0 rfl) ?_
  refine lv_bipush (v := 24) hx hb dX12_init_103 (by decide) ?_
  refine mi_keep (k := 19) (fs := f12) (rest := r11) (tys := t11) (atype := .int) (a0 := (24, .inl (fun _ => 0))) hx hb hts hown hin hK hP hD hS hlen (by decide) (hts _ wd_1419) rfl hA wd_121 rfl (fun _ => rfl) (by decide) (by decide) (by decide) (by omega) (by omega) dX12_init_105 dX12_init_107 rfl (fun _ => rfl) (fun _ => rfl) (fun q11 k11 H locs hK hP hD hS hlen => ?_)
  refine W.widen (k := 12) (n := 16438) (by omega) (by omega) ?_
  obtain ⟨r12, hr12⟩ : ∃ r : va_W, r = r11 ++ [(q11, .inl (k11, (24, .inl (fun _ => 0))))] := ⟨_, rfl⟩
  obtain ⟨t12, ht12⟩ : ∃ t : List (ClassId × FieldType), t = t11 ++ [(k11, .int)] := ⟨_, rfl⟩
  rw [← hr12] at hP hD
  rw [← ht12] at hK
  obtain ⟨f13, hf13⟩ : ∃ f : List Value, f = f12.set 19 (.ref q11) := ⟨_, rfl⟩
  rw [← hf13] at hP hD hlen
  have hN2 : f13 = [.int 0, .ref q0, .int 0, .int 0, .ref q1, .ref q2, .ref q3, .int 0, .int 0, .ref a, .ref q4, .int 0, .int 0, .ref q5, .ref q6, .ref q7, .ref q8, .ref q9, .ref q10, .ref q11, .null, .null, .null, .int 0, .null, .null, .null, .null, .null, .null, .null, .int 0, .null, .null, .null, .int 0, .null, .null, .null, .null, .null, .null, .null, .null, .null, .null, .null, .null, .null, .null, .null, .int 0, .null, .null, .null, .null, .null, .null, .null, .null, .null, .int 0, .int 0, .int 0, .int 0, .int 0, .int 0, .int 0, .int 0, .int 0, .int 0, .null, .null, .int 0, .int 0, .null, .null, .null, .null, .null, .null, .null, .null, .null, .null, .null, .null, .null, .null, .null, .null, .null, .null, .null, .null, .null, .null, .null, .int 0, .int 0, .int 0, .int 0, .int 0, .null, .null, .int 0, .null, .null, .null, .null, .int 0, .null, .null, .null, .null, .null, .null, .null, .null, .int 0, .null, .int 0, .int 0, .int 0, .int 0, .int 0, .int 0, .int 0] := by rw [hf13, hf12, hf11, hf10, hf9, hf8, hN1]; rfl
  refine lv_aload_n hx hb dX12_init_110 rfl (lv_at hl 0 rfl) ?_
  refine lv_sipush (v := 24000) hx hb dX12_init_111 (by decide) ?_
  refine mi_keep (k := 20) (fs := f13) (rest := r12) (tys := t12) (atype := .int) (a0 := (24000, .inl (fun _ => 0))) hx hb hts hown hin hK hP hD hS hlen (by decide) (hts _ wd_1420) rfl hA wd_121 rfl (fun _ => rfl) (by decide) (by decide) (by decide) (by omega) (by omega) dX12_init_114 dX12_init_116 rfl (fun _ => rfl) (fun _ => rfl) (fun q12 k12 H locs hK hP hD hS hlen => ?_)
  refine W.widen (k := 13) (n := 40438) (by omega) (by omega) ?_
  obtain ⟨r13, hr13⟩ : ∃ r : va_W, r = r12 ++ [(q12, .inl (k12, (24000, .inl (fun _ => 0))))] := ⟨_, rfl⟩
  obtain ⟨t13, ht13⟩ : ∃ t : List (ClassId × FieldType), t = t12 ++ [(k12, .int)] := ⟨_, rfl⟩
  rw [← hr13] at hP hD
  rw [← ht13] at hK
  obtain ⟨f14, hf14⟩ : ∃ f : List Value, f = f13.set 20 (.ref q12) := ⟨_, rfl⟩
  rw [← hf14] at hP hD hlen
  refine lv_aload_n hx hb dX12_init_119 rfl (lv_at hl 0 rfl) ?_
  refine lv_sipush (v := 24000) hx hb dX12_init_120 (by decide) ?_
  refine mi_keep (k := 21) (fs := f14) (rest := r13) (tys := t13) (atype := .int) (a0 := (24000, .inl (fun _ => 0))) hx hb hts hown hin hK hP hD hS hlen (by decide) (hts _ wd_1421) rfl hA wd_121 rfl (fun _ => rfl) (by decide) (by decide) (by decide) (by omega) (by omega) dX12_init_123 dX12_init_125 rfl (fun _ => rfl) (fun _ => rfl) (fun q13 k13 H locs hK hP hD hS hlen => ?_)
  refine W.widen (k := 14) (n := 64438) (by omega) (by omega) ?_
  obtain ⟨r14, hr14⟩ : ∃ r : va_W, r = r13 ++ [(q13, .inl (k13, (24000, .inl (fun _ => 0))))] := ⟨_, rfl⟩
  obtain ⟨t14, ht14⟩ : ∃ t : List (ClassId × FieldType), t = t13 ++ [(k13, .int)] := ⟨_, rfl⟩
  rw [← hr14] at hP hD
  rw [← ht14] at hK
  obtain ⟨f15, hf15⟩ : ∃ f : List Value, f = f14.set 21 (.ref q13) := ⟨_, rfl⟩
  rw [← hf15] at hP hD hlen
  refine lv_aload_n hx hb dX12_init_128 rfl (lv_at hl 0 rfl) ?_
  refine lv_sipush (v := 24000) hx hb dX12_init_129 (by decide) ?_
  refine mi_keep (k := 22) (fs := f15) (rest := r14) (tys := t14) (atype := .int) (a0 := (24000, .inl (fun _ => 0))) hx hb hts hown hin hK hP hD hS hlen (by decide) (hts _ wd_1422) rfl hA wd_121 rfl (fun _ => rfl) (by decide) (by decide) (by decide) (by omega) (by omega) dX12_init_132 dX12_init_134 rfl (fun _ => rfl) (fun _ => rfl) (fun q14 k14 H locs hK hP hD hS hlen => ?_)
  refine W.widen (k := 15) (n := 88438) (by omega) (by omega) ?_
  obtain ⟨r15, hr15⟩ : ∃ r : va_W, r = r14 ++ [(q14, .inl (k14, (24000, .inl (fun _ => 0))))] := ⟨_, rfl⟩
  obtain ⟨t15, ht15⟩ : ∃ t : List (ClassId × FieldType), t = t14 ++ [(k14, .int)] := ⟨_, rfl⟩
  rw [← hr15] at hP hD
  rw [← ht15] at hK
  obtain ⟨f16, hf16⟩ : ∃ f : List Value, f = f15.set 22 (.ref q14) := ⟨_, rfl⟩
  rw [← hf16] at hP hD hlen
  refine lv_aload_n hx hb dX12_init_137 rfl (lv_at hl 0 rfl) ?_
  refine lv_sipush (v := 24000) hx hb dX12_init_138 (by decide) ?_
  refine mi_keep (k := 24) (fs := f16) (rest := r15) (tys := t15) (atype := .int) (a0 := (24000, .inl (fun _ => 0))) hx hb hts hown hin hK hP hD hS hlen (by decide) (hts _ wd_1424) rfl hA wd_121 rfl (fun _ => rfl) (by decide) (by decide) (by decide) (by omega) (by omega) dX12_init_141 dX12_init_143 rfl (fun _ => rfl) (fun _ => rfl) (fun q15 k15 H locs hK hP hD hS hlen => ?_)
  refine W.widen (k := 16) (n := 112438) (by omega) (by omega) ?_
  obtain ⟨r16, hr16⟩ : ∃ r : va_W, r = r15 ++ [(q15, .inl (k15, (24000, .inl (fun _ => 0))))] := ⟨_, rfl⟩
  obtain ⟨t16, ht16⟩ : ∃ t : List (ClassId × FieldType), t = t15 ++ [(k15, .int)] := ⟨_, rfl⟩
  rw [← hr16] at hP hD
  rw [← ht16] at hK
  obtain ⟨f17, hf17⟩ : ∃ f : List Value, f = f16.set 24 (.ref q15) := ⟨_, rfl⟩
  rw [← hf17] at hP hD hlen
  refine lv_aload_n hx hb dX12_init_146 rfl (lv_at hl 0 rfl) ?_
  refine lv_sipush (v := 24000) hx hb dX12_init_147 (by decide) ?_
  refine mi_keep (k := 25) (fs := f17) (rest := r16) (tys := t16) (atype := .int) (a0 := (24000, .inl (fun _ => 0))) hx hb hts hown hin hK hP hD hS hlen (by decide) (hts _ wd_1425) rfl hA wd_121 rfl (fun _ => rfl) (by decide) (by decide) (by decide) (by omega) (by omega) dX12_init_150 dX12_init_152 rfl (fun _ => rfl) (fun _ => rfl) (fun q16 k16 H locs hK hP hD hS hlen => ?_)
  refine W.widen (k := 17) (n := 136438) (by omega) (by omega) ?_
  obtain ⟨r17, hr17⟩ : ∃ r : va_W, r = r16 ++ [(q16, .inl (k16, (24000, .inl (fun _ => 0))))] := ⟨_, rfl⟩
  obtain ⟨t17, ht17⟩ : ∃ t : List (ClassId × FieldType), t = t16 ++ [(k16, .int)] := ⟨_, rfl⟩
  rw [← hr17] at hP hD
  rw [← ht17] at hK
  obtain ⟨f18, hf18⟩ : ∃ f : List Value, f = f17.set 25 (.ref q16) := ⟨_, rfl⟩
  rw [← hf18] at hP hD hlen
  refine lv_aload_n hx hb dX12_init_155 rfl (lv_at hl 0 rfl) ?_
  refine lv_sipush (v := 24000) hx hb dX12_init_156 (by decide) ?_
  refine mi_keep (k := 26) (fs := f18) (rest := r17) (tys := t17) (atype := .int) (a0 := (24000, .inl (fun _ => 0))) hx hb hts hown hin hK hP hD hS hlen (by decide) (hts _ wd_1426) rfl hA wd_121 rfl (fun _ => rfl) (by decide) (by decide) (by decide) (by omega) (by omega) dX12_init_159 dX12_init_161 rfl (fun _ => rfl) (fun _ => rfl) (fun q17 k17 H locs hK hP hD hS hlen => ?_)
  refine W.widen (k := 18) (n := 160438) (by omega) (by omega) ?_
  obtain ⟨r18, hr18⟩ : ∃ r : va_W, r = r17 ++ [(q17, .inl (k17, (24000, .inl (fun _ => 0))))] := ⟨_, rfl⟩
  obtain ⟨t18, ht18⟩ : ∃ t : List (ClassId × FieldType), t = t17 ++ [(k17, .int)] := ⟨_, rfl⟩
  rw [← hr18] at hP hD
  rw [← ht18] at hK
  obtain ⟨f19, hf19⟩ : ∃ f : List Value, f = f18.set 26 (.ref q17) := ⟨_, rfl⟩
  rw [← hf19] at hP hD hlen
  have hN3 : f19 = [.int 0, .ref q0, .int 0, .int 0, .ref q1, .ref q2, .ref q3, .int 0, .int 0, .ref a, .ref q4, .int 0, .int 0, .ref q5, .ref q6, .ref q7, .ref q8, .ref q9, .ref q10, .ref q11, .ref q12, .ref q13, .ref q14, .int 0, .ref q15, .ref q16, .ref q17, .null, .null, .null, .null, .int 0, .null, .null, .null, .int 0, .null, .null, .null, .null, .null, .null, .null, .null, .null, .null, .null, .null, .null, .null, .null, .int 0, .null, .null, .null, .null, .null, .null, .null, .null, .null, .int 0, .int 0, .int 0, .int 0, .int 0, .int 0, .int 0, .int 0, .int 0, .int 0, .null, .null, .int 0, .int 0, .null, .null, .null, .null, .null, .null, .null, .null, .null, .null, .null, .null, .null, .null, .null, .null, .null, .null, .null, .null, .null, .null, .null, .int 0, .int 0, .int 0, .int 0, .int 0, .null, .null, .int 0, .null, .null, .null, .null, .int 0, .null, .null, .null, .null, .null, .null, .null, .null, .int 0, .null, .int 0, .int 0, .int 0, .int 0, .int 0, .int 0, .int 0] := by rw [hf19, hf18, hf17, hf16, hf15, hf14, hN2]; rfl
  refine lv_aload_n hx hb dX12_init_164 rfl (lv_at hl 0 rfl) ?_
  refine lv_sipush (v := 24000) hx hb dX12_init_165 (by decide) ?_
  refine mi_keep (k := 27) (fs := f19) (rest := r18) (tys := t18) (atype := .int) (a0 := (24000, .inl (fun _ => 0))) hx hb hts hown hin hK hP hD hS hlen (by decide) (hts _ wd_1427) rfl hA wd_121 rfl (fun _ => rfl) (by decide) (by decide) (by decide) (by omega) (by omega) dX12_init_168 dX12_init_170 rfl (fun _ => rfl) (fun _ => rfl) (fun q18 k18 H locs hK hP hD hS hlen => ?_)
  refine W.widen (k := 19) (n := 184438) (by omega) (by omega) ?_
  obtain ⟨r19, hr19⟩ : ∃ r : va_W, r = r18 ++ [(q18, .inl (k18, (24000, .inl (fun _ => 0))))] := ⟨_, rfl⟩
  obtain ⟨t19, ht19⟩ : ∃ t : List (ClassId × FieldType), t = t18 ++ [(k18, .int)] := ⟨_, rfl⟩
  rw [← hr19] at hP hD
  rw [← ht19] at hK
  obtain ⟨f20, hf20⟩ : ∃ f : List Value, f = f19.set 27 (.ref q18) := ⟨_, rfl⟩
  rw [← hf20] at hP hD hlen
  refine lv_aload_n hx hb dX12_init_173 rfl (lv_at hl 0 rfl) ?_
  refine lv_sipush (v := 24000) hx hb dX12_init_174 (by decide) ?_
  refine mi_keep (k := 28) (fs := f20) (rest := r19) (tys := t19) (atype := .int) (a0 := (24000, .inl (fun _ => 0))) hx hb hts hown hin hK hP hD hS hlen (by decide) (hts _ wd_1428) rfl hA wd_121 rfl (fun _ => rfl) (by decide) (by decide) (by decide) (by omega) (by omega) dX12_init_177 dX12_init_179 rfl (fun _ => rfl) (fun _ => rfl) (fun q19 k19 H locs hK hP hD hS hlen => ?_)
  refine W.widen (k := 20) (n := 208438) (by omega) (by omega) ?_
  obtain ⟨r20, hr20⟩ : ∃ r : va_W, r = r19 ++ [(q19, .inl (k19, (24000, .inl (fun _ => 0))))] := ⟨_, rfl⟩
  obtain ⟨t20, ht20⟩ : ∃ t : List (ClassId × FieldType), t = t19 ++ [(k19, .int)] := ⟨_, rfl⟩
  rw [← hr20] at hP hD
  rw [← ht20] at hK
  obtain ⟨f21, hf21⟩ : ∃ f : List Value, f = f20.set 28 (.ref q19) := ⟨_, rfl⟩
  rw [← hf21] at hP hD hlen
  refine lv_aload_n hx hb dX12_init_182 rfl (lv_at hl 0 rfl) ?_
  refine lv_sipush (v := 24000) hx hb dX12_init_183 (by decide) ?_
  refine mi_keep (k := 29) (fs := f21) (rest := r20) (tys := t20) (atype := .int) (a0 := (24000, .inl (fun _ => 0))) hx hb hts hown hin hK hP hD hS hlen (by decide) (hts _ wd_1429) rfl hA wd_121 rfl (fun _ => rfl) (by decide) (by decide) (by decide) (by omega) (by omega) dX12_init_186 dX12_init_188 rfl (fun _ => rfl) (fun _ => rfl) (fun q20 k20 H locs hK hP hD hS hlen => ?_)
  refine W.widen (k := 21) (n := 232438) (by omega) (by omega) ?_
  obtain ⟨r21, hr21⟩ : ∃ r : va_W, r = r20 ++ [(q20, .inl (k20, (24000, .inl (fun _ => 0))))] := ⟨_, rfl⟩
  obtain ⟨t21, ht21⟩ : ∃ t : List (ClassId × FieldType), t = t20 ++ [(k20, .int)] := ⟨_, rfl⟩
  rw [← hr21] at hP hD
  rw [← ht21] at hK
  obtain ⟨f22, hf22⟩ : ∃ f : List Value, f = f21.set 29 (.ref q20) := ⟨_, rfl⟩
  rw [← hf22] at hP hD hlen
  refine lv_aload_n hx hb dX12_init_191 rfl (lv_at hl 0 rfl) ?_
  refine lv_sipush (v := 24000) hx hb dX12_init_192 (by decide) ?_
  refine mi_keep (k := 30) (fs := f22) (rest := r21) (tys := t21) (atype := .int) (a0 := (24000, .inl (fun _ => 0))) hx hb hts hown hin hK hP hD hS hlen (by decide) (hts _ wd_1430) rfl hA wd_121 rfl (fun _ => rfl) (by decide) (by decide) (by decide) (by omega) (by omega) dX12_init_195 dX12_init_197 rfl (fun _ => rfl) (fun _ => rfl) (fun q21 k21 H locs hK hP hD hS hlen => ?_)
  refine W.widen (k := 22) (n := 256438) (by omega) (by omega) ?_
  obtain ⟨r22, hr22⟩ : ∃ r : va_W, r = r21 ++ [(q21, .inl (k21, (24000, .inl (fun _ => 0))))] := ⟨_, rfl⟩
  obtain ⟨t22, ht22⟩ : ∃ t : List (ClassId × FieldType), t = t21 ++ [(k21, .int)] := ⟨_, rfl⟩
  rw [← hr22] at hP hD
  rw [← ht22] at hK
  obtain ⟨f23, hf23⟩ : ∃ f : List Value, f = f22.set 30 (.ref q21) := ⟨_, rfl⟩
  rw [← hf23] at hP hD hlen
  refine lv_aload_n hx hb dX12_init_200 rfl (lv_at hl 0 rfl) ?_
  refine lv_bipush (v := 24) hx hb dX12_init_201 (by decide) ?_
  refine mi_keep (k := 32) (fs := f23) (rest := r22) (tys := t22) (atype := .int) (a0 := (24, .inl (fun _ => 0))) hx hb hts hown hin hK hP hD hS hlen (by decide) (hts _ wd_1432) rfl hA wd_121 rfl (fun _ => rfl) (by decide) (by decide) (by decide) (by omega) (by omega) dX12_init_203 dX12_init_205 rfl (fun _ => rfl) (fun _ => rfl) (fun q22 k22 H locs hK hP hD hS hlen => ?_)
  refine W.widen (k := 23) (n := 256462) (by omega) (by omega) ?_
  obtain ⟨r23, hr23⟩ : ∃ r : va_W, r = r22 ++ [(q22, .inl (k22, (24, .inl (fun _ => 0))))] := ⟨_, rfl⟩
  obtain ⟨t23, ht23⟩ : ∃ t : List (ClassId × FieldType), t = t22 ++ [(k22, .int)] := ⟨_, rfl⟩
  rw [← hr23] at hP hD
  rw [← ht23] at hK
  obtain ⟨f24, hf24⟩ : ∃ f : List Value, f = f23.set 32 (.ref q22) := ⟨_, rfl⟩
  rw [← hf24] at hP hD hlen
  refine lv_aload_n hx hb dX12_init_208 rfl (lv_at hl 0 rfl) ?_
  refine lv_bipush (v := 24) hx hb dX12_init_209 (by decide) ?_
  refine mi_keep (k := 33) (fs := f24) (rest := r23) (tys := t23) (atype := .int) (a0 := (24, .inl (fun _ => 0))) hx hb hts hown hin hK hP hD hS hlen (by decide) (hts _ wd_1433) rfl hA wd_121 rfl (fun _ => rfl) (by decide) (by decide) (by decide) (by omega) (by omega) dX12_init_211 dX12_init_213 rfl (fun _ => rfl) (fun _ => rfl) (fun q23 k23 H locs hK hP hD hS hlen => ?_)
  refine W.widen (k := 24) (n := 256486) (by omega) (by omega) ?_
  obtain ⟨r24, hr24⟩ : ∃ r : va_W, r = r23 ++ [(q23, .inl (k23, (24, .inl (fun _ => 0))))] := ⟨_, rfl⟩
  obtain ⟨t24, ht24⟩ : ∃ t : List (ClassId × FieldType), t = t23 ++ [(k23, .int)] := ⟨_, rfl⟩
  rw [← hr24] at hP hD
  rw [← ht24] at hK
  obtain ⟨f25, hf25⟩ : ∃ f : List Value, f = f24.set 33 (.ref q23) := ⟨_, rfl⟩
  rw [← hf25] at hP hD hlen
  have hN4 : f25 = [.int 0, .ref q0, .int 0, .int 0, .ref q1, .ref q2, .ref q3, .int 0, .int 0, .ref a, .ref q4, .int 0, .int 0, .ref q5, .ref q6, .ref q7, .ref q8, .ref q9, .ref q10, .ref q11, .ref q12, .ref q13, .ref q14, .int 0, .ref q15, .ref q16, .ref q17, .ref q18, .ref q19, .ref q20, .ref q21, .int 0, .ref q22, .ref q23, .null, .int 0, .null, .null, .null, .null, .null, .null, .null, .null, .null, .null, .null, .null, .null, .null, .null, .int 0, .null, .null, .null, .null, .null, .null, .null, .null, .null, .int 0, .int 0, .int 0, .int 0, .int 0, .int 0, .int 0, .int 0, .int 0, .int 0, .null, .null, .int 0, .int 0, .null, .null, .null, .null, .null, .null, .null, .null, .null, .null, .null, .null, .null, .null, .null, .null, .null, .null, .null, .null, .null, .null, .null, .int 0, .int 0, .int 0, .int 0, .int 0, .null, .null, .int 0, .null, .null, .null, .null, .int 0, .null, .null, .null, .null, .null, .null, .null, .null, .int 0, .null, .int 0, .int 0, .int 0, .int 0, .int 0, .int 0, .int 0] := by rw [hf25, hf24, hf23, hf22, hf21, hf20, hN3]; rfl
  refine lv_aload_n hx hb dX12_init_216 rfl (lv_at hl 0 rfl) ?_
  refine lv_sipush (v := 408) hx hb dX12_init_217 (by decide) ?_
  refine mi_keep (k := 34) (fs := f25) (rest := r24) (tys := t24) (atype := .int) (a0 := (408, .inl (fun _ => 0))) hx hb hts hown hin hK hP hD hS hlen (by decide) (hts _ wd_1434) rfl hA wd_121 rfl (fun _ => rfl) (by decide) (by decide) (by decide) (by omega) (by omega) dX12_init_220 dX12_init_222 rfl (fun _ => rfl) (fun _ => rfl) (fun q24 k24 H locs hK hP hD hS hlen => ?_)
  refine W.widen (k := 25) (n := 256894) (by omega) (by omega) ?_
  obtain ⟨r25, hr25⟩ : ∃ r : va_W, r = r24 ++ [(q24, .inl (k24, (408, .inl (fun _ => 0))))] := ⟨_, rfl⟩
  obtain ⟨t25, ht25⟩ : ∃ t : List (ClassId × FieldType), t = t24 ++ [(k24, .int)] := ⟨_, rfl⟩
  rw [← hr25] at hP hD
  rw [← ht25] at hK
  obtain ⟨f26, hf26⟩ : ∃ f : List Value, f = f25.set 34 (.ref q24) := ⟨_, rfl⟩
  rw [← hf26] at hP hD hlen
  refine lv_aload_n hx hb dX12_init_225 rfl (lv_at hl 0 rfl) ?_
  refine lv_sipush (v := 1000) hx hb dX12_init_226 (by decide) ?_
  refine mi_keep (k := 36) (fs := f26) (rest := r25) (tys := t25) (atype := .int) (a0 := (1000, .inl (fun _ => 0))) hx hb hts hown hin hK hP hD hS hlen (by decide) (hts _ wd_1436) rfl hA wd_121 rfl (fun _ => rfl) (by decide) (by decide) (by decide) (by omega) (by omega) dX12_init_229 dX12_init_231 rfl (fun _ => rfl) (fun _ => rfl) (fun q25 k25 H locs hK hP hD hS hlen => ?_)
  refine W.widen (k := 26) (n := 257894) (by omega) (by omega) ?_
  obtain ⟨r26, hr26⟩ : ∃ r : va_W, r = r25 ++ [(q25, .inl (k25, (1000, .inl (fun _ => 0))))] := ⟨_, rfl⟩
  obtain ⟨t26, ht26⟩ : ∃ t : List (ClassId × FieldType), t = t25 ++ [(k25, .int)] := ⟨_, rfl⟩
  rw [← hr26] at hP hD
  rw [← ht26] at hK
  obtain ⟨f27, hf27⟩ : ∃ f : List Value, f = f26.set 36 (.ref q25) := ⟨_, rfl⟩
  rw [← hf27] at hP hD hlen
  refine lv_aload_n hx hb dX12_init_234 rfl (lv_at hl 0 rfl) ?_
  refine lv_sipush (v := 1000) hx hb dX12_init_235 (by decide) ?_
  refine mi_keep (k := 37) (fs := f27) (rest := r26) (tys := t26) (atype := .int) (a0 := (1000, .inl (fun _ => 0))) hx hb hts hown hin hK hP hD hS hlen (by decide) (hts _ wd_1437) rfl hA wd_121 rfl (fun _ => rfl) (by decide) (by decide) (by decide) (by omega) (by omega) dX12_init_238 dX12_init_240 rfl (fun _ => rfl) (fun _ => rfl) (fun q26 k26 H locs hK hP hD hS hlen => ?_)
  refine W.widen (k := 27) (n := 258894) (by omega) (by omega) ?_
  obtain ⟨r27, hr27⟩ : ∃ r : va_W, r = r26 ++ [(q26, .inl (k26, (1000, .inl (fun _ => 0))))] := ⟨_, rfl⟩
  obtain ⟨t27, ht27⟩ : ∃ t : List (ClassId × FieldType), t = t26 ++ [(k26, .int)] := ⟨_, rfl⟩
  rw [← hr27] at hP hD
  rw [← ht27] at hK
  obtain ⟨f28, hf28⟩ : ∃ f : List Value, f = f27.set 37 (.ref q26) := ⟨_, rfl⟩
  rw [← hf28] at hP hD hlen
  refine lv_aload_n hx hb dX12_init_243 rfl (lv_at hl 0 rfl) ?_
  refine lv_sipush (v := 1000) hx hb dX12_init_244 (by decide) ?_
  refine mi_keep (k := 38) (fs := f28) (rest := r27) (tys := t27) (atype := .int) (a0 := (1000, .inl (fun _ => 0))) hx hb hts hown hin hK hP hD hS hlen (by decide) (hts _ wd_1438) rfl hA wd_121 rfl (fun _ => rfl) (by decide) (by decide) (by decide) (by omega) (by omega) dX12_init_247 dX12_init_249 rfl (fun _ => rfl) (fun _ => rfl) (fun q27 k27 H locs hK hP hD hS hlen => ?_)
  refine W.widen (k := 28) (n := 259894) (by omega) (by omega) ?_
  obtain ⟨r28, hr28⟩ : ∃ r : va_W, r = r27 ++ [(q27, .inl (k27, (1000, .inl (fun _ => 0))))] := ⟨_, rfl⟩
  obtain ⟨t28, ht28⟩ : ∃ t : List (ClassId × FieldType), t = t27 ++ [(k27, .int)] := ⟨_, rfl⟩
  rw [← hr28] at hP hD
  rw [← ht28] at hK
  obtain ⟨f29, hf29⟩ : ∃ f : List Value, f = f28.set 38 (.ref q27) := ⟨_, rfl⟩
  rw [← hf29] at hP hD hlen
  refine lv_aload_n hx hb dX12_init_252 rfl (lv_at hl 0 rfl) ?_
  refine lv_sipush (v := 1000) hx hb dX12_init_253 (by decide) ?_
  refine mi_keep (k := 39) (fs := f29) (rest := r28) (tys := t28) (atype := .boolean) (a0 := (1000, .inl (fun _ => 0))) hx hb hts hown hin hK hP hD hS hlen (by decide) (hts _ wd_1439) rfl hA wd_1785 rfl (fun _ => rfl) (by decide) (by decide) (by decide) (by omega) (by omega) dX12_init_256 dX12_init_258 rfl (fun _ => rfl) (fun _ => rfl) (fun q28 k28 H locs hK hP hD hS hlen => ?_)
  refine W.widen (k := 29) (n := 260894) (by omega) (by omega) ?_
  obtain ⟨r29, hr29⟩ : ∃ r : va_W, r = r28 ++ [(q28, .inl (k28, (1000, .inl (fun _ => 0))))] := ⟨_, rfl⟩
  obtain ⟨t29, ht29⟩ : ∃ t : List (ClassId × FieldType), t = t28 ++ [(k28, .boolean)] := ⟨_, rfl⟩
  rw [← hr29] at hP hD
  rw [← ht29] at hK
  obtain ⟨f30, hf30⟩ : ∃ f : List Value, f = f29.set 39 (.ref q28) := ⟨_, rfl⟩
  rw [← hf30] at hP hD hlen
  refine lv_aload_n hx hb dX12_init_261 rfl (lv_at hl 0 rfl) ?_
  refine lv_sipush (v := 1000) hx hb dX12_init_262 (by decide) ?_
  refine mi_keep (k := 40) (fs := f30) (rest := r29) (tys := t29) (atype := .boolean) (a0 := (1000, .inl (fun _ => 0))) hx hb hts hown hin hK hP hD hS hlen (by decide) (hts _ wd_1440) rfl hA wd_1785 rfl (fun _ => rfl) (by decide) (by decide) (by decide) (by omega) (by omega) dX12_init_265 dX12_init_267 rfl (fun _ => rfl) (fun _ => rfl) (fun q29 k29 H locs hK hP hD hS hlen => ?_)
  refine W.widen (k := 30) (n := 261894) (by omega) (by omega) ?_
  obtain ⟨r30, hr30⟩ : ∃ r : va_W, r = r29 ++ [(q29, .inl (k29, (1000, .inl (fun _ => 0))))] := ⟨_, rfl⟩
  obtain ⟨t30, ht30⟩ : ∃ t : List (ClassId × FieldType), t = t29 ++ [(k29, .boolean)] := ⟨_, rfl⟩
  rw [← hr30] at hP hD
  rw [← ht30] at hK
  obtain ⟨f31, hf31⟩ : ∃ f : List Value, f = f30.set 40 (.ref q29) := ⟨_, rfl⟩
  rw [← hf31] at hP hD hlen
  have hN5 : f31 = [.int 0, .ref q0, .int 0, .int 0, .ref q1, .ref q2, .ref q3, .int 0, .int 0, .ref a, .ref q4, .int 0, .int 0, .ref q5, .ref q6, .ref q7, .ref q8, .ref q9, .ref q10, .ref q11, .ref q12, .ref q13, .ref q14, .int 0, .ref q15, .ref q16, .ref q17, .ref q18, .ref q19, .ref q20, .ref q21, .int 0, .ref q22, .ref q23, .ref q24, .int 0, .ref q25, .ref q26, .ref q27, .ref q28, .ref q29, .null, .null, .null, .null, .null, .null, .null, .null, .null, .null, .int 0, .null, .null, .null, .null, .null, .null, .null, .null, .null, .int 0, .int 0, .int 0, .int 0, .int 0, .int 0, .int 0, .int 0, .int 0, .int 0, .null, .null, .int 0, .int 0, .null, .null, .null, .null, .null, .null, .null, .null, .null, .null, .null, .null, .null, .null, .null, .null, .null, .null, .null, .null, .null, .null, .null, .int 0, .int 0, .int 0, .int 0, .int 0, .null, .null, .int 0, .null, .null, .null, .null, .int 0, .null, .null, .null, .null, .null, .null, .null, .null, .int 0, .null, .int 0, .int 0, .int 0, .int 0, .int 0, .int 0, .int 0] := by rw [hf31, hf30, hf29, hf28, hf27, hf26, hN4]; rfl
  refine lv_aload_n hx hb dX12_init_270 rfl (lv_at hl 0 rfl) ?_
  refine lv_sipush (v := 1000) hx hb dX12_init_271 (by decide) ?_
  refine mi_keep (k := 41) (fs := f31) (rest := r30) (tys := t30) (atype := .int) (a0 := (1000, .inl (fun _ => 0))) hx hb hts hown hin hK hP hD hS hlen (by decide) (hts _ wd_1441) rfl hA wd_121 rfl (fun _ => rfl) (by decide) (by decide) (by decide) (by omega) (by omega) dX12_init_274 dX12_init_276 rfl (fun _ => rfl) (fun _ => rfl) (fun q30 k30 H locs hK hP hD hS hlen => ?_)
  refine W.widen (k := 31) (n := 262894) (by omega) (by omega) ?_
  obtain ⟨r31, hr31⟩ : ∃ r : va_W, r = r30 ++ [(q30, .inl (k30, (1000, .inl (fun _ => 0))))] := ⟨_, rfl⟩
  obtain ⟨t31, ht31⟩ : ∃ t : List (ClassId × FieldType), t = t30 ++ [(k30, .int)] := ⟨_, rfl⟩
  rw [← hr31] at hP hD
  rw [← ht31] at hK
  obtain ⟨f32, hf32⟩ : ∃ f : List Value, f = f31.set 41 (.ref q30) := ⟨_, rfl⟩
  rw [← hf32] at hP hD hlen
  refine lv_aload_n hx hb dX12_init_279 rfl (lv_at hl 0 rfl) ?_
  refine lv_sipush (v := 1000) hx hb dX12_init_280 (by decide) ?_
  refine mi_keep (k := 42) (fs := f32) (rest := r31) (tys := t31) (atype := .int) (a0 := (1000, .inl (fun _ => 0))) hx hb hts hown hin hK hP hD hS hlen (by decide) (hts _ wd_1442) rfl hA wd_121 rfl (fun _ => rfl) (by decide) (by decide) (by decide) (by omega) (by omega) dX12_init_283 dX12_init_285 rfl (fun _ => rfl) (fun _ => rfl) (fun q31 k31 H locs hK hP hD hS hlen => ?_)
  refine W.widen (k := 32) (n := 263894) (by omega) (by omega) ?_
  obtain ⟨r32, hr32⟩ : ∃ r : va_W, r = r31 ++ [(q31, .inl (k31, (1000, .inl (fun _ => 0))))] := ⟨_, rfl⟩
  obtain ⟨t32, ht32⟩ : ∃ t : List (ClassId × FieldType), t = t31 ++ [(k31, .int)] := ⟨_, rfl⟩
  rw [← hr32] at hP hD
  rw [← ht32] at hK
  obtain ⟨f33, hf33⟩ : ∃ f : List Value, f = f32.set 42 (.ref q31) := ⟨_, rfl⟩
  rw [← hf33] at hP hD hlen
  refine lv_aload_n hx hb dX12_init_288 rfl (lv_at hl 0 rfl) ?_
  refine lv_sipush (v := 1000) hx hb dX12_init_289 (by decide) ?_
  refine mi_keep (k := 43) (fs := f33) (rest := r32) (tys := t32) (atype := .int) (a0 := (1000, .inl (fun _ => 0))) hx hb hts hown hin hK hP hD hS hlen (by decide) (hts _ wd_1443) rfl hA wd_121 rfl (fun _ => rfl) (by decide) (by decide) (by decide) (by omega) (by omega) dX12_init_292 dX12_init_294 rfl (fun _ => rfl) (fun _ => rfl) (fun q32 k32 H locs hK hP hD hS hlen => ?_)
  refine W.widen (k := 33) (n := 264894) (by omega) (by omega) ?_
  obtain ⟨r33, hr33⟩ : ∃ r : va_W, r = r32 ++ [(q32, .inl (k32, (1000, .inl (fun _ => 0))))] := ⟨_, rfl⟩
  obtain ⟨t33, ht33⟩ : ∃ t : List (ClassId × FieldType), t = t32 ++ [(k32, .int)] := ⟨_, rfl⟩
  rw [← hr33] at hP hD
  rw [← ht33] at hK
  obtain ⟨f34, hf34⟩ : ∃ f : List Value, f = f33.set 43 (.ref q32) := ⟨_, rfl⟩
  rw [← hf34] at hP hD hlen
  refine lv_aload_n hx hb dX12_init_297 rfl (lv_at hl 0 rfl) ?_
  refine lv_sipush (v := 1000) hx hb dX12_init_298 (by decide) ?_
  refine mi_keep (k := 44) (fs := f34) (rest := r33) (tys := t33) (atype := .int) (a0 := (1000, .inl (fun _ => 0))) hx hb hts hown hin hK hP hD hS hlen (by decide) (hts _ wd_1444) rfl hA wd_121 rfl (fun _ => rfl) (by decide) (by decide) (by decide) (by omega) (by omega) dX12_init_301 dX12_init_303 rfl (fun _ => rfl) (fun _ => rfl) (fun q33 k33 H locs hK hP hD hS hlen => ?_)
  refine W.widen (k := 34) (n := 265894) (by omega) (by omega) ?_
  obtain ⟨r34, hr34⟩ : ∃ r : va_W, r = r33 ++ [(q33, .inl (k33, (1000, .inl (fun _ => 0))))] := ⟨_, rfl⟩
  obtain ⟨t34, ht34⟩ : ∃ t : List (ClassId × FieldType), t = t33 ++ [(k33, .int)] := ⟨_, rfl⟩
  rw [← hr34] at hP hD
  rw [← ht34] at hK
  obtain ⟨f35, hf35⟩ : ∃ f : List Value, f = f34.set 44 (.ref q33) := ⟨_, rfl⟩
  rw [← hf35] at hP hD hlen
  refine lv_aload_n hx hb dX12_init_306 rfl (lv_at hl 0 rfl) ?_
  refine lv_sipush (v := 1000) hx hb dX12_init_307 (by decide) ?_
  refine mi_keep (k := 45) (fs := f35) (rest := r34) (tys := t34) (atype := .int) (a0 := (1000, .inl (fun _ => 0))) hx hb hts hown hin hK hP hD hS hlen (by decide) (hts _ wd_1445) rfl hA wd_121 rfl (fun _ => rfl) (by decide) (by decide) (by decide) (by omega) (by omega) dX12_init_310 dX12_init_312 rfl (fun _ => rfl) (fun _ => rfl) (fun q34 k34 H locs hK hP hD hS hlen => ?_)
  refine W.widen (k := 35) (n := 266894) (by omega) (by omega) ?_
  obtain ⟨r35, hr35⟩ : ∃ r : va_W, r = r34 ++ [(q34, .inl (k34, (1000, .inl (fun _ => 0))))] := ⟨_, rfl⟩
  obtain ⟨t35, ht35⟩ : ∃ t : List (ClassId × FieldType), t = t34 ++ [(k34, .int)] := ⟨_, rfl⟩
  rw [← hr35] at hP hD
  rw [← ht35] at hK
  obtain ⟨f36, hf36⟩ : ∃ f : List Value, f = f35.set 45 (.ref q34) := ⟨_, rfl⟩
  rw [← hf36] at hP hD hlen
  refine lv_aload_n hx hb dX12_init_315 rfl (lv_at hl 0 rfl) ?_
  refine lv_sipush (v := 1000) hx hb dX12_init_316 (by decide) ?_
  refine mi_keep (k := 46) (fs := f36) (rest := r35) (tys := t35) (atype := .int) (a0 := (1000, .inl (fun _ => 0))) hx hb hts hown hin hK hP hD hS hlen (by decide) (hts _ wd_1446) rfl hA wd_121 rfl (fun _ => rfl) (by decide) (by decide) (by decide) (by omega) (by omega) dX12_init_319 dX12_init_321 rfl (fun _ => rfl) (fun _ => rfl) (fun q35 k35 H locs hK hP hD hS hlen => ?_)
  refine W.widen (k := 36) (n := 267894) (by omega) (by omega) ?_
  obtain ⟨r36, hr36⟩ : ∃ r : va_W, r = r35 ++ [(q35, .inl (k35, (1000, .inl (fun _ => 0))))] := ⟨_, rfl⟩
  obtain ⟨t36, ht36⟩ : ∃ t : List (ClassId × FieldType), t = t35 ++ [(k35, .int)] := ⟨_, rfl⟩
  rw [← hr36] at hP hD
  rw [← ht36] at hK
  obtain ⟨f37, hf37⟩ : ∃ f : List Value, f = f36.set 46 (.ref q35) := ⟨_, rfl⟩
  rw [← hf37] at hP hD hlen
  have hN6 : f37 = [.int 0, .ref q0, .int 0, .int 0, .ref q1, .ref q2, .ref q3, .int 0, .int 0, .ref a, .ref q4, .int 0, .int 0, .ref q5, .ref q6, .ref q7, .ref q8, .ref q9, .ref q10, .ref q11, .ref q12, .ref q13, .ref q14, .int 0, .ref q15, .ref q16, .ref q17, .ref q18, .ref q19, .ref q20, .ref q21, .int 0, .ref q22, .ref q23, .ref q24, .int 0, .ref q25, .ref q26, .ref q27, .ref q28, .ref q29, .ref q30, .ref q31, .ref q32, .ref q33, .ref q34, .ref q35, .null, .null, .null, .null, .int 0, .null, .null, .null, .null, .null, .null, .null, .null, .null, .int 0, .int 0, .int 0, .int 0, .int 0, .int 0, .int 0, .int 0, .int 0, .int 0, .null, .null, .int 0, .int 0, .null, .null, .null, .null, .null, .null, .null, .null, .null, .null, .null, .null, .null, .null, .null, .null, .null, .null, .null, .null, .null, .null, .null, .int 0, .int 0, .int 0, .int 0, .int 0, .null, .null, .int 0, .null, .null, .null, .null, .int 0, .null, .null, .null, .null, .null, .null, .null, .null, .int 0, .null, .int 0, .int 0, .int 0, .int 0, .int 0, .int 0, .int 0] := by rw [hf37, hf36, hf35, hf34, hf33, hf32, hN5]; rfl
  refine lv_aload_n hx hb dX12_init_324 rfl (lv_at hl 0 rfl) ?_
  refine lv_sipush (v := 1000) hx hb dX12_init_325 (by decide) ?_
  refine mi_keep (k := 47) (fs := f37) (rest := r36) (tys := t36) (atype := .int) (a0 := (1000, .inl (fun _ => 0))) hx hb hts hown hin hK hP hD hS hlen (by decide) (hts _ wd_1447) rfl hA wd_121 rfl (fun _ => rfl) (by decide) (by decide) (by decide) (by omega) (by omega) dX12_init_328 dX12_init_330 rfl (fun _ => rfl) (fun _ => rfl) (fun q36 k36 H locs hK hP hD hS hlen => ?_)
  refine W.widen (k := 37) (n := 268894) (by omega) (by omega) ?_
  obtain ⟨r37, hr37⟩ : ∃ r : va_W, r = r36 ++ [(q36, .inl (k36, (1000, .inl (fun _ => 0))))] := ⟨_, rfl⟩
  obtain ⟨t37, ht37⟩ : ∃ t : List (ClassId × FieldType), t = t36 ++ [(k36, .int)] := ⟨_, rfl⟩
  rw [← hr37] at hP hD
  rw [← ht37] at hK
  obtain ⟨f38, hf38⟩ : ∃ f : List Value, f = f37.set 47 (.ref q36) := ⟨_, rfl⟩
  rw [← hf38] at hP hD hlen
  refine lv_aload_n hx hb dX12_init_333 rfl (lv_at hl 0 rfl) ?_
  refine lv_sipush (v := 1000) hx hb dX12_init_334 (by decide) ?_
  refine mi_keep (k := 48) (fs := f38) (rest := r37) (tys := t37) (atype := .boolean) (a0 := (1000, .inl (fun _ => 0))) hx hb hts hown hin hK hP hD hS hlen (by decide) (hts _ wd_1448) rfl hA wd_1785 rfl (fun _ => rfl) (by decide) (by decide) (by decide) (by omega) (by omega) dX12_init_337 dX12_init_339 rfl (fun _ => rfl) (fun _ => rfl) (fun q37 k37 H locs hK hP hD hS hlen => ?_)
  refine W.widen (k := 38) (n := 269894) (by omega) (by omega) ?_
  obtain ⟨r38, hr38⟩ : ∃ r : va_W, r = r37 ++ [(q37, .inl (k37, (1000, .inl (fun _ => 0))))] := ⟨_, rfl⟩
  obtain ⟨t38, ht38⟩ : ∃ t : List (ClassId × FieldType), t = t37 ++ [(k37, .boolean)] := ⟨_, rfl⟩
  rw [← hr38] at hP hD
  rw [← ht38] at hK
  obtain ⟨f39, hf39⟩ : ∃ f : List Value, f = f38.set 48 (.ref q37) := ⟨_, rfl⟩
  rw [← hf39] at hP hD hlen
  refine lv_aload_n hx hb dX12_init_342 rfl (lv_at hl 0 rfl) ?_
  refine lv_sipush (v := 1000) hx hb dX12_init_343 (by decide) ?_
  refine mi_keep (k := 49) (fs := f39) (rest := r38) (tys := t38) (atype := .boolean) (a0 := (1000, .inl (fun _ => 0))) hx hb hts hown hin hK hP hD hS hlen (by decide) (hts _ wd_1449) rfl hA wd_1785 rfl (fun _ => rfl) (by decide) (by decide) (by decide) (by omega) (by omega) dX12_init_346 dX12_init_348 rfl (fun _ => rfl) (fun _ => rfl) (fun q38 k38 H locs hK hP hD hS hlen => ?_)
  refine W.widen (k := 39) (n := 270894) (by omega) (by omega) ?_
  obtain ⟨r39, hr39⟩ : ∃ r : va_W, r = r38 ++ [(q38, .inl (k38, (1000, .inl (fun _ => 0))))] := ⟨_, rfl⟩
  obtain ⟨t39, ht39⟩ : ∃ t : List (ClassId × FieldType), t = t38 ++ [(k38, .boolean)] := ⟨_, rfl⟩
  rw [← hr39] at hP hD
  rw [← ht39] at hK
  obtain ⟨f40, hf40⟩ : ∃ f : List Value, f = f39.set 49 (.ref q38) := ⟨_, rfl⟩
  rw [← hf40] at hP hD hlen
  refine lv_aload_n hx hb dX12_init_351 rfl (lv_at hl 0 rfl) ?_
  refine lv_sipush (v := 1000) hx hb dX12_init_352 (by decide) ?_
  refine mi_keep (k := 50) (fs := f40) (rest := r39) (tys := t39) (atype := .boolean) (a0 := (1000, .inl (fun _ => 0))) hx hb hts hown hin hK hP hD hS hlen (by decide) (hts _ wd_1450) rfl hA wd_1785 rfl (fun _ => rfl) (by decide) (by decide) (by decide) (by omega) (by omega) dX12_init_355 dX12_init_357 rfl (fun _ => rfl) (fun _ => rfl) (fun q39 k39 H locs hK hP hD hS hlen => ?_)
  refine W.widen (k := 40) (n := 271894) (by omega) (by omega) ?_
  obtain ⟨r40, hr40⟩ : ∃ r : va_W, r = r39 ++ [(q39, .inl (k39, (1000, .inl (fun _ => 0))))] := ⟨_, rfl⟩
  obtain ⟨t40, ht40⟩ : ∃ t : List (ClassId × FieldType), t = t39 ++ [(k39, .boolean)] := ⟨_, rfl⟩
  rw [← hr40] at hP hD
  rw [← ht40] at hK
  obtain ⟨f41, hf41⟩ : ∃ f : List Value, f = f40.set 50 (.ref q39) := ⟨_, rfl⟩
  rw [← hf41] at hP hD hlen
  refine lv_aload_n hx hb dX12_init_360 rfl (lv_at hl 0 rfl) ?_
  refine lv_sipush (v := 1000) hx hb dX12_init_361 (by decide) ?_
  refine mi_keep (k := 52) (fs := f41) (rest := r40) (tys := t40) (atype := .int) (a0 := (1000, .inl (fun _ => 0))) hx hb hts hown hin hK hP hD hS hlen (by decide) (hts _ wd_1452) rfl hA wd_121 rfl (fun _ => rfl) (by decide) (by decide) (by decide) (by omega) (by omega) dX12_init_364 dX12_init_366 rfl (fun _ => rfl) (fun _ => rfl) (fun q40 k40 H locs hK hP hD hS hlen => ?_)
  refine W.widen (k := 41) (n := 272894) (by omega) (by omega) ?_
  obtain ⟨r41, hr41⟩ : ∃ r : va_W, r = r40 ++ [(q40, .inl (k40, (1000, .inl (fun _ => 0))))] := ⟨_, rfl⟩
  obtain ⟨t41, ht41⟩ : ∃ t : List (ClassId × FieldType), t = t40 ++ [(k40, .int)] := ⟨_, rfl⟩
  rw [← hr41] at hP hD
  rw [← ht41] at hK
  obtain ⟨f42, hf42⟩ : ∃ f : List Value, f = f41.set 52 (.ref q40) := ⟨_, rfl⟩
  rw [← hf42] at hP hD hlen
  refine lv_aload_n hx hb dX12_init_369 rfl (lv_at hl 0 rfl) ?_
  refine lv_sipush (v := 1000) hx hb dX12_init_370 (by decide) ?_
  refine mi_keep (k := 53) (fs := f42) (rest := r41) (tys := t41) (atype := .int) (a0 := (1000, .inl (fun _ => 0))) hx hb hts hown hin hK hP hD hS hlen (by decide) (hts _ wd_1453) rfl hA wd_121 rfl (fun _ => rfl) (by decide) (by decide) (by decide) (by omega) (by omega) dX12_init_373 dX12_init_375 rfl (fun _ => rfl) (fun _ => rfl) (fun q41 k41 H locs hK hP hD hS hlen => ?_)
  refine W.widen (k := 42) (n := 273894) (by omega) (by omega) ?_
  obtain ⟨r42, hr42⟩ : ∃ r : va_W, r = r41 ++ [(q41, .inl (k41, (1000, .inl (fun _ => 0))))] := ⟨_, rfl⟩
  obtain ⟨t42, ht42⟩ : ∃ t : List (ClassId × FieldType), t = t41 ++ [(k41, .int)] := ⟨_, rfl⟩
  rw [← hr42] at hP hD
  rw [← ht42] at hK
  obtain ⟨f43, hf43⟩ : ∃ f : List Value, f = f42.set 53 (.ref q41) := ⟨_, rfl⟩
  rw [← hf43] at hP hD hlen
  have hN7 : f43 = [.int 0, .ref q0, .int 0, .int 0, .ref q1, .ref q2, .ref q3, .int 0, .int 0, .ref a, .ref q4, .int 0, .int 0, .ref q5, .ref q6, .ref q7, .ref q8, .ref q9, .ref q10, .ref q11, .ref q12, .ref q13, .ref q14, .int 0, .ref q15, .ref q16, .ref q17, .ref q18, .ref q19, .ref q20, .ref q21, .int 0, .ref q22, .ref q23, .ref q24, .int 0, .ref q25, .ref q26, .ref q27, .ref q28, .ref q29, .ref q30, .ref q31, .ref q32, .ref q33, .ref q34, .ref q35, .ref q36, .ref q37, .ref q38, .ref q39, .int 0, .ref q40, .ref q41, .null, .null, .null, .null, .null, .null, .null, .int 0, .int 0, .int 0, .int 0, .int 0, .int 0, .int 0, .int 0, .int 0, .int 0, .null, .null, .int 0, .int 0, .null, .null, .null, .null, .null, .null, .null, .null, .null, .null, .null, .null, .null, .null, .null, .null, .null, .null, .null, .null, .null, .null, .null, .int 0, .int 0, .int 0, .int 0, .int 0, .null, .null, .int 0, .null, .null, .null, .null, .int 0, .null, .null, .null, .null, .null, .null, .null, .null, .int 0, .null, .int 0, .int 0, .int 0, .int 0, .int 0, .int 0, .int 0] := by rw [hf43, hf42, hf41, hf40, hf39, hf38, hN6]; rfl
  refine lv_aload_n hx hb dX12_init_378 rfl (lv_at hl 0 rfl) ?_
  refine lv_sipush (v := 1000) hx hb dX12_init_379 (by decide) ?_
  refine mi_keep (k := 54) (fs := f43) (rest := r42) (tys := t42) (atype := .int) (a0 := (1000, .inl (fun _ => 0))) hx hb hts hown hin hK hP hD hS hlen (by decide) (hts _ wd_1454) rfl hA wd_121 rfl (fun _ => rfl) (by decide) (by decide) (by decide) (by omega) (by omega) dX12_init_382 dX12_init_384 rfl (fun _ => rfl) (fun _ => rfl) (fun q42 k42 H locs hK hP hD hS hlen => ?_)
  refine W.widen (k := 43) (n := 274894) (by omega) (by omega) ?_
  obtain ⟨r43, hr43⟩ : ∃ r : va_W, r = r42 ++ [(q42, .inl (k42, (1000, .inl (fun _ => 0))))] := ⟨_, rfl⟩
  obtain ⟨t43, ht43⟩ : ∃ t : List (ClassId × FieldType), t = t42 ++ [(k42, .int)] := ⟨_, rfl⟩
  rw [← hr43] at hP hD
  rw [← ht43] at hK
  obtain ⟨f44, hf44⟩ : ∃ f : List Value, f = f43.set 54 (.ref q42) := ⟨_, rfl⟩
  rw [← hf44] at hP hD hlen
  refine lv_aload_n hx hb dX12_init_387 rfl (lv_at hl 0 rfl) ?_
  refine lv_sipush (v := 1000) hx hb dX12_init_388 (by decide) ?_
  refine mi_keep (k := 55) (fs := f44) (rest := r43) (tys := t43) (atype := .int) (a0 := (1000, .inl (fun _ => 0))) hx hb hts hown hin hK hP hD hS hlen (by decide) (hts _ wd_1455) rfl hA wd_121 rfl (fun _ => rfl) (by decide) (by decide) (by decide) (by omega) (by omega) dX12_init_391 dX12_init_393 rfl (fun _ => rfl) (fun _ => rfl) (fun q43 k43 H locs hK hP hD hS hlen => ?_)
  refine W.widen (k := 44) (n := 275894) (by omega) (by omega) ?_
  obtain ⟨r44, hr44⟩ : ∃ r : va_W, r = r43 ++ [(q43, .inl (k43, (1000, .inl (fun _ => 0))))] := ⟨_, rfl⟩
  obtain ⟨t44, ht44⟩ : ∃ t : List (ClassId × FieldType), t = t43 ++ [(k43, .int)] := ⟨_, rfl⟩
  rw [← hr44] at hP hD
  rw [← ht44] at hK
  obtain ⟨f45, hf45⟩ : ∃ f : List Value, f = f44.set 55 (.ref q43) := ⟨_, rfl⟩
  rw [← hf45] at hP hD hlen
  refine lv_aload_n hx hb dX12_init_396 rfl (lv_at hl 0 rfl) ?_
  refine lv_sipush (v := 1000) hx hb dX12_init_397 (by decide) ?_
  refine mi_keep (k := 56) (fs := f45) (rest := r44) (tys := t44) (atype := .int) (a0 := (1000, .inl (fun _ => 0))) hx hb hts hown hin hK hP hD hS hlen (by decide) (hts _ wd_1456) rfl hA wd_121 rfl (fun _ => rfl) (by decide) (by decide) (by decide) (by omega) (by omega) dX12_init_400 dX12_init_402 rfl (fun _ => rfl) (fun _ => rfl) (fun q44 k44 H locs hK hP hD hS hlen => ?_)
  refine W.widen (k := 45) (n := 276894) (by omega) (by omega) ?_
  obtain ⟨r45, hr45⟩ : ∃ r : va_W, r = r44 ++ [(q44, .inl (k44, (1000, .inl (fun _ => 0))))] := ⟨_, rfl⟩
  obtain ⟨t45, ht45⟩ : ∃ t : List (ClassId × FieldType), t = t44 ++ [(k44, .int)] := ⟨_, rfl⟩
  rw [← hr45] at hP hD
  rw [← ht45] at hK
  obtain ⟨f46, hf46⟩ : ∃ f : List Value, f = f45.set 56 (.ref q44) := ⟨_, rfl⟩
  rw [← hf46] at hP hD hlen
  refine lv_aload_n hx hb dX12_init_405 rfl (lv_at hl 0 rfl) ?_
  refine lv_sipush (v := 1000) hx hb dX12_init_406 (by decide) ?_
  refine mi_keep (k := 57) (fs := f46) (rest := r45) (tys := t45) (atype := .int) (a0 := (1000, .inl (fun _ => 0))) hx hb hts hown hin hK hP hD hS hlen (by decide) (hts _ wd_1457) rfl hA wd_121 rfl (fun _ => rfl) (by decide) (by decide) (by decide) (by omega) (by omega) dX12_init_409 dX12_init_411 rfl (fun _ => rfl) (fun _ => rfl) (fun q45 k45 H locs hK hP hD hS hlen => ?_)
  refine W.widen (k := 46) (n := 277894) (by omega) (by omega) ?_
  obtain ⟨r46, hr46⟩ : ∃ r : va_W, r = r45 ++ [(q45, .inl (k45, (1000, .inl (fun _ => 0))))] := ⟨_, rfl⟩
  obtain ⟨t46, ht46⟩ : ∃ t : List (ClassId × FieldType), t = t45 ++ [(k45, .int)] := ⟨_, rfl⟩
  rw [← hr46] at hP hD
  rw [← ht46] at hK
  obtain ⟨f47, hf47⟩ : ∃ f : List Value, f = f46.set 57 (.ref q45) := ⟨_, rfl⟩
  rw [← hf47] at hP hD hlen
  refine lv_aload_n hx hb dX12_init_414 rfl (lv_at hl 0 rfl) ?_
  refine lv_sipush (v := 1000) hx hb dX12_init_415 (by decide) ?_
  refine mi_keep (k := 58) (fs := f47) (rest := r46) (tys := t46) (atype := .int) (a0 := (1000, .inl (fun _ => 0))) hx hb hts hown hin hK hP hD hS hlen (by decide) (hts _ wd_1458) rfl hA wd_121 rfl (fun _ => rfl) (by decide) (by decide) (by decide) (by omega) (by omega) dX12_init_418 dX12_init_420 rfl (fun _ => rfl) (fun _ => rfl) (fun q46 k46 H locs hK hP hD hS hlen => ?_)
  refine W.widen (k := 47) (n := 278894) (by omega) (by omega) ?_
  obtain ⟨r47, hr47⟩ : ∃ r : va_W, r = r46 ++ [(q46, .inl (k46, (1000, .inl (fun _ => 0))))] := ⟨_, rfl⟩
  obtain ⟨t47, ht47⟩ : ∃ t : List (ClassId × FieldType), t = t46 ++ [(k46, .int)] := ⟨_, rfl⟩
  rw [← hr47] at hP hD
  rw [← ht47] at hK
  obtain ⟨f48, hf48⟩ : ∃ f : List Value, f = f47.set 58 (.ref q46) := ⟨_, rfl⟩
  rw [← hf48] at hP hD hlen
  refine lv_aload_n hx hb dX12_init_423 rfl (lv_at hl 0 rfl) ?_
  refine lv_sipush (v := 1000) hx hb dX12_init_424 (by decide) ?_
  refine mi_keep (k := 59) (fs := f48) (rest := r47) (tys := t47) (atype := .int) (a0 := (1000, .inl (fun _ => 0))) hx hb hts hown hin hK hP hD hS hlen (by decide) (hts _ wd_1459) rfl hA wd_121 rfl (fun _ => rfl) (by decide) (by decide) (by decide) (by omega) (by omega) dX12_init_427 dX12_init_429 rfl (fun _ => rfl) (fun _ => rfl) (fun q47 k47 H locs hK hP hD hS hlen => ?_)
  refine W.widen (k := 48) (n := 279894) (by omega) (by omega) ?_
  obtain ⟨r48, hr48⟩ : ∃ r : va_W, r = r47 ++ [(q47, .inl (k47, (1000, .inl (fun _ => 0))))] := ⟨_, rfl⟩
  obtain ⟨t48, ht48⟩ : ∃ t : List (ClassId × FieldType), t = t47 ++ [(k47, .int)] := ⟨_, rfl⟩
  rw [← hr48] at hP hD
  rw [← ht48] at hK
  obtain ⟨f49, hf49⟩ : ∃ f : List Value, f = f48.set 59 (.ref q47) := ⟨_, rfl⟩
  rw [← hf49] at hP hD hlen
  have hN8 : f49 = [.int 0, .ref q0, .int 0, .int 0, .ref q1, .ref q2, .ref q3, .int 0, .int 0, .ref a, .ref q4, .int 0, .int 0, .ref q5, .ref q6, .ref q7, .ref q8, .ref q9, .ref q10, .ref q11, .ref q12, .ref q13, .ref q14, .int 0, .ref q15, .ref q16, .ref q17, .ref q18, .ref q19, .ref q20, .ref q21, .int 0, .ref q22, .ref q23, .ref q24, .int 0, .ref q25, .ref q26, .ref q27, .ref q28, .ref q29, .ref q30, .ref q31, .ref q32, .ref q33, .ref q34, .ref q35, .ref q36, .ref q37, .ref q38, .ref q39, .int 0, .ref q40, .ref q41, .ref q42, .ref q43, .ref q44, .ref q45, .ref q46, .ref q47, .null, .int 0, .int 0, .int 0, .int 0, .int 0, .int 0, .int 0, .int 0, .int 0, .int 0, .null, .null, .int 0, .int 0, .null, .null, .null, .null, .null, .null, .null, .null, .null, .null, .null, .null, .null, .null, .null, .null, .null, .null, .null, .null, .null, .null, .null, .int 0, .int 0, .int 0, .int 0, .int 0, .null, .null, .int 0, .null, .null, .null, .null, .int 0, .null, .null, .null, .null, .null, .null, .null, .null, .int 0, .null, .int 0, .int 0, .int 0, .int 0, .int 0, .int 0, .int 0] := by rw [hf49, hf48, hf47, hf46, hf45, hf44, hN7]; rfl
  refine lv_aload_n hx hb dX12_init_432 rfl (lv_at hl 0 rfl) ?_
  refine lv_sipush (v := 1000) hx hb dX12_init_433 (by decide) ?_
  refine mi_keep (k := 60) (fs := f49) (rest := r48) (tys := t48) (atype := .int) (a0 := (1000, .inl (fun _ => 0))) hx hb hts hown hin hK hP hD hS hlen (by decide) (hts _ wd_1460) rfl hA wd_121 rfl (fun _ => rfl) (by decide) (by decide) (by decide) (by omega) (by omega) dX12_init_436 dX12_init_438 rfl (fun _ => rfl) (fun _ => rfl) (fun q48 k48 H locs hK hP hD hS hlen => ?_)
  refine W.widen (k := 49) (n := 280894) (by omega) (by omega) ?_
  obtain ⟨r49, hr49⟩ : ∃ r : va_W, r = r48 ++ [(q48, .inl (k48, (1000, .inl (fun _ => 0))))] := ⟨_, rfl⟩
  obtain ⟨t49, ht49⟩ : ∃ t : List (ClassId × FieldType), t = t48 ++ [(k48, .int)] := ⟨_, rfl⟩
  rw [← hr49] at hP hD
  rw [← ht49] at hK
  obtain ⟨f50, hf50⟩ : ∃ f : List Value, f = f49.set 60 (.ref q48) := ⟨_, rfl⟩
  rw [← hf50] at hP hD hlen
  refine lv_aload_n hx hb dX12_init_441 rfl (lv_at hl 0 rfl) ?_
  refine lv_iconst (v := 1) hx hb dX12_init_442 (by decide) ?_
  refine mi_put (k := 70) (fs := f50) (rest := r49) hx hb hts hown hK hP hD hS hlen (by decide) (hts _ wd_1470) rfl rfl rfl rfl dX12_init_443 (fun H locs hP hD hS hlen => ?_)
  obtain ⟨f51, hf51⟩ : ∃ f : List Value, f = f50.set 70 (.int 1) := ⟨_, rfl⟩
  rw [← hf51] at hP hD hlen
  refine lv_aload_n hx hb dX12_init_446 rfl (lv_at hl 0 rfl) ?_
  refine lv_sipush (v := 12000) hx hb dX12_init_447 (by decide) ?_
  refine mi_keep (k := 71) (fs := f51) (rest := r49) (tys := t49) (atype := .boolean) (a0 := (12000, .inl (fun _ => 0))) hx hb hts hown hin hK hP hD hS hlen (by decide) (hts _ wd_1471) rfl hA wd_1785 rfl (fun _ => rfl) (by decide) (by decide) (by decide) (by omega) (by omega) dX12_init_450 dX12_init_452 rfl (fun _ => rfl) (fun _ => rfl) (fun q49 k49 H locs hK hP hD hS hlen => ?_)
  refine W.widen (k := 50) (n := 292894) (by omega) (by omega) ?_
  obtain ⟨r50, hr50⟩ : ∃ r : va_W, r = r49 ++ [(q49, .inl (k49, (12000, .inl (fun _ => 0))))] := ⟨_, rfl⟩
  obtain ⟨t50, ht50⟩ : ∃ t : List (ClassId × FieldType), t = t49 ++ [(k49, .boolean)] := ⟨_, rfl⟩
  rw [← hr50] at hP hD
  rw [← ht50] at hK
  obtain ⟨f52, hf52⟩ : ∃ f : List Value, f = f51.set 71 (.ref q49) := ⟨_, rfl⟩
  rw [← hf52] at hP hD hlen
  refine lv_aload_n hx hb dX12_init_455 rfl (lv_at hl 0 rfl) ?_
  refine lv_sipush (v := 12000) hx hb dX12_init_456 (by decide) ?_
  refine mi_keep (k := 72) (fs := f52) (rest := r50) (tys := t50) (atype := .int) (a0 := (12000, .inl (fun _ => 0))) hx hb hts hown hin hK hP hD hS hlen (by decide) (hts _ wd_1472) rfl hA wd_121 rfl (fun _ => rfl) (by decide) (by decide) (by decide) (by omega) (by omega) dX12_init_459 dX12_init_461 rfl (fun _ => rfl) (fun _ => rfl) (fun q50 k50 H locs hK hP hD hS hlen => ?_)
  refine W.widen (k := 51) (n := 304894) (by omega) (by omega) ?_
  obtain ⟨r51, hr51⟩ : ∃ r : va_W, r = r50 ++ [(q50, .inl (k50, (12000, .inl (fun _ => 0))))] := ⟨_, rfl⟩
  obtain ⟨t51, ht51⟩ : ∃ t : List (ClassId × FieldType), t = t50 ++ [(k50, .int)] := ⟨_, rfl⟩
  rw [← hr51] at hP hD
  rw [← ht51] at hK
  obtain ⟨f53, hf53⟩ : ∃ f : List Value, f = f52.set 72 (.ref q50) := ⟨_, rfl⟩
  rw [← hf53] at hP hD hlen
  refine lv_aload_n hx hb dX12_init_464 rfl (lv_at hl 0 rfl) ?_
  refine lv_sipush (v := 200) hx hb dX12_init_465 (by decide) ?_
  refine mi_keep (k := 75) (fs := f53) (rest := r51) (tys := t51) (atype := .int) (a0 := (200, .inl (fun _ => 0))) hx hb hts hown hin hK hP hD hS hlen (by decide) (hts _ wd_1475) rfl hA wd_121 rfl (fun _ => rfl) (by decide) (by decide) (by decide) (by omega) (by omega) dX12_init_468 dX12_init_470 rfl (fun _ => rfl) (fun _ => rfl) (fun q51 k51 H locs hK hP hD hS hlen => ?_)
  refine W.widen (k := 52) (n := 305094) (by omega) (by omega) ?_
  obtain ⟨r52, hr52⟩ : ∃ r : va_W, r = r51 ++ [(q51, .inl (k51, (200, .inl (fun _ => 0))))] := ⟨_, rfl⟩
  obtain ⟨t52, ht52⟩ : ∃ t : List (ClassId × FieldType), t = t51 ++ [(k51, .int)] := ⟨_, rfl⟩
  rw [← hr52] at hP hD
  rw [← ht52] at hK
  obtain ⟨f54, hf54⟩ : ∃ f : List Value, f = f53.set 75 (.ref q51) := ⟨_, rfl⟩
  rw [← hf54] at hP hD hlen
  refine lv_aload_n hx hb dX12_init_473 rfl (lv_at hl 0 rfl) ?_
  refine lv_sipush (v := 200) hx hb dX12_init_474 (by decide) ?_
  refine mi_keep (k := 76) (fs := f54) (rest := r52) (tys := t52) (atype := .int) (a0 := (200, .inl (fun _ => 0))) hx hb hts hown hin hK hP hD hS hlen (by decide) (hts _ wd_1476) rfl hA wd_121 rfl (fun _ => rfl) (by decide) (by decide) (by decide) (by omega) (by omega) dX12_init_477 dX12_init_479 rfl (fun _ => rfl) (fun _ => rfl) (fun q52 k52 H locs hK hP hD hS hlen => ?_)
  refine W.widen (k := 53) (n := 305294) (by omega) (by omega) ?_
  obtain ⟨r53, hr53⟩ : ∃ r : va_W, r = r52 ++ [(q52, .inl (k52, (200, .inl (fun _ => 0))))] := ⟨_, rfl⟩
  obtain ⟨t53, ht53⟩ : ∃ t : List (ClassId × FieldType), t = t52 ++ [(k52, .int)] := ⟨_, rfl⟩
  rw [← hr53] at hP hD
  rw [← ht53] at hK
  obtain ⟨f55, hf55⟩ : ∃ f : List Value, f = f54.set 76 (.ref q52) := ⟨_, rfl⟩
  rw [← hf55] at hP hD hlen
  refine lv_aload_n hx hb dX12_init_482 rfl (lv_at hl 0 rfl) ?_
  refine lv_sipush (v := 200) hx hb dX12_init_483 (by decide) ?_
  refine mi_keep (k := 77) (fs := f55) (rest := r53) (tys := t53) (atype := .int) (a0 := (200, .inl (fun _ => 0))) hx hb hts hown hin hK hP hD hS hlen (by decide) (hts _ wd_1477) rfl hA wd_121 rfl (fun _ => rfl) (by decide) (by decide) (by decide) (by omega) (by omega) dX12_init_486 dX12_init_488 rfl (fun _ => rfl) (fun _ => rfl) (fun q53 k53 H locs hK hP hD hS hlen => ?_)
  refine W.widen (k := 54) (n := 305494) (by omega) (by omega) ?_
  obtain ⟨r54, hr54⟩ : ∃ r : va_W, r = r53 ++ [(q53, .inl (k53, (200, .inl (fun _ => 0))))] := ⟨_, rfl⟩
  obtain ⟨t54, ht54⟩ : ∃ t : List (ClassId × FieldType), t = t53 ++ [(k53, .int)] := ⟨_, rfl⟩
  rw [← hr54] at hP hD
  rw [← ht54] at hK
  obtain ⟨f56, hf56⟩ : ∃ f : List Value, f = f55.set 77 (.ref q53) := ⟨_, rfl⟩
  rw [← hf56] at hP hD hlen
  have hN9 : f56 = [.int 0, .ref q0, .int 0, .int 0, .ref q1, .ref q2, .ref q3, .int 0, .int 0, .ref a, .ref q4, .int 0, .int 0, .ref q5, .ref q6, .ref q7, .ref q8, .ref q9, .ref q10, .ref q11, .ref q12, .ref q13, .ref q14, .int 0, .ref q15, .ref q16, .ref q17, .ref q18, .ref q19, .ref q20, .ref q21, .int 0, .ref q22, .ref q23, .ref q24, .int 0, .ref q25, .ref q26, .ref q27, .ref q28, .ref q29, .ref q30, .ref q31, .ref q32, .ref q33, .ref q34, .ref q35, .ref q36, .ref q37, .ref q38, .ref q39, .int 0, .ref q40, .ref q41, .ref q42, .ref q43, .ref q44, .ref q45, .ref q46, .ref q47, .ref q48, .int 0, .int 0, .int 0, .int 0, .int 0, .int 0, .int 0, .int 0, .int 0, .int 1, .ref q49, .ref q50, .int 0, .int 0, .ref q51, .ref q52, .ref q53, .null, .null, .null, .null, .null, .null, .null, .null, .null, .null, .null, .null, .null, .null, .null, .null, .null, .null, .null, .null, .int 0, .int 0, .int 0, .int 0, .int 0, .null, .null, .int 0, .null, .null, .null, .null, .int 0, .null, .null, .null, .null, .null, .null, .null, .null, .int 0, .null, .int 0, .int 0, .int 0, .int 0, .int 0, .int 0, .int 0] := by rw [hf56, hf55, hf54, hf53, hf52, hf51, hf50, hN8]; rfl
  refine lv_aload_n hx hb dX12_init_491 rfl (lv_at hl 0 rfl) ?_
  refine lv_sipush (v := 200) hx hb dX12_init_492 (by decide) ?_
  refine mi_keep (k := 78) (fs := f56) (rest := r54) (tys := t54) (atype := .int) (a0 := (200, .inl (fun _ => 0))) hx hb hts hown hin hK hP hD hS hlen (by decide) (hts _ wd_1478) rfl hA wd_121 rfl (fun _ => rfl) (by decide) (by decide) (by decide) (by omega) (by omega) dX12_init_495 dX12_init_497 rfl (fun _ => rfl) (fun _ => rfl) (fun q54 k54 H locs hK hP hD hS hlen => ?_)
  refine W.widen (k := 55) (n := 305694) (by omega) (by omega) ?_
  obtain ⟨r55, hr55⟩ : ∃ r : va_W, r = r54 ++ [(q54, .inl (k54, (200, .inl (fun _ => 0))))] := ⟨_, rfl⟩
  obtain ⟨t55, ht55⟩ : ∃ t : List (ClassId × FieldType), t = t54 ++ [(k54, .int)] := ⟨_, rfl⟩
  rw [← hr55] at hP hD
  rw [← ht55] at hK
  obtain ⟨f57, hf57⟩ : ∃ f : List Value, f = f56.set 78 (.ref q54) := ⟨_, rfl⟩
  rw [← hf57] at hP hD hlen
  refine lv_aload_n hx hb dX12_init_500 rfl (lv_at hl 0 rfl) ?_
  refine lv_sipush (v := 200) hx hb dX12_init_501 (by decide) ?_
  refine mi_keep (k := 79) (fs := f57) (rest := r55) (tys := t55) (atype := .int) (a0 := (200, .inl (fun _ => 0))) hx hb hts hown hin hK hP hD hS hlen (by decide) (hts _ wd_1479) rfl hA wd_121 rfl (fun _ => rfl) (by decide) (by decide) (by decide) (by omega) (by omega) dX12_init_504 dX12_init_506 rfl (fun _ => rfl) (fun _ => rfl) (fun q55 k55 H locs hK hP hD hS hlen => ?_)
  refine W.widen (k := 56) (n := 305894) (by omega) (by omega) ?_
  obtain ⟨r56, hr56⟩ : ∃ r : va_W, r = r55 ++ [(q55, .inl (k55, (200, .inl (fun _ => 0))))] := ⟨_, rfl⟩
  obtain ⟨t56, ht56⟩ : ∃ t : List (ClassId × FieldType), t = t55 ++ [(k55, .int)] := ⟨_, rfl⟩
  rw [← hr56] at hP hD
  rw [← ht56] at hK
  obtain ⟨f58, hf58⟩ : ∃ f : List Value, f = f57.set 79 (.ref q55) := ⟨_, rfl⟩
  rw [← hf58] at hP hD hlen
  refine lv_aload_n hx hb dX12_init_509 rfl (lv_at hl 0 rfl) ?_
  refine lv_sipush (v := 200) hx hb dX12_init_510 (by decide) ?_
  refine mi_keep (k := 80) (fs := f58) (rest := r56) (tys := t56) (atype := .int) (a0 := (200, .inl (fun _ => 0))) hx hb hts hown hin hK hP hD hS hlen (by decide) (hts _ wd_1480) rfl hA wd_121 rfl (fun _ => rfl) (by decide) (by decide) (by decide) (by omega) (by omega) dX12_init_513 dX12_init_515 rfl (fun _ => rfl) (fun _ => rfl) (fun q56 k56 H locs hK hP hD hS hlen => ?_)
  refine W.widen (k := 57) (n := 306094) (by omega) (by omega) ?_
  obtain ⟨r57, hr57⟩ : ∃ r : va_W, r = r56 ++ [(q56, .inl (k56, (200, .inl (fun _ => 0))))] := ⟨_, rfl⟩
  obtain ⟨t57, ht57⟩ : ∃ t : List (ClassId × FieldType), t = t56 ++ [(k56, .int)] := ⟨_, rfl⟩
  rw [← hr57] at hP hD
  rw [← ht57] at hK
  obtain ⟨f59, hf59⟩ : ∃ f : List Value, f = f58.set 80 (.ref q56) := ⟨_, rfl⟩
  rw [← hf59] at hP hD hlen
  refine lv_aload_n hx hb dX12_init_518 rfl (lv_at hl 0 rfl) ?_
  refine lv_sipush (v := 200) hx hb dX12_init_519 (by decide) ?_
  refine mi_keep (k := 81) (fs := f59) (rest := r57) (tys := t57) (atype := .int) (a0 := (200, .inl (fun _ => 0))) hx hb hts hown hin hK hP hD hS hlen (by decide) (hts _ wd_1481) rfl hA wd_121 rfl (fun _ => rfl) (by decide) (by decide) (by decide) (by omega) (by omega) dX12_init_522 dX12_init_524 rfl (fun _ => rfl) (fun _ => rfl) (fun q57 k57 H locs hK hP hD hS hlen => ?_)
  refine W.widen (k := 58) (n := 306294) (by omega) (by omega) ?_
  obtain ⟨r58, hr58⟩ : ∃ r : va_W, r = r57 ++ [(q57, .inl (k57, (200, .inl (fun _ => 0))))] := ⟨_, rfl⟩
  obtain ⟨t58, ht58⟩ : ∃ t : List (ClassId × FieldType), t = t57 ++ [(k57, .int)] := ⟨_, rfl⟩
  rw [← hr58] at hP hD
  rw [← ht58] at hK
  obtain ⟨f60, hf60⟩ : ∃ f : List Value, f = f59.set 81 (.ref q57) := ⟨_, rfl⟩
  rw [← hf60] at hP hD hlen
  refine lv_aload_n hx hb dX12_init_527 rfl (lv_at hl 0 rfl) ?_
  refine lv_sipush (v := 2400) hx hb dX12_init_528 (by decide) ?_
  refine mi_keep (k := 82) (fs := f60) (rest := r58) (tys := t58) (atype := .int) (a0 := (2400, .inl (fun _ => 0))) hx hb hts hown hin hK hP hD hS hlen (by decide) (hts _ wd_1482) rfl hA wd_121 rfl (fun _ => rfl) (by decide) (by decide) (by decide) (by omega) (by omega) dX12_init_531 dX12_init_533 rfl (fun _ => rfl) (fun _ => rfl) (fun q58 k58 H locs hK hP hD hS hlen => ?_)
  refine W.widen (k := 59) (n := 308694) (by omega) (by omega) ?_
  obtain ⟨r59, hr59⟩ : ∃ r : va_W, r = r58 ++ [(q58, .inl (k58, (2400, .inl (fun _ => 0))))] := ⟨_, rfl⟩
  obtain ⟨t59, ht59⟩ : ∃ t : List (ClassId × FieldType), t = t58 ++ [(k58, .int)] := ⟨_, rfl⟩
  rw [← hr59] at hP hD
  rw [← ht59] at hK
  obtain ⟨f61, hf61⟩ : ∃ f : List Value, f = f60.set 82 (.ref q58) := ⟨_, rfl⟩
  rw [← hf61] at hP hD hlen
  refine lv_aload_n hx hb dX12_init_536 rfl (lv_at hl 0 rfl) ?_
  refine lv_sipush (v := 200) hx hb dX12_init_537 (by decide) ?_
  refine mi_keep (k := 83) (fs := f61) (rest := r59) (tys := t59) (atype := .int) (a0 := (200, .inl (fun _ => 0))) hx hb hts hown hin hK hP hD hS hlen (by decide) (hts _ wd_1483) rfl hA wd_121 rfl (fun _ => rfl) (by decide) (by decide) (by decide) (by omega) (by omega) dX12_init_540 dX12_init_542 rfl (fun _ => rfl) (fun _ => rfl) (fun q59 k59 H locs hK hP hD hS hlen => ?_)
  refine W.widen (k := 60) (n := 308894) (by omega) (by omega) ?_
  obtain ⟨r60, hr60⟩ : ∃ r : va_W, r = r59 ++ [(q59, .inl (k59, (200, .inl (fun _ => 0))))] := ⟨_, rfl⟩
  obtain ⟨t60, ht60⟩ : ∃ t : List (ClassId × FieldType), t = t59 ++ [(k59, .int)] := ⟨_, rfl⟩
  rw [← hr60] at hP hD
  rw [← ht60] at hK
  obtain ⟨f62, hf62⟩ : ∃ f : List Value, f = f61.set 83 (.ref q59) := ⟨_, rfl⟩
  rw [← hf62] at hP hD hlen
  have hN10 : f62 = [.int 0, .ref q0, .int 0, .int 0, .ref q1, .ref q2, .ref q3, .int 0, .int 0, .ref a, .ref q4, .int 0, .int 0, .ref q5, .ref q6, .ref q7, .ref q8, .ref q9, .ref q10, .ref q11, .ref q12, .ref q13, .ref q14, .int 0, .ref q15, .ref q16, .ref q17, .ref q18, .ref q19, .ref q20, .ref q21, .int 0, .ref q22, .ref q23, .ref q24, .int 0, .ref q25, .ref q26, .ref q27, .ref q28, .ref q29, .ref q30, .ref q31, .ref q32, .ref q33, .ref q34, .ref q35, .ref q36, .ref q37, .ref q38, .ref q39, .int 0, .ref q40, .ref q41, .ref q42, .ref q43, .ref q44, .ref q45, .ref q46, .ref q47, .ref q48, .int 0, .int 0, .int 0, .int 0, .int 0, .int 0, .int 0, .int 0, .int 0, .int 1, .ref q49, .ref q50, .int 0, .int 0, .ref q51, .ref q52, .ref q53, .ref q54, .ref q55, .ref q56, .ref q57, .ref q58, .ref q59, .null, .null, .null, .null, .null, .null, .null, .null, .null, .null, .null, .null, .null, .null, .int 0, .int 0, .int 0, .int 0, .int 0, .null, .null, .int 0, .null, .null, .null, .null, .int 0, .null, .null, .null, .null, .null, .null, .null, .null, .int 0, .null, .int 0, .int 0, .int 0, .int 0, .int 0, .int 0, .int 0] := by rw [hf62, hf61, hf60, hf59, hf58, hf57, hN9]; rfl
  refine lv_aload_n hx hb dX12_init_545 rfl (lv_at hl 0 rfl) ?_
  refine lv_sipush (v := 200) hx hb dX12_init_546 (by decide) ?_
  refine mi_keep (k := 84) (fs := f62) (rest := r60) (tys := t60) (atype := .int) (a0 := (200, .inl (fun _ => 0))) hx hb hts hown hin hK hP hD hS hlen (by decide) (hts _ wd_1484) rfl hA wd_121 rfl (fun _ => rfl) (by decide) (by decide) (by decide) (by omega) (by omega) dX12_init_549 dX12_init_551 rfl (fun _ => rfl) (fun _ => rfl) (fun q60 k60 H locs hK hP hD hS hlen => ?_)
  refine W.widen (k := 61) (n := 309094) (by omega) (by omega) ?_
  obtain ⟨r61, hr61⟩ : ∃ r : va_W, r = r60 ++ [(q60, .inl (k60, (200, .inl (fun _ => 0))))] := ⟨_, rfl⟩
  obtain ⟨t61, ht61⟩ : ∃ t : List (ClassId × FieldType), t = t60 ++ [(k60, .int)] := ⟨_, rfl⟩
  rw [← hr61] at hP hD
  rw [← ht61] at hK
  obtain ⟨f63, hf63⟩ : ∃ f : List Value, f = f62.set 84 (.ref q60) := ⟨_, rfl⟩
  rw [← hf63] at hP hD hlen
  refine lv_aload_n hx hb dX12_init_554 rfl (lv_at hl 0 rfl) ?_
  refine lv_sipush (v := 200) hx hb dX12_init_555 (by decide) ?_
  refine mi_keep (k := 85) (fs := f63) (rest := r61) (tys := t61) (atype := .boolean) (a0 := (200, .inl (fun _ => 0))) hx hb hts hown hin hK hP hD hS hlen (by decide) (hts _ wd_1485) rfl hA wd_1785 rfl (fun _ => rfl) (by decide) (by decide) (by decide) (by omega) (by omega) dX12_init_558 dX12_init_560 rfl (fun _ => rfl) (fun _ => rfl) (fun q61 k61 H locs hK hP hD hS hlen => ?_)
  refine W.widen (k := 62) (n := 309294) (by omega) (by omega) ?_
  obtain ⟨r62, hr62⟩ : ∃ r : va_W, r = r61 ++ [(q61, .inl (k61, (200, .inl (fun _ => 0))))] := ⟨_, rfl⟩
  obtain ⟨t62, ht62⟩ : ∃ t : List (ClassId × FieldType), t = t61 ++ [(k61, .boolean)] := ⟨_, rfl⟩
  rw [← hr62] at hP hD
  rw [← ht62] at hK
  obtain ⟨f64, hf64⟩ : ∃ f : List Value, f = f63.set 85 (.ref q61) := ⟨_, rfl⟩
  rw [← hf64] at hP hD hlen
  refine lv_aload_n hx hb dX12_init_563 rfl (lv_at hl 0 rfl) ?_
  refine lv_sipush (v := 200) hx hb dX12_init_564 (by decide) ?_
  refine mi_keep (k := 86) (fs := f64) (rest := r62) (tys := t62) (atype := .int) (a0 := (200, .inl (fun _ => 0))) hx hb hts hown hin hK hP hD hS hlen (by decide) (hts _ wd_1486) rfl hA wd_121 rfl (fun _ => rfl) (by decide) (by decide) (by decide) (by omega) (by omega) dX12_init_567 dX12_init_569 rfl (fun _ => rfl) (fun _ => rfl) (fun q62 k62 H locs hK hP hD hS hlen => ?_)
  refine W.widen (k := 63) (n := 309494) (by omega) (by omega) ?_
  obtain ⟨r63, hr63⟩ : ∃ r : va_W, r = r62 ++ [(q62, .inl (k62, (200, .inl (fun _ => 0))))] := ⟨_, rfl⟩
  obtain ⟨t63, ht63⟩ : ∃ t : List (ClassId × FieldType), t = t62 ++ [(k62, .int)] := ⟨_, rfl⟩
  rw [← hr63] at hP hD
  rw [← ht63] at hK
  obtain ⟨f65, hf65⟩ : ∃ f : List Value, f = f64.set 86 (.ref q62) := ⟨_, rfl⟩
  rw [← hf65] at hP hD hlen
  refine lv_aload_n hx hb dX12_init_572 rfl (lv_at hl 0 rfl) ?_
  refine lv_sipush (v := 200) hx hb dX12_init_573 (by decide) ?_
  refine mi_keep (k := 87) (fs := f65) (rest := r63) (tys := t63) (atype := .int) (a0 := (200, .inl (fun _ => 0))) hx hb hts hown hin hK hP hD hS hlen (by decide) (hts _ wd_1487) rfl hA wd_121 rfl (fun _ => rfl) (by decide) (by decide) (by decide) (by omega) (by omega) dX12_init_576 dX12_init_578 rfl (fun _ => rfl) (fun _ => rfl) (fun q63 k63 H locs hK hP hD hS hlen => ?_)
  refine W.widen (k := 64) (n := 309694) (by omega) (by omega) ?_
  obtain ⟨r64, hr64⟩ : ∃ r : va_W, r = r63 ++ [(q63, .inl (k63, (200, .inl (fun _ => 0))))] := ⟨_, rfl⟩
  obtain ⟨t64, ht64⟩ : ∃ t : List (ClassId × FieldType), t = t63 ++ [(k63, .int)] := ⟨_, rfl⟩
  rw [← hr64] at hP hD
  rw [← ht64] at hK
  obtain ⟨f66, hf66⟩ : ∃ f : List Value, f = f65.set 87 (.ref q63) := ⟨_, rfl⟩
  rw [← hf66] at hP hD hlen
  refine lv_aload_n hx hb dX12_init_581 rfl (lv_at hl 0 rfl) ?_
  refine lv_sipush (v := 200) hx hb dX12_init_582 (by decide) ?_
  refine mi_keep (k := 88) (fs := f66) (rest := r64) (tys := t64) (atype := .int) (a0 := (200, .inl (fun _ => 0))) hx hb hts hown hin hK hP hD hS hlen (by decide) (hts _ wd_1488) rfl hA wd_121 rfl (fun _ => rfl) (by decide) (by decide) (by decide) (by omega) (by omega) dX12_init_585 dX12_init_587 rfl (fun _ => rfl) (fun _ => rfl) (fun q64 k64 H locs hK hP hD hS hlen => ?_)
  refine W.widen (k := 65) (n := 309894) (by omega) (by omega) ?_
  obtain ⟨r65, hr65⟩ : ∃ r : va_W, r = r64 ++ [(q64, .inl (k64, (200, .inl (fun _ => 0))))] := ⟨_, rfl⟩
  obtain ⟨t65, ht65⟩ : ∃ t : List (ClassId × FieldType), t = t64 ++ [(k64, .int)] := ⟨_, rfl⟩
  rw [← hr65] at hP hD
  rw [← ht65] at hK
  obtain ⟨f67, hf67⟩ : ∃ f : List Value, f = f66.set 88 (.ref q64) := ⟨_, rfl⟩
  rw [← hf67] at hP hD hlen
  refine lv_aload_n hx hb dX12_init_590 rfl (lv_at hl 0 rfl) ?_
  refine lv_sipush (v := 200) hx hb dX12_init_591 (by decide) ?_
  refine mi_keep (k := 89) (fs := f67) (rest := r65) (tys := t65) (atype := .int) (a0 := (200, .inl (fun _ => 0))) hx hb hts hown hin hK hP hD hS hlen (by decide) (hts _ wd_1489) rfl hA wd_121 rfl (fun _ => rfl) (by decide) (by decide) (by decide) (by omega) (by omega) dX12_init_594 dX12_init_596 rfl (fun _ => rfl) (fun _ => rfl) (fun q65 k65 H locs hK hP hD hS hlen => ?_)
  refine W.widen (k := 66) (n := 310094) (by omega) (by omega) ?_
  obtain ⟨r66, hr66⟩ : ∃ r : va_W, r = r65 ++ [(q65, .inl (k65, (200, .inl (fun _ => 0))))] := ⟨_, rfl⟩
  obtain ⟨t66, ht66⟩ : ∃ t : List (ClassId × FieldType), t = t65 ++ [(k65, .int)] := ⟨_, rfl⟩
  rw [← hr66] at hP hD
  rw [← ht66] at hK
  obtain ⟨f68, hf68⟩ : ∃ f : List Value, f = f67.set 89 (.ref q65) := ⟨_, rfl⟩
  rw [← hf68] at hP hD hlen
  have hN11 : f68 = [.int 0, .ref q0, .int 0, .int 0, .ref q1, .ref q2, .ref q3, .int 0, .int 0, .ref a, .ref q4, .int 0, .int 0, .ref q5, .ref q6, .ref q7, .ref q8, .ref q9, .ref q10, .ref q11, .ref q12, .ref q13, .ref q14, .int 0, .ref q15, .ref q16, .ref q17, .ref q18, .ref q19, .ref q20, .ref q21, .int 0, .ref q22, .ref q23, .ref q24, .int 0, .ref q25, .ref q26, .ref q27, .ref q28, .ref q29, .ref q30, .ref q31, .ref q32, .ref q33, .ref q34, .ref q35, .ref q36, .ref q37, .ref q38, .ref q39, .int 0, .ref q40, .ref q41, .ref q42, .ref q43, .ref q44, .ref q45, .ref q46, .ref q47, .ref q48, .int 0, .int 0, .int 0, .int 0, .int 0, .int 0, .int 0, .int 0, .int 0, .int 1, .ref q49, .ref q50, .int 0, .int 0, .ref q51, .ref q52, .ref q53, .ref q54, .ref q55, .ref q56, .ref q57, .ref q58, .ref q59, .ref q60, .ref q61, .ref q62, .ref q63, .ref q64, .ref q65, .null, .null, .null, .null, .null, .null, .null, .null, .int 0, .int 0, .int 0, .int 0, .int 0, .null, .null, .int 0, .null, .null, .null, .null, .int 0, .null, .null, .null, .null, .null, .null, .null, .null, .int 0, .null, .int 0, .int 0, .int 0, .int 0, .int 0, .int 0, .int 0] := by rw [hf68, hf67, hf66, hf65, hf64, hf63, hN10]; rfl
  refine lv_aload_n hx hb dX12_init_599 rfl (lv_at hl 0 rfl) ?_
  refine lv_sipush (v := 200) hx hb dX12_init_600 (by decide) ?_
  refine mi_keep (k := 90) (fs := f68) (rest := r66) (tys := t66) (atype := .int) (a0 := (200, .inl (fun _ => 0))) hx hb hts hown hin hK hP hD hS hlen (by decide) (hts _ wd_1490) rfl hA wd_121 rfl (fun _ => rfl) (by decide) (by decide) (by decide) (by omega) (by omega) dX12_init_603 dX12_init_605 rfl (fun _ => rfl) (fun _ => rfl) (fun q66 k66 H locs hK hP hD hS hlen => ?_)
  refine W.widen (k := 67) (n := 310294) (by omega) (by omega) ?_
  obtain ⟨r67, hr67⟩ : ∃ r : va_W, r = r66 ++ [(q66, .inl (k66, (200, .inl (fun _ => 0))))] := ⟨_, rfl⟩
  obtain ⟨t67, ht67⟩ : ∃ t : List (ClassId × FieldType), t = t66 ++ [(k66, .int)] := ⟨_, rfl⟩
  rw [← hr67] at hP hD
  rw [← ht67] at hK
  obtain ⟨f69, hf69⟩ : ∃ f : List Value, f = f68.set 90 (.ref q66) := ⟨_, rfl⟩
  rw [← hf69] at hP hD hlen
  refine lv_aload_n hx hb dX12_init_608 rfl (lv_at hl 0 rfl) ?_
  refine lv_sipush (v := 200) hx hb dX12_init_609 (by decide) ?_
  refine mi_keep (k := 91) (fs := f69) (rest := r67) (tys := t67) (atype := .int) (a0 := (200, .inl (fun _ => 0))) hx hb hts hown hin hK hP hD hS hlen (by decide) (hts _ wd_1491) rfl hA wd_121 rfl (fun _ => rfl) (by decide) (by decide) (by decide) (by omega) (by omega) dX12_init_612 dX12_init_614 rfl (fun _ => rfl) (fun _ => rfl) (fun q67 k67 H locs hK hP hD hS hlen => ?_)
  refine W.widen (k := 68) (n := 310494) (by omega) (by omega) ?_
  obtain ⟨r68, hr68⟩ : ∃ r : va_W, r = r67 ++ [(q67, .inl (k67, (200, .inl (fun _ => 0))))] := ⟨_, rfl⟩
  obtain ⟨t68, ht68⟩ : ∃ t : List (ClassId × FieldType), t = t67 ++ [(k67, .int)] := ⟨_, rfl⟩
  rw [← hr68] at hP hD
  rw [← ht68] at hK
  obtain ⟨f70, hf70⟩ : ∃ f : List Value, f = f69.set 91 (.ref q67) := ⟨_, rfl⟩
  rw [← hf70] at hP hD hlen
  refine lv_aload_n hx hb dX12_init_617 rfl (lv_at hl 0 rfl) ?_
  refine lv_sipush (v := 200) hx hb dX12_init_618 (by decide) ?_
  refine mi_keep (k := 92) (fs := f70) (rest := r68) (tys := t68) (atype := .int) (a0 := (200, .inl (fun _ => 0))) hx hb hts hown hin hK hP hD hS hlen (by decide) (hts _ wd_1492) rfl hA wd_121 rfl (fun _ => rfl) (by decide) (by decide) (by decide) (by omega) (by omega) dX12_init_621 dX12_init_623 rfl (fun _ => rfl) (fun _ => rfl) (fun q68 k68 H locs hK hP hD hS hlen => ?_)
  refine W.widen (k := 69) (n := 310694) (by omega) (by omega) ?_
  obtain ⟨r69, hr69⟩ : ∃ r : va_W, r = r68 ++ [(q68, .inl (k68, (200, .inl (fun _ => 0))))] := ⟨_, rfl⟩
  obtain ⟨t69, ht69⟩ : ∃ t : List (ClassId × FieldType), t = t68 ++ [(k68, .int)] := ⟨_, rfl⟩
  rw [← hr69] at hP hD
  rw [← ht69] at hK
  obtain ⟨f71, hf71⟩ : ∃ f : List Value, f = f70.set 92 (.ref q68) := ⟨_, rfl⟩
  rw [← hf71] at hP hD hlen
  refine lv_aload_n hx hb dX12_init_626 rfl (lv_at hl 0 rfl) ?_
  refine lv_sipush (v := 2200) hx hb dX12_init_627 (by decide) ?_
  refine mi_keep (k := 93) (fs := f71) (rest := r69) (tys := t69) (atype := .int) (a0 := (2200, .inl (fun _ => 0))) hx hb hts hown hin hK hP hD hS hlen (by decide) (hts _ wd_1493) rfl hA wd_121 rfl (fun _ => rfl) (by decide) (by decide) (by decide) (by omega) (by omega) dX12_init_630 dX12_init_632 rfl (fun _ => rfl) (fun _ => rfl) (fun q69 k69 H locs hK hP hD hS hlen => ?_)
  refine W.widen (k := 70) (n := 312894) (by omega) (by omega) ?_
  obtain ⟨r70, hr70⟩ : ∃ r : va_W, r = r69 ++ [(q69, .inl (k69, (2200, .inl (fun _ => 0))))] := ⟨_, rfl⟩
  obtain ⟨t70, ht70⟩ : ∃ t : List (ClassId × FieldType), t = t69 ++ [(k69, .int)] := ⟨_, rfl⟩
  rw [← hr70] at hP hD
  rw [← ht70] at hK
  obtain ⟨f72, hf72⟩ : ∃ f : List Value, f = f71.set 93 (.ref q69) := ⟨_, rfl⟩
  rw [← hf72] at hP hD hlen
  refine lv_aload_n hx hb dX12_init_635 rfl (lv_at hl 0 rfl) ?_
  refine lv_sipush (v := 2200) hx hb dX12_init_636 (by decide) ?_
  refine mi_keep (k := 94) (fs := f72) (rest := r70) (tys := t70) (atype := .int) (a0 := (2200, .inl (fun _ => 0))) hx hb hts hown hin hK hP hD hS hlen (by decide) (hts _ wd_1494) rfl hA wd_121 rfl (fun _ => rfl) (by decide) (by decide) (by decide) (by omega) (by omega) dX12_init_639 dX12_init_641 rfl (fun _ => rfl) (fun _ => rfl) (fun q70 k70 H locs hK hP hD hS hlen => ?_)
  refine W.widen (k := 71) (n := 315094) (by omega) (by omega) ?_
  obtain ⟨r71, hr71⟩ : ∃ r : va_W, r = r70 ++ [(q70, .inl (k70, (2200, .inl (fun _ => 0))))] := ⟨_, rfl⟩
  obtain ⟨t71, ht71⟩ : ∃ t : List (ClassId × FieldType), t = t70 ++ [(k70, .int)] := ⟨_, rfl⟩
  rw [← hr71] at hP hD
  rw [← ht71] at hK
  obtain ⟨f73, hf73⟩ : ∃ f : List Value, f = f72.set 94 (.ref q70) := ⟨_, rfl⟩
  rw [← hf73] at hP hD hlen
  refine lv_aload_n hx hb dX12_init_644 rfl (lv_at hl 0 rfl) ?_
  refine lv_sipush (v := 2200) hx hb dX12_init_645 (by decide) ?_
  refine mi_keep (k := 95) (fs := f73) (rest := r71) (tys := t71) (atype := .int) (a0 := (2200, .inl (fun _ => 0))) hx hb hts hown hin hK hP hD hS hlen (by decide) (hts _ wd_1495) rfl hA wd_121 rfl (fun _ => rfl) (by decide) (by decide) (by decide) (by omega) (by omega) dX12_init_648 dX12_init_650 rfl (fun _ => rfl) (fun _ => rfl) (fun q71 k71 H locs hK hP hD hS hlen => ?_)
  refine W.widen (k := 72) (n := 317294) (by omega) (by omega) ?_
  obtain ⟨r72, hr72⟩ : ∃ r : va_W, r = r71 ++ [(q71, .inl (k71, (2200, .inl (fun _ => 0))))] := ⟨_, rfl⟩
  obtain ⟨t72, ht72⟩ : ∃ t : List (ClassId × FieldType), t = t71 ++ [(k71, .int)] := ⟨_, rfl⟩
  rw [← hr72] at hP hD
  rw [← ht72] at hK
  obtain ⟨f74, hf74⟩ : ∃ f : List Value, f = f73.set 95 (.ref q71) := ⟨_, rfl⟩
  rw [← hf74] at hP hD hlen
  have hN12 : f74 = [.int 0, .ref q0, .int 0, .int 0, .ref q1, .ref q2, .ref q3, .int 0, .int 0, .ref a, .ref q4, .int 0, .int 0, .ref q5, .ref q6, .ref q7, .ref q8, .ref q9, .ref q10, .ref q11, .ref q12, .ref q13, .ref q14, .int 0, .ref q15, .ref q16, .ref q17, .ref q18, .ref q19, .ref q20, .ref q21, .int 0, .ref q22, .ref q23, .ref q24, .int 0, .ref q25, .ref q26, .ref q27, .ref q28, .ref q29, .ref q30, .ref q31, .ref q32, .ref q33, .ref q34, .ref q35, .ref q36, .ref q37, .ref q38, .ref q39, .int 0, .ref q40, .ref q41, .ref q42, .ref q43, .ref q44, .ref q45, .ref q46, .ref q47, .ref q48, .int 0, .int 0, .int 0, .int 0, .int 0, .int 0, .int 0, .int 0, .int 0, .int 1, .ref q49, .ref q50, .int 0, .int 0, .ref q51, .ref q52, .ref q53, .ref q54, .ref q55, .ref q56, .ref q57, .ref q58, .ref q59, .ref q60, .ref q61, .ref q62, .ref q63, .ref q64, .ref q65, .ref q66, .ref q67, .ref q68, .ref q69, .ref q70, .ref q71, .null, .null, .int 0, .int 0, .int 0, .int 0, .int 0, .null, .null, .int 0, .null, .null, .null, .null, .int 0, .null, .null, .null, .null, .null, .null, .null, .null, .int 0, .null, .int 0, .int 0, .int 0, .int 0, .int 0, .int 0, .int 0] := by rw [hf74, hf73, hf72, hf71, hf70, hf69, hN11]; rfl
  refine lv_aload_n hx hb dX12_init_653 rfl (lv_at hl 0 rfl) ?_
  refine lv_sipush (v := 2200) hx hb dX12_init_654 (by decide) ?_
  refine mi_keep (k := 96) (fs := f74) (rest := r72) (tys := t72) (atype := .int) (a0 := (2200, .inl (fun _ => 0))) hx hb hts hown hin hK hP hD hS hlen (by decide) (hts _ wd_1496) rfl hA wd_121 rfl (fun _ => rfl) (by decide) (by decide) (by decide) (by omega) (by omega) dX12_init_657 dX12_init_659 rfl (fun _ => rfl) (fun _ => rfl) (fun q72 k72 H locs hK hP hD hS hlen => ?_)
  refine W.widen (k := 73) (n := 319494) (by omega) (by omega) ?_
  obtain ⟨r73, hr73⟩ : ∃ r : va_W, r = r72 ++ [(q72, .inl (k72, (2200, .inl (fun _ => 0))))] := ⟨_, rfl⟩
  obtain ⟨t73, ht73⟩ : ∃ t : List (ClassId × FieldType), t = t72 ++ [(k72, .int)] := ⟨_, rfl⟩
  rw [← hr73] at hP hD
  rw [← ht73] at hK
  obtain ⟨f75, hf75⟩ : ∃ f : List Value, f = f74.set 96 (.ref q72) := ⟨_, rfl⟩
  rw [← hf75] at hP hD hlen
  refine lv_aload_n hx hb dX12_init_662 rfl (lv_at hl 0 rfl) ?_
  refine lv_sipush (v := 200) hx hb dX12_init_663 (by decide) ?_
  refine mi_keep (k := 97) (fs := f75) (rest := r73) (tys := t73) (atype := .int) (a0 := (200, .inl (fun _ => 0))) hx hb hts hown hin hK hP hD hS hlen (by decide) (hts _ wd_1497) rfl hA wd_121 rfl (fun _ => rfl) (by decide) (by decide) (by decide) (by omega) (by omega) dX12_init_666 dX12_init_668 rfl (fun _ => rfl) (fun _ => rfl) (fun q73 k73 H locs hK hP hD hS hlen => ?_)
  refine W.widen (k := 74) (n := 319694) (by omega) (by omega) ?_
  obtain ⟨r74, hr74⟩ : ∃ r : va_W, r = r73 ++ [(q73, .inl (k73, (200, .inl (fun _ => 0))))] := ⟨_, rfl⟩
  obtain ⟨t74, ht74⟩ : ∃ t : List (ClassId × FieldType), t = t73 ++ [(k73, .int)] := ⟨_, rfl⟩
  rw [← hr74] at hP hD
  rw [← ht74] at hK
  obtain ⟨f76, hf76⟩ : ∃ f : List Value, f = f75.set 97 (.ref q73) := ⟨_, rfl⟩
  rw [← hf76] at hP hD hlen
  refine lv_aload_n hx hb dX12_init_671 rfl (lv_at hl 0 rfl) ?_
  refine lv_sipush (v := 300) hx hb dX12_init_672 (by decide) ?_
  refine mi_keep (k := 103) (fs := f76) (rest := r74) (tys := t74) (atype := .int) (a0 := (300, .inl (fun _ => 0))) hx hb hts hown hin hK hP hD hS hlen (by decide) (hts _ wd_1503) rfl hA wd_121 rfl (fun _ => rfl) (by decide) (by decide) (by decide) (by omega) (by omega) dX12_init_675 dX12_init_677 rfl (fun _ => rfl) (fun _ => rfl) (fun q74 k74 H locs hK hP hD hS hlen => ?_)
  refine W.widen (k := 75) (n := 319994) (by omega) (by omega) ?_
  obtain ⟨r75, hr75⟩ : ∃ r : va_W, r = r74 ++ [(q74, .inl (k74, (300, .inl (fun _ => 0))))] := ⟨_, rfl⟩
  obtain ⟨t75, ht75⟩ : ∃ t : List (ClassId × FieldType), t = t74 ++ [(k74, .int)] := ⟨_, rfl⟩
  rw [← hr75] at hP hD
  rw [← ht75] at hK
  obtain ⟨f77, hf77⟩ : ∃ f : List Value, f = f76.set 103 (.ref q74) := ⟨_, rfl⟩
  rw [← hf77] at hP hD hlen
  refine lv_aload_n hx hb dX12_init_680 rfl (lv_at hl 0 rfl) ?_
  refine lv_sipush (v := 300) hx hb dX12_init_681 (by decide) ?_
  refine mi_keep (k := 104) (fs := f77) (rest := r75) (tys := t75) (atype := .int) (a0 := (300, .inl (fun _ => 0))) hx hb hts hown hin hK hP hD hS hlen (by decide) (hts _ wd_1504) rfl hA wd_121 rfl (fun _ => rfl) (by decide) (by decide) (by decide) (by omega) (by omega) dX12_init_684 dX12_init_686 rfl (fun _ => rfl) (fun _ => rfl) (fun q75 k75 H locs hK hP hD hS hlen => ?_)
  refine W.widen (k := 76) (n := 320294) (by omega) (by omega) ?_
  obtain ⟨r76, hr76⟩ : ∃ r : va_W, r = r75 ++ [(q75, .inl (k75, (300, .inl (fun _ => 0))))] := ⟨_, rfl⟩
  obtain ⟨t76, ht76⟩ : ∃ t : List (ClassId × FieldType), t = t75 ++ [(k75, .int)] := ⟨_, rfl⟩
  rw [← hr76] at hP hD
  rw [← ht76] at hK
  obtain ⟨f78, hf78⟩ : ∃ f : List Value, f = f77.set 104 (.ref q75) := ⟨_, rfl⟩
  rw [← hf78] at hP hD hlen
  refine lv_aload_n hx hb dX12_init_689 rfl (lv_at hl 0 rfl) ?_
  refine lv_sipush (v := 300) hx hb dX12_init_690 (by decide) ?_
  refine mi_keep (k := 106) (fs := f78) (rest := r76) (tys := t76) (atype := .int) (a0 := (300, .inl (fun _ => 0))) hx hb hts hown hin hK hP hD hS hlen (by decide) (hts _ wd_1506) rfl hA wd_121 rfl (fun _ => rfl) (by decide) (by decide) (by decide) (by omega) (by omega) dX12_init_693 dX12_init_695 rfl (fun _ => rfl) (fun _ => rfl) (fun q76 k76 H locs hK hP hD hS hlen => ?_)
  refine W.widen (k := 77) (n := 320594) (by omega) (by omega) ?_
  obtain ⟨r77, hr77⟩ : ∃ r : va_W, r = r76 ++ [(q76, .inl (k76, (300, .inl (fun _ => 0))))] := ⟨_, rfl⟩
  obtain ⟨t77, ht77⟩ : ∃ t : List (ClassId × FieldType), t = t76 ++ [(k76, .int)] := ⟨_, rfl⟩
  rw [← hr77] at hP hD
  rw [← ht77] at hK
  obtain ⟨f79, hf79⟩ : ∃ f : List Value, f = f78.set 106 (.ref q76) := ⟨_, rfl⟩
  rw [← hf79] at hP hD hlen
  refine lv_aload_n hx hb dX12_init_698 rfl (lv_at hl 0 rfl) ?_
  refine lv_sipush (v := 300) hx hb dX12_init_699 (by decide) ?_
  refine mi_keep (k := 107) (fs := f79) (rest := r77) (tys := t77) (atype := .int) (a0 := (300, .inl (fun _ => 0))) hx hb hts hown hin hK hP hD hS hlen (by decide) (hts _ wd_1507) rfl hA wd_121 rfl (fun _ => rfl) (by decide) (by decide) (by decide) (by omega) (by omega) dX12_init_702 dX12_init_704 rfl (fun _ => rfl) (fun _ => rfl) (fun q77 k77 H locs hK hP hD hS hlen => ?_)
  refine W.widen (k := 78) (n := 320894) (by omega) (by omega) ?_
  obtain ⟨r78, hr78⟩ : ∃ r : va_W, r = r77 ++ [(q77, .inl (k77, (300, .inl (fun _ => 0))))] := ⟨_, rfl⟩
  obtain ⟨t78, ht78⟩ : ∃ t : List (ClassId × FieldType), t = t77 ++ [(k77, .int)] := ⟨_, rfl⟩
  rw [← hr78] at hP hD
  rw [← ht78] at hK
  obtain ⟨f80, hf80⟩ : ∃ f : List Value, f = f79.set 107 (.ref q77) := ⟨_, rfl⟩
  rw [← hf80] at hP hD hlen
  have hN13 : f80 = [.int 0, .ref q0, .int 0, .int 0, .ref q1, .ref q2, .ref q3, .int 0, .int 0, .ref a, .ref q4, .int 0, .int 0, .ref q5, .ref q6, .ref q7, .ref q8, .ref q9, .ref q10, .ref q11, .ref q12, .ref q13, .ref q14, .int 0, .ref q15, .ref q16, .ref q17, .ref q18, .ref q19, .ref q20, .ref q21, .int 0, .ref q22, .ref q23, .ref q24, .int 0, .ref q25, .ref q26, .ref q27, .ref q28, .ref q29, .ref q30, .ref q31, .ref q32, .ref q33, .ref q34, .ref q35, .ref q36, .ref q37, .ref q38, .ref q39, .int 0, .ref q40, .ref q41, .ref q42, .ref q43, .ref q44, .ref q45, .ref q46, .ref q47, .ref q48, .int 0, .int 0, .int 0, .int 0, .int 0, .int 0, .int 0, .int 0, .int 0, .int 1, .ref q49, .ref q50, .int 0, .int 0, .ref q51, .ref q52, .ref q53, .ref q54, .ref q55, .ref q56, .ref q57, .ref q58, .ref q59, .ref q60, .ref q61, .ref q62, .ref q63, .ref q64, .ref q65, .ref q66, .ref q67, .ref q68, .ref q69, .ref q70, .ref q71, .ref q72, .ref q73, .int 0, .int 0, .int 0, .int 0, .int 0, .ref q74, .ref q75, .int 0, .ref q76, .ref q77, .null, .null, .int 0, .null, .null, .null, .null, .null, .null, .null, .null, .int 0, .null, .int 0, .int 0, .int 0, .int 0, .int 0, .int 0, .int 0] := by rw [hf80, hf79, hf78, hf77, hf76, hf75, hN12]; rfl
  refine lv_aload_n hx hb dX12_init_707 rfl (lv_at hl 0 rfl) ?_
  refine lv_bipush (v := 8) hx hb dX12_init_708 (by decide) ?_
  refine mi_keep (k := 108) (fs := f80) (rest := r78) (tys := t78) (atype := .int) (a0 := (8, .inl (fun _ => 0))) hx hb hts hown hin hK hP hD hS hlen (by decide) (hts _ wd_1508) rfl hA wd_121 rfl (fun _ => rfl) (by decide) (by decide) (by decide) (by omega) (by omega) dX12_init_710 dX12_init_712 rfl (fun _ => rfl) (fun _ => rfl) (fun q78 k78 H locs hK hP hD hS hlen => ?_)
  refine W.widen (k := 79) (n := 320902) (by omega) (by omega) ?_
  obtain ⟨r79, hr79⟩ : ∃ r : va_W, r = r78 ++ [(q78, .inl (k78, (8, .inl (fun _ => 0))))] := ⟨_, rfl⟩
  obtain ⟨t79, ht79⟩ : ∃ t : List (ClassId × FieldType), t = t78 ++ [(k78, .int)] := ⟨_, rfl⟩
  rw [← hr79] at hP hD
  rw [← ht79] at hK
  obtain ⟨f81, hf81⟩ : ∃ f : List Value, f = f80.set 108 (.ref q78) := ⟨_, rfl⟩
  rw [← hf81] at hP hD hlen
  refine lv_aload_n hx hb dX12_init_715 rfl (lv_at hl 0 rfl) ?_
  refine lv_sipush (v := 400) hx hb dX12_init_716 (by decide) ?_
  refine mi_keep (k := 109) (fs := f81) (rest := r79) (tys := t79) (atype := .int) (a0 := (400, .inl (fun _ => 0))) hx hb hts hown hin hK hP hD hS hlen (by decide) (hts _ wd_1509) rfl hA wd_121 rfl (fun _ => rfl) (by decide) (by decide) (by decide) (by omega) (by omega) dX12_init_719 dX12_init_721 rfl (fun _ => rfl) (fun _ => rfl) (fun q79 k79 H locs hK hP hD hS hlen => ?_)
  refine W.widen (k := 80) (n := 321302) (by omega) (by omega) ?_
  obtain ⟨r80, hr80⟩ : ∃ r : va_W, r = r79 ++ [(q79, .inl (k79, (400, .inl (fun _ => 0))))] := ⟨_, rfl⟩
  obtain ⟨t80, ht80⟩ : ∃ t : List (ClassId × FieldType), t = t79 ++ [(k79, .int)] := ⟨_, rfl⟩
  rw [← hr80] at hP hD
  rw [← ht80] at hK
  obtain ⟨f82, hf82⟩ : ∃ f : List Value, f = f81.set 109 (.ref q79) := ⟨_, rfl⟩
  rw [← hf82] at hP hD hlen
  refine lv_aload_n hx hb dX12_init_724 rfl (lv_at hl 0 rfl) ?_
  refine lv_ldcw (v := 100300) hx hb hown (hts _ wd_1390) dX12_init_725 ?_
  refine mi_keep (k := 111) (fs := f82) (rest := r80) (tys := t80) (atype := .int) (a0 := (100300, .inl (fun _ => 0))) hx hb hts hown hin hK hP hD hS hlen (by decide) (hts _ wd_1511) rfl hA wd_121 rfl (fun _ => rfl) (by decide) (by decide) (by decide) (by omega) (by omega) dX12_init_728 dX12_init_730 rfl (fun _ => rfl) (fun _ => rfl) (fun q80 k80 H locs hK hP hD hS hlen => ?_)
  refine W.widen (k := 81) (n := 421602) (by omega) (by omega) ?_
  obtain ⟨r81, hr81⟩ : ∃ r : va_W, r = r80 ++ [(q80, .inl (k80, (100300, .inl (fun _ => 0))))] := ⟨_, rfl⟩
  obtain ⟨t81, ht81⟩ : ∃ t : List (ClassId × FieldType), t = t80 ++ [(k80, .int)] := ⟨_, rfl⟩
  rw [← hr81] at hP hD
  rw [← ht81] at hK
  obtain ⟨f83, hf83⟩ : ∃ f : List Value, f = f82.set 111 (.ref q80) := ⟨_, rfl⟩
  rw [← hf83] at hP hD hlen
  refine lv_aload_n hx hb dX12_init_733 rfl (lv_at hl 0 rfl) ?_
  refine lv_ldcw (v := 100300) hx hb hown (hts _ wd_1390) dX12_init_734 ?_
  refine mi_keep (k := 112) (fs := f83) (rest := r81) (tys := t81) (atype := .int) (a0 := (100300, .inl (fun _ => 0))) hx hb hts hown hin hK hP hD hS hlen (by decide) (hts _ wd_1512) rfl hA wd_121 rfl (fun _ => rfl) (by decide) (by decide) (by decide) (by omega) (by omega) dX12_init_737 dX12_init_739 rfl (fun _ => rfl) (fun _ => rfl) (fun q81 k81 H locs hK hP hD hS hlen => ?_)
  refine W.widen (k := 82) (n := 521902) (by omega) (by omega) ?_
  obtain ⟨r82, hr82⟩ : ∃ r : va_W, r = r81 ++ [(q81, .inl (k81, (100300, .inl (fun _ => 0))))] := ⟨_, rfl⟩
  obtain ⟨t82, ht82⟩ : ∃ t : List (ClassId × FieldType), t = t81 ++ [(k81, .int)] := ⟨_, rfl⟩
  rw [← hr82] at hP hD
  rw [← ht82] at hK
  obtain ⟨f84, hf84⟩ : ∃ f : List Value, f = f83.set 112 (.ref q81) := ⟨_, rfl⟩
  rw [← hf84] at hP hD hlen
  refine lv_aload_n hx hb dX12_init_742 rfl (lv_at hl 0 rfl) ?_
  refine lv_ldcw (v := 100300) hx hb hown (hts _ wd_1390) dX12_init_743 ?_
  refine mi_keep (k := 113) (fs := f84) (rest := r82) (tys := t82) (atype := .int) (a0 := (100300, .inl (fun _ => 0))) hx hb hts hown hin hK hP hD hS hlen (by decide) (hts _ wd_1513) rfl hA wd_121 rfl (fun _ => rfl) (by decide) (by decide) (by decide) (by omega) (by omega) dX12_init_746 dX12_init_748 rfl (fun _ => rfl) (fun _ => rfl) (fun q82 k82 H locs hK hP hD hS hlen => ?_)
  refine W.widen (k := 83) (n := 622202) (by omega) (by omega) ?_
  obtain ⟨r83, hr83⟩ : ∃ r : va_W, r = r82 ++ [(q82, .inl (k82, (100300, .inl (fun _ => 0))))] := ⟨_, rfl⟩
  obtain ⟨t83, ht83⟩ : ∃ t : List (ClassId × FieldType), t = t82 ++ [(k82, .int)] := ⟨_, rfl⟩
  rw [← hr83] at hP hD
  rw [← ht83] at hK
  obtain ⟨f85, hf85⟩ : ∃ f : List Value, f = f84.set 113 (.ref q82) := ⟨_, rfl⟩
  rw [← hf85] at hP hD hlen
  refine lv_aload_n hx hb dX12_init_751 rfl (lv_at hl 0 rfl) ?_
  refine lv_ldcw (v := 100300) hx hb hown (hts _ wd_1390) dX12_init_752 ?_
  refine mi_keep (k := 114) (fs := f85) (rest := r83) (tys := t83) (atype := .int) (a0 := (100300, .inl (fun _ => 0))) hx hb hts hown hin hK hP hD hS hlen (by decide) (hts _ wd_1514) rfl hA wd_121 rfl (fun _ => rfl) (by decide) (by decide) (by decide) (by omega) (by omega) dX12_init_755 dX12_init_757 rfl (fun _ => rfl) (fun _ => rfl) (fun q83 k83 H locs hK hP hD hS hlen => ?_)
  refine W.widen (k := 84) (n := 722502) (by omega) (by omega) ?_
  obtain ⟨r84, hr84⟩ : ∃ r : va_W, r = r83 ++ [(q83, .inl (k83, (100300, .inl (fun _ => 0))))] := ⟨_, rfl⟩
  obtain ⟨t84, ht84⟩ : ∃ t : List (ClassId × FieldType), t = t83 ++ [(k83, .int)] := ⟨_, rfl⟩
  rw [← hr84] at hP hD
  rw [← ht84] at hK
  obtain ⟨f86, hf86⟩ : ∃ f : List Value, f = f85.set 114 (.ref q83) := ⟨_, rfl⟩
  rw [← hf86] at hP hD hlen
  have hN14 : f86 = [.int 0, .ref q0, .int 0, .int 0, .ref q1, .ref q2, .ref q3, .int 0, .int 0, .ref a, .ref q4, .int 0, .int 0, .ref q5, .ref q6, .ref q7, .ref q8, .ref q9, .ref q10, .ref q11, .ref q12, .ref q13, .ref q14, .int 0, .ref q15, .ref q16, .ref q17, .ref q18, .ref q19, .ref q20, .ref q21, .int 0, .ref q22, .ref q23, .ref q24, .int 0, .ref q25, .ref q26, .ref q27, .ref q28, .ref q29, .ref q30, .ref q31, .ref q32, .ref q33, .ref q34, .ref q35, .ref q36, .ref q37, .ref q38, .ref q39, .int 0, .ref q40, .ref q41, .ref q42, .ref q43, .ref q44, .ref q45, .ref q46, .ref q47, .ref q48, .int 0, .int 0, .int 0, .int 0, .int 0, .int 0, .int 0, .int 0, .int 0, .int 1, .ref q49, .ref q50, .int 0, .int 0, .ref q51, .ref q52, .ref q53, .ref q54, .ref q55, .ref q56, .ref q57, .ref q58, .ref q59, .ref q60, .ref q61, .ref q62, .ref q63, .ref q64, .ref q65, .ref q66, .ref q67, .ref q68, .ref q69, .ref q70, .ref q71, .ref q72, .ref q73, .int 0, .int 0, .int 0, .int 0, .int 0, .ref q74, .ref q75, .int 0, .ref q76, .ref q77, .ref q78, .ref q79, .int 0, .ref q80, .ref q81, .ref q82, .ref q83, .null, .null, .null, .null, .int 0, .null, .int 0, .int 0, .int 0, .int 0, .int 0, .int 0, .int 0] := by rw [hf86, hf85, hf84, hf83, hf82, hf81, hN13]; rfl
  refine lv_aload_n hx hb dX12_init_760 rfl (lv_at hl 0 rfl) ?_
  refine lv_ldcw (v := 100300) hx hb hown (hts _ wd_1390) dX12_init_761 ?_
  refine mi_keep (k := 115) (fs := f86) (rest := r84) (tys := t84) (atype := .int) (a0 := (100300, .inl (fun _ => 0))) hx hb hts hown hin hK hP hD hS hlen (by decide) (hts _ wd_1515) rfl hA wd_121 rfl (fun _ => rfl) (by decide) (by decide) (by decide) (by omega) (by omega) dX12_init_764 dX12_init_766 rfl (fun _ => rfl) (fun _ => rfl) (fun q84 k84 H locs hK hP hD hS hlen => ?_)
  refine W.widen (k := 85) (n := 822802) (by omega) (by omega) ?_
  obtain ⟨r85, hr85⟩ : ∃ r : va_W, r = r84 ++ [(q84, .inl (k84, (100300, .inl (fun _ => 0))))] := ⟨_, rfl⟩
  obtain ⟨t85, ht85⟩ : ∃ t : List (ClassId × FieldType), t = t84 ++ [(k84, .int)] := ⟨_, rfl⟩
  rw [← hr85] at hP hD
  rw [← ht85] at hK
  obtain ⟨f87, hf87⟩ : ∃ f : List Value, f = f86.set 115 (.ref q84) := ⟨_, rfl⟩
  rw [← hf87] at hP hD hlen
  refine lv_aload_n hx hb dX12_init_769 rfl (lv_at hl 0 rfl) ?_
  refine lv_ldcw (v := 100300) hx hb hown (hts _ wd_1390) dX12_init_770 ?_
  refine mi_keep (k := 116) (fs := f87) (rest := r85) (tys := t85) (atype := .int) (a0 := (100300, .inl (fun _ => 0))) hx hb hts hown hin hK hP hD hS hlen (by decide) (hts _ wd_1516) rfl hA wd_121 rfl (fun _ => rfl) (by decide) (by decide) (by decide) (by omega) (by omega) dX12_init_773 dX12_init_775 rfl (fun _ => rfl) (fun _ => rfl) (fun q85 k85 H locs hK hP hD hS hlen => ?_)
  refine W.widen (k := 86) (n := 923102) (by omega) (by omega) ?_
  obtain ⟨r86, hr86⟩ : ∃ r : va_W, r = r85 ++ [(q85, .inl (k85, (100300, .inl (fun _ => 0))))] := ⟨_, rfl⟩
  obtain ⟨t86, ht86⟩ : ∃ t : List (ClassId × FieldType), t = t85 ++ [(k85, .int)] := ⟨_, rfl⟩
  rw [← hr86] at hP hD
  rw [← ht86] at hK
  obtain ⟨f88, hf88⟩ : ∃ f : List Value, f = f87.set 116 (.ref q85) := ⟨_, rfl⟩
  rw [← hf88] at hP hD hlen
  refine lv_aload_n hx hb dX12_init_778 rfl (lv_at hl 0 rfl) ?_
  refine lv_ldcw (v := 100300) hx hb hown (hts _ wd_1390) dX12_init_779 ?_
  refine mi_keep (k := 117) (fs := f88) (rest := r86) (tys := t86) (atype := .long) (a0 := (100300, .inr (.inl (fun _ => 0)))) hx hb hts hown hin hK hP hD hS hlen (by decide) (hts _ wd_1517) rfl hA wd_122 rfl (fun _ => rfl) (by decide) (by decide) (by decide) (by omega) (by omega) dX12_init_782 dX12_init_784 rfl (fun _ => rfl) (fun _ => rfl) (fun q86 k86 H locs hK hP hD hS hlen => ?_)
  refine W.widen (k := 87) (n := 1023402) (by omega) (by omega) ?_
  obtain ⟨r87, hr87⟩ : ∃ r : va_W, r = r86 ++ [(q86, .inl (k86, (100300, .inr (.inl (fun _ => 0)))))] := ⟨_, rfl⟩
  obtain ⟨t87, ht87⟩ : ∃ t : List (ClassId × FieldType), t = t86 ++ [(k86, .long)] := ⟨_, rfl⟩
  rw [← hr87] at hP hD
  rw [← ht87] at hK
  obtain ⟨f89, hf89⟩ : ∃ f : List Value, f = f88.set 117 (.ref q86) := ⟨_, rfl⟩
  rw [← hf89] at hP hD hlen
  refine lv_aload_n hx hb dX12_init_787 rfl (lv_at hl 0 rfl) ?_
  refine lv_ldcw (v := 100300) hx hb hown (hts _ wd_1390) dX12_init_788 ?_
  refine mi_keep (k := 118) (fs := f89) (rest := r87) (tys := t87) (atype := .int) (a0 := (100300, .inl (fun _ => 0))) hx hb hts hown hin hK hP hD hS hlen (by decide) (hts _ wd_1518) rfl hA wd_121 rfl (fun _ => rfl) (by decide) (by decide) (by decide) (by omega) (by omega) dX12_init_791 dX12_init_793 rfl (fun _ => rfl) (fun _ => rfl) (fun q87 k87 H locs hK hP hD hS hlen => ?_)
  refine W.widen (k := 88) (n := 1123702) (by omega) (by omega) ?_
  obtain ⟨r88, hr88⟩ : ∃ r : va_W, r = r87 ++ [(q87, .inl (k87, (100300, .inl (fun _ => 0))))] := ⟨_, rfl⟩
  obtain ⟨t88, ht88⟩ : ∃ t : List (ClassId × FieldType), t = t87 ++ [(k87, .int)] := ⟨_, rfl⟩
  rw [← hr88] at hP hD
  rw [← ht88] at hK
  obtain ⟨f90, hf90⟩ : ∃ f : List Value, f = f89.set 118 (.ref q87) := ⟨_, rfl⟩
  rw [← hf90] at hP hD hlen
  refine lv_aload_n hx hb dX12_init_796 rfl (lv_at hl 0 rfl) ?_
  refine lv_sipush (v := 4000) hx hb dX12_init_797 (by decide) ?_
  refine mi_keep (k := 120) (fs := f90) (rest := r88) (tys := t88) (atype := .int) (a0 := (4000, .inl (fun _ => 0))) hx hb hts hown hin hK hP hD hS hlen (by decide) (hts _ wd_1520) rfl hA wd_121 rfl (fun _ => rfl) (by decide) (by decide) (by decide) (by omega) (by omega) dX12_init_800 dX12_init_802 rfl (fun _ => rfl) (fun _ => rfl) (fun q88 k88 H locs hK hP hD hS hlen => ?_)
  refine W.widen (k := 89) (n := 1127702) (by omega) (by omega) ?_
  obtain ⟨r89, hr89⟩ : ∃ r : va_W, r = r88 ++ [(q88, .inl (k88, (4000, .inl (fun _ => 0))))] := ⟨_, rfl⟩
  obtain ⟨t89, ht89⟩ : ∃ t : List (ClassId × FieldType), t = t88 ++ [(k88, .int)] := ⟨_, rfl⟩
  rw [← hr89] at hP hD
  rw [← ht89] at hK
  obtain ⟨f91, hf91⟩ : ∃ f : List Value, f = f90.set 120 (.ref q88) := ⟨_, rfl⟩
  rw [← hf91] at hP hD hlen
  have hN15 : f91 = [.int 0, .ref q0, .int 0, .int 0, .ref q1, .ref q2, .ref q3, .int 0, .int 0, .ref a, .ref q4, .int 0, .int 0, .ref q5, .ref q6, .ref q7, .ref q8, .ref q9, .ref q10, .ref q11, .ref q12, .ref q13, .ref q14, .int 0, .ref q15, .ref q16, .ref q17, .ref q18, .ref q19, .ref q20, .ref q21, .int 0, .ref q22, .ref q23, .ref q24, .int 0, .ref q25, .ref q26, .ref q27, .ref q28, .ref q29, .ref q30, .ref q31, .ref q32, .ref q33, .ref q34, .ref q35, .ref q36, .ref q37, .ref q38, .ref q39, .int 0, .ref q40, .ref q41, .ref q42, .ref q43, .ref q44, .ref q45, .ref q46, .ref q47, .ref q48, .int 0, .int 0, .int 0, .int 0, .int 0, .int 0, .int 0, .int 0, .int 0, .int 1, .ref q49, .ref q50, .int 0, .int 0, .ref q51, .ref q52, .ref q53, .ref q54, .ref q55, .ref q56, .ref q57, .ref q58, .ref q59, .ref q60, .ref q61, .ref q62, .ref q63, .ref q64, .ref q65, .ref q66, .ref q67, .ref q68, .ref q69, .ref q70, .ref q71, .ref q72, .ref q73, .int 0, .int 0, .int 0, .int 0, .int 0, .ref q74, .ref q75, .int 0, .ref q76, .ref q77, .ref q78, .ref q79, .int 0, .ref q80, .ref q81, .ref q82, .ref q83, .ref q84, .ref q85, .ref q86, .ref q87, .int 0, .ref q88, .int 0, .int 0, .int 0, .int 0, .int 0, .int 0, .int 0] := by rw [hf91, hf90, hf89, hf88, hf87, hN14]; rfl
  have hrr : r89 = [(q0, .inl (k0, (4000, .inl (fun _ => 0)))), (q1, .inl (k1, (4002, .inl (fun _ => 0)))), (q2, .inl (k2, (4002, .inl (fun _ => 0)))), (q3, .inl (k3, (4002, .inr (.inl (fun _ => 0))))), (q4, .inl (k4, (22, .inr (.inl (fun _ => 0))))), (q5, .inl (k5, (2, .inl (fun _ => 0)))), (q6, .inl (k6, (24, .inr (.inl (fun _ => 0))))), (q7, .inl (k7, (24, .inl (fun _ => 0)))), (q8, .inl (k8, (24, .inl (fun _ => 0)))), (q9, .inl (k9, (288, .inr (.inl (fun _ => 0))))), (q10, .inl (k10, (24, .inl (fun _ => 0)))), (q11, .inl (k11, (24, .inl (fun _ => 0)))), (q12, .inl (k12, (24000, .inl (fun _ => 0)))), (q13, .inl (k13, (24000, .inl (fun _ => 0)))), (q14, .inl (k14, (24000, .inl (fun _ => 0)))), (q15, .inl (k15, (24000, .inl (fun _ => 0)))), (q16, .inl (k16, (24000, .inl (fun _ => 0)))), (q17, .inl (k17, (24000, .inl (fun _ => 0)))), (q18, .inl (k18, (24000, .inl (fun _ => 0)))), (q19, .inl (k19, (24000, .inl (fun _ => 0)))), (q20, .inl (k20, (24000, .inl (fun _ => 0)))), (q21, .inl (k21, (24000, .inl (fun _ => 0)))), (q22, .inl (k22, (24, .inl (fun _ => 0)))), (q23, .inl (k23, (24, .inl (fun _ => 0)))), (q24, .inl (k24, (408, .inl (fun _ => 0)))), (q25, .inl (k25, (1000, .inl (fun _ => 0)))), (q26, .inl (k26, (1000, .inl (fun _ => 0)))), (q27, .inl (k27, (1000, .inl (fun _ => 0)))), (q28, .inl (k28, (1000, .inl (fun _ => 0)))), (q29, .inl (k29, (1000, .inl (fun _ => 0)))), (q30, .inl (k30, (1000, .inl (fun _ => 0)))), (q31, .inl (k31, (1000, .inl (fun _ => 0)))), (q32, .inl (k32, (1000, .inl (fun _ => 0)))), (q33, .inl (k33, (1000, .inl (fun _ => 0)))), (q34, .inl (k34, (1000, .inl (fun _ => 0)))), (q35, .inl (k35, (1000, .inl (fun _ => 0)))), (q36, .inl (k36, (1000, .inl (fun _ => 0)))), (q37, .inl (k37, (1000, .inl (fun _ => 0)))), (q38, .inl (k38, (1000, .inl (fun _ => 0)))), (q39, .inl (k39, (1000, .inl (fun _ => 0)))), (q40, .inl (k40, (1000, .inl (fun _ => 0)))), (q41, .inl (k41, (1000, .inl (fun _ => 0)))), (q42, .inl (k42, (1000, .inl (fun _ => 0)))), (q43, .inl (k43, (1000, .inl (fun _ => 0)))), (q44, .inl (k44, (1000, .inl (fun _ => 0)))), (q45, .inl (k45, (1000, .inl (fun _ => 0)))), (q46, .inl (k46, (1000, .inl (fun _ => 0)))), (q47, .inl (k47, (1000, .inl (fun _ => 0)))), (q48, .inl (k48, (1000, .inl (fun _ => 0)))), (q49, .inl (k49, (12000, .inl (fun _ => 0)))), (q50, .inl (k50, (12000, .inl (fun _ => 0)))), (q51, .inl (k51, (200, .inl (fun _ => 0)))), (q52, .inl (k52, (200, .inl (fun _ => 0)))), (q53, .inl (k53, (200, .inl (fun _ => 0)))), (q54, .inl (k54, (200, .inl (fun _ => 0)))), (q55, .inl (k55, (200, .inl (fun _ => 0)))), (q56, .inl (k56, (200, .inl (fun _ => 0)))), (q57, .inl (k57, (200, .inl (fun _ => 0)))), (q58, .inl (k58, (2400, .inl (fun _ => 0)))), (q59, .inl (k59, (200, .inl (fun _ => 0)))), (q60, .inl (k60, (200, .inl (fun _ => 0)))), (q61, .inl (k61, (200, .inl (fun _ => 0)))), (q62, .inl (k62, (200, .inl (fun _ => 0)))), (q63, .inl (k63, (200, .inl (fun _ => 0)))), (q64, .inl (k64, (200, .inl (fun _ => 0)))), (q65, .inl (k65, (200, .inl (fun _ => 0)))), (q66, .inl (k66, (200, .inl (fun _ => 0)))), (q67, .inl (k67, (200, .inl (fun _ => 0)))), (q68, .inl (k68, (200, .inl (fun _ => 0)))), (q69, .inl (k69, (2200, .inl (fun _ => 0)))), (q70, .inl (k70, (2200, .inl (fun _ => 0)))), (q71, .inl (k71, (2200, .inl (fun _ => 0)))), (q72, .inl (k72, (2200, .inl (fun _ => 0)))), (q73, .inl (k73, (200, .inl (fun _ => 0)))), (q74, .inl (k74, (300, .inl (fun _ => 0)))), (q75, .inl (k75, (300, .inl (fun _ => 0)))), (q76, .inl (k76, (300, .inl (fun _ => 0)))), (q77, .inl (k77, (300, .inl (fun _ => 0)))), (q78, .inl (k78, (8, .inl (fun _ => 0)))), (q79, .inl (k79, (400, .inl (fun _ => 0)))), (q80, .inl (k80, (100300, .inl (fun _ => 0)))), (q81, .inl (k81, (100300, .inl (fun _ => 0)))), (q82, .inl (k82, (100300, .inl (fun _ => 0)))), (q83, .inl (k83, (100300, .inl (fun _ => 0)))), (q84, .inl (k84, (100300, .inl (fun _ => 0)))), (q85, .inl (k85, (100300, .inl (fun _ => 0)))), (q86, .inl (k86, (100300, .inr (.inl (fun _ => 0))))), (q87, .inl (k87, (100300, .inl (fun _ => 0)))), (q88, .inl (k88, (4000, .inl (fun _ => 0))))] := by rw [hr89, hr88, hr87, hr86, hr85, hr84, hr83, hr82, hr81, hr80, hr79, hr78, hr77, hr76, hr75, hr74, hr73, hr72, hr71, hr70, hr69, hr68, hr67, hr66, hr65, hr64, hr63, hr62, hr61, hr60, hr59, hr58, hr57, hr56, hr55, hr54, hr53, hr52, hr51, hr50, hr49, hr48, hr47, hr46, hr45, hr44, hr43, hr42, hr41, hr40, hr39, hr38, hr37, hr36, hr35, hr34, hr33, hr32, hr31, hr30, hr29, hr28, hr27, hr26, hr25, hr24, hr23, hr22, hr21, hr20, hr19, hr18, hr17, hr16, hr15, hr14, hr13, hr12, hr11, hr10, hr9, hr8, hr7, hr6, hr5, hr4, hr3, hr2, hr1, hr0]; rfl
  have htt : t89 = [(k0, .int), (k1, .int), (k2, .int), (k3, .long), (k4, .long), (k5, .int), (k6, .long), (k7, .int), (k8, .int), (k9, .long), (k10, .int), (k11, .int), (k12, .int), (k13, .int), (k14, .int), (k15, .int), (k16, .int), (k17, .int), (k18, .int), (k19, .int), (k20, .int), (k21, .int), (k22, .int), (k23, .int), (k24, .int), (k25, .int), (k26, .int), (k27, .int), (k28, .boolean), (k29, .boolean), (k30, .int), (k31, .int), (k32, .int), (k33, .int), (k34, .int), (k35, .int), (k36, .int), (k37, .boolean), (k38, .boolean), (k39, .boolean), (k40, .int), (k41, .int), (k42, .int), (k43, .int), (k44, .int), (k45, .int), (k46, .int), (k47, .int), (k48, .int), (k49, .boolean), (k50, .int), (k51, .int), (k52, .int), (k53, .int), (k54, .int), (k55, .int), (k56, .int), (k57, .int), (k58, .int), (k59, .int), (k60, .int), (k61, .boolean), (k62, .int), (k63, .int), (k64, .int), (k65, .int), (k66, .int), (k67, .int), (k68, .int), (k69, .int), (k70, .int), (k71, .int), (k72, .int), (k73, .int), (k74, .int), (k75, .int), (k76, .int), (k77, .int), (k78, .int), (k79, .int), (k80, .int), (k81, .int), (k82, .int), (k83, .int), (k84, .int), (k85, .int), (k86, .long), (k87, .int), (k88, .int)] := by rw [ht89, ht88, ht87, ht86, ht85, ht84, ht83, ht82, ht81, ht80, ht79, ht78, ht77, ht76, ht75, ht74, ht73, ht72, ht71, ht70, ht69, ht68, ht67, ht66, ht65, ht64, ht63, ht62, ht61, ht60, ht59, ht58, ht57, ht56, ht55, ht54, ht53, ht52, ht51, ht50, ht49, ht48, ht47, ht46, ht45, ht44, ht43, ht42, ht41, ht40, ht39, ht38, ht37, ht36, ht35, ht34, ht33, ht32, ht31, ht30, ht29, ht28, ht27, ht26, ht25, ht24, ht23, ht22, ht21, ht20, ht19, ht18, ht17, ht16, ht15, ht14, ht13, ht12, ht11, ht10, ht9, ht8, ht7, ht6, ht5, ht4, ht3, ht2, ht1, ht0]; rfl
  rw [hN15, hrr] at hP hD
  rw [htt] at hK
  exact kk ((dC, dI), h0, (fun k => [q0, q1, q2, q3, q4, q5, q6, q7, q8, q9, q10, q11, q12, q13, q14, q15, q16, q17, q18, q19, q20, q21, q22, q23, q24, q25, q26, q27, q28, q29, q30, q31, q32, q33, q34, q35, q36, q37, q38, q39, q40, q41, q42, q43, q44, q45, q46, q47, q48, q49, q50, q51, q52, q53, q54, q55, q56, q57, q58, q59, q60, q61, q62, q63, q64, q65, q66, q67, q68, q69, q70, q71, q72, q73, q74, q75, q76, q77, q78, q79, q80, q81, q82, q83, q84, q85, q86, q87, q88].getD k 0), (fun k => [k0, k1, k2, k3, k4, k5, k6, k7, k8, k9, k10, k11, k12, k13, k14, k15, k16, k17, k18, k19, k20, k21, k22, k23, k24, k25, k26, k27, k28, k29, k30, k31, k32, k33, k34, k35, k36, k37, k38, k39, k40, k41, k42, k43, k44, k45, k46, k47, k48, k49, k50, k51, k52, k53, k54, k55, k56, k57, k58, k59, k60, k61, k62, k63, k64, k65, k66, k67, k68, k69, k70, k71, k72, k73, k74, k75, k76, k77, k78, k79, k80, k81, k82, k83, k84, k85, k86, k87, k88].getD k (dC 0)), a) H locs rfl rfl rfl hK hP hD hS
