theorem wd_839 : (Jvm.Cond.methodLink "SleepersLaw" (53 : Nat) ({ cls := "Sleepers", name := "next", desc := "(III)I" } : Jvm.MethodName)) ∈ tb := tb_at 839 (by decide +kernel) (by decide +kernel)
theorem wd_840 : (Jvm.Cond.instanceMethod ({ cls := "Sleepers", name := "next", desc := "(III)I" } : Jvm.MethodName)) ∈ tb := tb_at 840 (by decide +kernel) (by decide +kernel)
theorem wd_841 : (Jvm.Cond.selects "Sleepers" ({ cls := "Sleepers", name := "next", desc := "(III)I" } : Jvm.MethodName) ({ cls := "Sleepers", name := "next", desc := "(III)I" } : Jvm.MethodName)) ∈ tb := tb_at 841 (by decide +kernel) (by decide +kernel)
theorem wd_842 : (Jvm.Cond.code ({ cls := "Sleepers", name := "next", desc := "(III)I" } : Jvm.MethodName) prog_1_method_7_code (4 : Nat) (Option.some Jvm.ClassFile.FieldType.int)) ∈ tb := tb_at 842 (by decide +kernel) (by decide +kernel)
theorem wd_847 : (Jvm.Cond.methodLink "SleepersLaw" (57 : Nat) ({ cls := "Sleepers", name := "begin", desc := "(IIIII)I" } : Jvm.MethodName)) ∈ tb := tb_at 847 (by decide +kernel) (by decide +kernel)
theorem wd_848 : (Jvm.Cond.instanceMethod ({ cls := "Sleepers", name := "begin", desc := "(IIIII)I" } : Jvm.MethodName)) ∈ tb := tb_at 848 (by decide +kernel) (by decide +kernel)
theorem wd_849 : (Jvm.Cond.selects "Sleepers" ({ cls := "Sleepers", name := "begin", desc := "(IIIII)I" } : Jvm.MethodName) ({ cls := "Sleepers", name := "begin", desc := "(IIIII)I" } : Jvm.MethodName)) ∈ tb := tb_at 849 (by decide +kernel) (by decide +kernel)
theorem wd_850 : (Jvm.Cond.code ({ cls := "Sleepers", name := "begin", desc := "(IIIII)I" } : Jvm.MethodName) prog_1_method_8_code (8 : Nat) (Option.some Jvm.ClassFile.FieldType.int)) ∈ tb := tb_at 850 (by decide +kernel) (by decide +kernel)
theorem wd_957 : (Jvm.Cond.methodLink "SleepersLaw" (62 : Nat) ({ cls := "Sleepers", name := "turn", desc := "(I)I" } : Jvm.MethodName)) ∈ tb := tb_at 957 (by decide +kernel) (by decide +kernel)
theorem wd_958 : (Jvm.Cond.instanceMethod ({ cls := "Sleepers", name := "turn", desc := "(I)I" } : Jvm.MethodName)) ∈ tb := tb_at 958 (by decide +kernel) (by decide +kernel)
theorem wd_959 : (Jvm.Cond.selects "Sleepers" ({ cls := "Sleepers", name := "turn", desc := "(I)I" } : Jvm.MethodName) ({ cls := "Sleepers", name := "turn", desc := "(I)I" } : Jvm.MethodName)) ∈ tb := tb_at 959 (by decide +kernel) (by decide +kernel)
theorem wd_960 : (Jvm.Cond.code ({ cls := "Sleepers", name := "turn", desc := "(I)I" } : Jvm.MethodName) prog_1_method_9_code (2 : Nat) (Option.some Jvm.ClassFile.FieldType.int)) ∈ tb := tb_at 960 (by decide +kernel) (by decide +kernel)
theorem wd_1212 : (Jvm.Cond.methodLink "SleepersLaw" (66 : Nat) ({ cls := "Sleepers", name := "rounds", desc := "(I)I" } : Jvm.MethodName)) ∈ tb := tb_at 1212 (by decide +kernel) (by decide +kernel)
theorem wd_1213 : (Jvm.Cond.instanceMethod ({ cls := "Sleepers", name := "rounds", desc := "(I)I" } : Jvm.MethodName)) ∈ tb := tb_at 1213 (by decide +kernel) (by decide +kernel)
theorem wd_1214 : (Jvm.Cond.selects "Sleepers" ({ cls := "Sleepers", name := "rounds", desc := "(I)I" } : Jvm.MethodName) ({ cls := "Sleepers", name := "rounds", desc := "(I)I" } : Jvm.MethodName)) ∈ tb := tb_at 1214 (by decide +kernel) (by decide +kernel)
theorem wd_1215 : (Jvm.Cond.code ({ cls := "Sleepers", name := "rounds", desc := "(I)I" } : Jvm.MethodName) prog_1_method_10_code (3 : Nat) (Option.some Jvm.ClassFile.FieldType.int)) ∈ tb := tb_at 1215 (by decide +kernel) (by decide +kernel)
theorem wd_1216 : (Jvm.Cond.methodLink "SleepersLaw" (70 : Nat) ({ cls := "Sleepers", name := "letter", desc := "(II)I" } : Jvm.MethodName)) ∈ tb := tb_at 1216 (by decide +kernel) (by decide +kernel)
theorem wd_1217 : (Jvm.Cond.instanceMethod ({ cls := "Sleepers", name := "letter", desc := "(II)I" } : Jvm.MethodName)) ∈ tb := tb_at 1217 (by decide +kernel) (by decide +kernel)
theorem wd_1218 : (Jvm.Cond.selects "Sleepers" ({ cls := "Sleepers", name := "letter", desc := "(II)I" } : Jvm.MethodName) ({ cls := "Sleepers", name := "letter", desc := "(II)I" } : Jvm.MethodName)) ∈ tb := tb_at 1218 (by decide +kernel) (by decide +kernel)
theorem wd_1219 : (Jvm.Cond.code ({ cls := "Sleepers", name := "letter", desc := "(II)I" } : Jvm.MethodName) prog_1_method_11_code (3 : Nat) (Option.some Jvm.ClassFile.FieldType.int)) ∈ tb := tb_at 1219 (by decide +kernel) (by decide +kernel)
theorem wd_1994 : (Jvm.Cond.methodLink "SleepersLaw" (56 : Nat) ({ cls := "SleepersModel", name := "next", desc := "(III)I" } : Jvm.MethodName)) ∈ tb := tb_at 1994 (by decide +kernel) (by decide +kernel)
theorem wd_1995 : (Jvm.Cond.instanceMethod ({ cls := "SleepersModel", name := "next", desc := "(III)I" } : Jvm.MethodName)) ∈ tb := tb_at 1995 (by decide +kernel) (by decide +kernel)
theorem wd_1996 : (Jvm.Cond.selects "SleepersModel" ({ cls := "SleepersModel", name := "next", desc := "(III)I" } : Jvm.MethodName) ({ cls := "SleepersModel", name := "next", desc := "(III)I" } : Jvm.MethodName)) ∈ tb := tb_at 1996 (by decide +kernel) (by decide +kernel)
theorem wd_1997 : (Jvm.Cond.code ({ cls := "SleepersModel", name := "next", desc := "(III)I" } : Jvm.MethodName) prog_14_method_58_code (7 : Nat) (Option.some Jvm.ClassFile.FieldType.int)) ∈ tb := tb_at 1997 (by decide +kernel) (by decide +kernel)
theorem wd_1998 : (Jvm.Cond.methodLink "SleepersLaw" (61 : Nat) ({ cls := "SleepersModel", name := "begin", desc := "(IIIII)I" } : Jvm.MethodName)) ∈ tb := tb_at 1998 (by decide +kernel) (by decide +kernel)
theorem wd_1999 : (Jvm.Cond.instanceMethod ({ cls := "SleepersModel", name := "begin", desc := "(IIIII)I" } : Jvm.MethodName)) ∈ tb := tb_at 1999 (by decide +kernel) (by decide +kernel)
theorem wd_2000 : (Jvm.Cond.selects "SleepersModel" ({ cls := "SleepersModel", name := "begin", desc := "(IIIII)I" } : Jvm.MethodName) ({ cls := "SleepersModel", name := "begin", desc := "(IIIII)I" } : Jvm.MethodName)) ∈ tb := tb_at 2000 (by decide +kernel) (by decide +kernel)
theorem wd_2001 : (Jvm.Cond.code ({ cls := "SleepersModel", name := "begin", desc := "(IIIII)I" } : Jvm.MethodName) prog_14_method_63_code (9 : Nat) (Option.some Jvm.ClassFile.FieldType.int)) ∈ tb := tb_at 2001 (by decide +kernel) (by decide +kernel)
theorem wd_2046 : (Jvm.Cond.methodLink "SleepersLaw" (65 : Nat) ({ cls := "SleepersModel", name := "turn", desc := "(I)I" } : Jvm.MethodName)) ∈ tb := tb_at 2046 (by decide +kernel) (by decide +kernel)
theorem wd_2047 : (Jvm.Cond.instanceMethod ({ cls := "SleepersModel", name := "turn", desc := "(I)I" } : Jvm.MethodName)) ∈ tb := tb_at 2047 (by decide +kernel) (by decide +kernel)
theorem wd_2048 : (Jvm.Cond.selects "SleepersModel" ({ cls := "SleepersModel", name := "turn", desc := "(I)I" } : Jvm.MethodName) ({ cls := "SleepersModel", name := "turn", desc := "(I)I" } : Jvm.MethodName)) ∈ tb := tb_at 2048 (by decide +kernel) (by decide +kernel)
theorem wd_2049 : (Jvm.Cond.code ({ cls := "SleepersModel", name := "turn", desc := "(I)I" } : Jvm.MethodName) prog_14_method_95_code (3 : Nat) (Option.some Jvm.ClassFile.FieldType.int)) ∈ tb := tb_at 2049 (by decide +kernel) (by decide +kernel)
theorem wd_2143 : (Jvm.Cond.methodLink "SleepersLaw" (69 : Nat) ({ cls := "SleepersModel", name := "rounds", desc := "(I)I" } : Jvm.MethodName)) ∈ tb := tb_at 2143 (by decide +kernel) (by decide +kernel)
theorem wd_2144 : (Jvm.Cond.instanceMethod ({ cls := "SleepersModel", name := "rounds", desc := "(I)I" } : Jvm.MethodName)) ∈ tb := tb_at 2144 (by decide +kernel) (by decide +kernel)
theorem wd_2145 : (Jvm.Cond.selects "SleepersModel" ({ cls := "SleepersModel", name := "rounds", desc := "(I)I" } : Jvm.MethodName) ({ cls := "SleepersModel", name := "rounds", desc := "(I)I" } : Jvm.MethodName)) ∈ tb := tb_at 2145 (by decide +kernel) (by decide +kernel)
theorem wd_2146 : (Jvm.Cond.code ({ cls := "SleepersModel", name := "rounds", desc := "(I)I" } : Jvm.MethodName) prog_14_method_96_code (4 : Nat) (Option.some Jvm.ClassFile.FieldType.int)) ∈ tb := tb_at 2146 (by decide +kernel) (by decide +kernel)
theorem wd_2147 : (Jvm.Cond.methodLink "SleepersLaw" (73 : Nat) ({ cls := "SleepersModel", name := "letter", desc := "(II)I" } : Jvm.MethodName)) ∈ tb := tb_at 2147 (by decide +kernel) (by decide +kernel)
theorem wd_2148 : (Jvm.Cond.instanceMethod ({ cls := "SleepersModel", name := "letter", desc := "(II)I" } : Jvm.MethodName)) ∈ tb := tb_at 2148 (by decide +kernel) (by decide +kernel)
theorem wd_2149 : (Jvm.Cond.selects "SleepersModel" ({ cls := "SleepersModel", name := "letter", desc := "(II)I" } : Jvm.MethodName) ({ cls := "SleepersModel", name := "letter", desc := "(II)I" } : Jvm.MethodName)) ∈ tb := tb_at 2149 (by decide +kernel) (by decide +kernel)
theorem wd_2150 : (Jvm.Cond.code ({ cls := "SleepersModel", name := "letter", desc := "(II)I" } : Jvm.MethodName) prog_14_method_97_code (6 : Nat) (Option.some Jvm.ClassFile.FieldType.int)) ∈ tb := tb_at 2150 (by decide +kernel) (by decide +kernel)
set_option maxHeartbeats 4000000 in
set_option maxRecDepth 100000 in
theorem lo_next {p : Program} {l : Launch} {e : Env} {s : State} {m : MethodId} {below : List Frame} {meth : Method} {c : Code} {b L : Nat} {xs : Nat → Int32} {A : Nat → Prop} {E : kE} {Em : mE} {S : kS} {M : mS} {H : Heap} {locs : List Loc} {ls : Array Slot} {x oq j cells slots : Nat} {Q : State → Prop} (C0 : lw_At p s m meth c b L xs) (hbA : ¬ A b) (hL : L ≤ 3584) (hj : 7 * j + 7 ≤ L) (hX : kX RL p s m #[Value.ref b] c code 7 E A) (hXm : mXo RL p s m #[Value.ref b] c code 7 Em A) (hC : cM E A s.heap S H locs) (hCm : mC Em A s.heap M H locs) (hap : Apart (cW E S) (mW Em M)) (hl : lv_has ls 7 [(0, .ref b), (1, .ref x), (2, .ref Em.2.1), (3, .ref oq), (4, .int (nI (7 * j)))]) (hcs : cells + 105000 ≤ 601024 ∧ slots + 2100000 ≤ 7293034) {PK : kS → Int32 → Prop} {PM : mS → Int32 → Prop} (ho : hasO S x 11) (h : wp_X11_next x (xs (7 * j + 1)) (xs (7 * j + 2)) (xs (7 * j + 3)) S PK) (hm : wp_next (xs (7 * j + 1)) (xs (7 * j + 2)) (xs (7 * j + 3)) M PM)
    (kk : ∀ (S1 : kS) (M1 : mS) (r r1 : Int32) (H1 : Heap) (locs1 : List Loc) (ls1 : Array Slot), PK S1 r → PM M1 r1 → cM E A s.heap S1 H1 locs1 → mC Em A s.heap M1 H1 locs1 → Apart (cW E S1) (mW Em M1) → lv_has ls1 7 [(0, .ref b), (1, .ref x), (2, .ref Em.2.1), (3, .ref oq), (4, .int (nI (7 * j)))] → W p l e room_1 s m #[Value.ref b] below meth c H1 locs1 (cells) (slots) Q (F0 m 947 ls1 [])) : W p l e room_1 s m #[Value.ref b] below meth c H locs cells slots Q (F0 m 410 ls []) := by
  obtain ⟨hx, hb, hr, hml, hown, hts0, hXs, hbl, hlocks, hgv⟩ := C0
  have hts : ∀ w ∈ tb, w.before _ s = true := fun w h => hts0 w (List.mem_filter.mp h).1
  refine lv_aload_n hx hb dL_law_410 rfl (lv_at hl 1 rfl) ?_
  refine lv_aload_n hx hb dL_law_411 rfl (lv_at hl 0 rfl) ?_
  refine lv_iload hx hb dL_law_412 (lv_at hl 4 rfl) ?_
  refine lv_iconst (v := 1) hx hb dL_law_414 (by decide) ?_
  refine lv_iadd hx hb dL_law_415 ?_
  refine lw_ld (k := 7 * j + 1) hx hb hXs hbl hbA hC.2.2 (nI_add (7 * j) 1) (by omega) hL dL_law_416 ?_
  refine lv_aload_n hx hb dL_law_417 rfl (lv_at hl 0 rfl) ?_
  refine lv_iload hx hb dL_law_418 (lv_at hl 4 rfl) ?_
  refine lv_iconst (v := 2) hx hb dL_law_420 (by decide) ?_
  refine lv_iadd hx hb dL_law_421 ?_
  refine lw_ld (k := 7 * j + 2) hx hb hXs hbl hbA hC.2.2 (nI_add (7 * j) 2) (by omega) hL dL_law_422 ?_
  refine lv_aload_n hx hb dL_law_423 rfl (lv_at hl 0 rfl) ?_
  refine lv_iload hx hb dL_law_424 (lv_at hl 4 rfl) ?_
  refine lv_iconst (v := 3) hx hb dL_law_426 (by decide) ?_
  refine lv_iadd hx hb dL_law_427 ?_
  refine lw_ld (k := 7 * j + 3) hx hb hXs hbl hbA hC.2.2 (nI_add (7 * j) 3) (by omega) hL dL_law_428 ?_
  refine lk_calli [.int (xs (7 * j + 1)), .int (xs (7 * j + 2)), .int (xs (7 * j + 3))] (a := x) (ci := 11) (rest := []) rfl hX hC ho (kt_X11_next l S x (xs (7 * j + 1)) (xs (7 * j + 2)) (xs (7 * j + 3)) PK h E _) (cwV 3 hts (gd_V wd_839 wd_840 wd_841 wd_1 wd_842) rfl rfl rfl (by decide +kernel) ⟨Nat.le_of_ble_eq_true rfl, Nat.le_of_ble_eq_true rfl⟩) rfl hl.1 (Nat.le_of_ble_eq_true rfl) ⟨by show cells ≤ 601024; omega, by show slots ≤ 7293034; omega⟩ dL_law_429 (fun r S1 H1 locs1 hC1 hz hk hD1 hp => ?_)
  have hB := keepB (D := Em.1) hCm.1 hap hk hD1
  replace hCm : mC Em A s.heap M H1 locs1 := ⟨hB.1, hCm.2.1, hC1.2.2⟩
  refine lv_pop hx hb dL_law_432 rfl ?_
  refine lv_aload_n hx hb dL_law_433 rfl (lv_at hl 2 rfl) ?_
  refine lv_aload_n hx hb dL_law_434 rfl (lv_at hl 0 rfl) ?_
  refine lv_iload hx hb dL_law_435 (lv_at hl 4 rfl) ?_
  refine lv_iconst (v := 1) hx hb dL_law_437 (by decide) ?_
  refine lv_iadd hx hb dL_law_438 ?_
  refine lw_ld (k := 7 * j + 1) hx hb hXs hbl hbA hC1.2.2 (nI_add (7 * j) 1) (by omega) hL dL_law_439 ?_
  refine lv_aload_n hx hb dL_law_440 rfl (lv_at hl 0 rfl) ?_
  refine lv_iload hx hb dL_law_441 (lv_at hl 4 rfl) ?_
  refine lv_iconst (v := 2) hx hb dL_law_443 (by decide) ?_
  refine lv_iadd hx hb dL_law_444 ?_
  refine lw_ld (k := 7 * j + 2) hx hb hXs hbl hbA hC1.2.2 (nI_add (7 * j) 2) (by omega) hL dL_law_445 ?_
  refine lv_aload_n hx hb dL_law_446 rfl (lv_at hl 0 rfl) ?_
  refine lv_iload hx hb dL_law_447 (lv_at hl 4 rfl) ?_
  refine lv_iconst (v := 3) hx hb dL_law_449 (by decide) ?_
  refine lv_iadd hx hb dL_law_450 ?_
  refine lw_ld (k := 7 * j + 3) hx hb hXs hbl hbA hC1.2.2 (nI_add (7 * j) 3) (by omega) hL dL_law_451 ?_
  refine lm_calli [.int (xs (7 * j + 1)), .int (xs (7 * j + 2)), .int (xs (7 * j + 3))] (rest := []) hXm hCm (ct_next l M (xs (7 * j + 1)) (xs (7 * j + 2)) (xs (7 * j + 3)) PM hm Em _) (cwV 3 hts (gd_V wd_1994 wd_1995 wd_1996 wd_15 wd_1997) rfl rfl rfl (by decide +kernel) ⟨Nat.le_of_ble_eq_true rfl, Nat.le_of_ble_eq_true rfl⟩) rfl hl.1 (Nat.le_of_ble_eq_true rfl) ⟨by show cells ≤ 601024; omega, by show slots ≤ 7293034; omega⟩ dL_law_452 (fun r1 M1 H2 locs2 hCm1 hz2 hk2 hD2 hp1 => ?_)
  have hB2 := keepB (D := E.1) hC1.1 (Apart_symm hB.2) hk2 hD2
  have hC2 : cM E A s.heap S1 H2 locs2 := ⟨hB2.1, hC1.2.1, hCm1.2.2⟩
  refine lv_pop hx hb dL_law_455 rfl ?_
  refine lv_goto (tgt := 947) hx hb dL_law_456 (by decide) ?_
  exact kk S1 M1 r r1 H2 locs2 ls hp hp1 hC2 hCm1 (Apart_symm hB2.2) hl
set_option maxHeartbeats 4000000 in
set_option maxRecDepth 100000 in
theorem lo_begin {p : Program} {l : Launch} {e : Env} {s : State} {m : MethodId} {below : List Frame} {meth : Method} {c : Code} {b L : Nat} {xs : Nat → Int32} {A : Nat → Prop} {E : kE} {Em : mE} {S : kS} {M : mS} {H : Heap} {locs : List Loc} {ls : Array Slot} {x oq j cells slots : Nat} {Q : State → Prop} (C0 : lw_At p s m meth c b L xs) (hbA : ¬ A b) (hL : L ≤ 3584) (hj : 7 * j + 7 ≤ L) (hX : kX RL p s m #[Value.ref b] c code 7 E A) (hXm : mXo RL p s m #[Value.ref b] c code 7 Em A) (hC : cM E A s.heap S H locs) (hCm : mC Em A s.heap M H locs) (hap : Apart (cW E S) (mW Em M)) (hl : lv_has ls 7 [(0, .ref b), (1, .ref x), (2, .ref Em.2.1), (3, .ref oq), (4, .int (nI (7 * j)))]) (hcs : cells + 105000 ≤ 601024 ∧ slots + 2100000 ≤ 7293034) {PK : kS → Int32 → Prop} {PM : mS → Int32 → Prop} (ho : hasO S x 11) (h : wp_X11_begin x (xs (7 * j + 1)) (xs (7 * j + 2)) (xs (7 * j + 3)) (xs (7 * j + 4)) (xs (7 * j + 5)) S PK) (hm : wp_begin (xs (7 * j + 1)) (xs (7 * j + 2)) (xs (7 * j + 3)) (xs (7 * j + 4)) (xs (7 * j + 5)) M PM)
    (kk : ∀ (S1 : kS) (M1 : mS) (r r1 : Int32) (H1 : Heap) (locs1 : List Loc) (ls1 : Array Slot), PK S1 r → PM M1 r1 → cnt S ≤ cnt S1 → cnt S1 ≤ cnt S + 4 → cM E A s.heap S1 H1 locs1 → mC Em A s.heap M1 H1 locs1 → Apart (cW E S1) (mW Em M1) → lv_has ls1 7 [(0, .ref b), (1, .ref x), (2, .ref Em.2.1), (3, .ref oq), (4, .int (nI (7 * j)))] → W p l e room_1 s m #[Value.ref b] below meth c H1 locs1 (cells + (cnt S1 - cnt S)) (slots + 20 * (cnt S1 - cnt S)) Q (F0 m 947 ls1 [])) : W p l e room_1 s m #[Value.ref b] below meth c H locs cells slots Q (F0 m 459 ls []) := by
  obtain ⟨hx, hb, hr, hml, hown, hts0, hXs, hbl, hlocks, hgv⟩ := C0
  have hts : ∀ w ∈ tb, w.before _ s = true := fun w h => hts0 w (List.mem_filter.mp h).1
  refine lv_aload_n hx hb dL_law_459 rfl (lv_at hl 1 rfl) ?_
  refine lv_aload_n hx hb dL_law_460 rfl (lv_at hl 0 rfl) ?_
  refine lv_iload hx hb dL_law_461 (lv_at hl 4 rfl) ?_
  refine lv_iconst (v := 1) hx hb dL_law_463 (by decide) ?_
  refine lv_iadd hx hb dL_law_464 ?_
  refine lw_ld (k := 7 * j + 1) hx hb hXs hbl hbA hC.2.2 (nI_add (7 * j) 1) (by omega) hL dL_law_465 ?_
  refine lv_aload_n hx hb dL_law_466 rfl (lv_at hl 0 rfl) ?_
  refine lv_iload hx hb dL_law_467 (lv_at hl 4 rfl) ?_
  refine lv_iconst (v := 2) hx hb dL_law_469 (by decide) ?_
  refine lv_iadd hx hb dL_law_470 ?_
  refine lw_ld (k := 7 * j + 2) hx hb hXs hbl hbA hC.2.2 (nI_add (7 * j) 2) (by omega) hL dL_law_471 ?_
  refine lv_aload_n hx hb dL_law_472 rfl (lv_at hl 0 rfl) ?_
  refine lv_iload hx hb dL_law_473 (lv_at hl 4 rfl) ?_
  refine lv_iconst (v := 3) hx hb dL_law_475 (by decide) ?_
  refine lv_iadd hx hb dL_law_476 ?_
  refine lw_ld (k := 7 * j + 3) hx hb hXs hbl hbA hC.2.2 (nI_add (7 * j) 3) (by omega) hL dL_law_477 ?_
  refine lv_aload_n hx hb dL_law_478 rfl (lv_at hl 0 rfl) ?_
  refine lv_iload hx hb dL_law_479 (lv_at hl 4 rfl) ?_
  refine lv_iconst (v := 4) hx hb dL_law_481 (by decide) ?_
  refine lv_iadd hx hb dL_law_482 ?_
  refine lw_ld (k := 7 * j + 4) hx hb hXs hbl hbA hC.2.2 (nI_add (7 * j) 4) (by omega) hL dL_law_483 ?_
  refine lv_aload_n hx hb dL_law_484 rfl (lv_at hl 0 rfl) ?_
  refine lv_iload hx hb dL_law_485 (lv_at hl 4 rfl) ?_
  refine lv_iconst (v := 5) hx hb dL_law_487 (by decide) ?_
  refine lv_iadd hx hb dL_law_488 ?_
  refine lw_ld (k := 7 * j + 5) hx hb hXs hbl hbA hC.2.2 (nI_add (7 * j) 5) (by omega) hL dL_law_489 ?_
  refine ln_calli [.int (xs (7 * j + 1)), .int (xs (7 * j + 2)), .int (xs (7 * j + 3)), .int (xs (7 * j + 4)), .int (xs (7 * j + 5))] (a := x) (ci := 11) (rest := []) rfl hX hC ho (kt_X11_begin l S x (xs (7 * j + 1)) (xs (7 * j + 2)) (xs (7 * j + 3)) (xs (7 * j + 4)) (xs (7 * j + 5)) PK h E _) (cwV 5 hts (gd_V wd_847 wd_848 wd_849 wd_1 wd_850) rfl rfl rfl (by decide +kernel) ⟨Nat.le_of_ble_eq_true rfl, Nat.le_of_ble_eq_true rfl⟩) rfl hl.1 (Nat.le_of_ble_eq_true rfl) ⟨by show cells + 4 ≤ 601024; omega, by show slots + 20 * 4 ≤ 7293034; omega⟩ dL_law_490 (fun r S1 H1 locs1 hC1 hz hk hD1 hn1 hn2 hp => ?_)
  have hB := keepB (D := Em.1) hCm.1 hap hk hD1
  replace hCm : mC Em A s.heap M H1 locs1 := ⟨hB.1, hCm.2.1, hC1.2.2⟩
  refine lv_pop hx hb dL_law_493 rfl ?_
  refine lv_aload_n hx hb dL_law_494 rfl (lv_at hl 2 rfl) ?_
  refine lv_aload_n hx hb dL_law_495 rfl (lv_at hl 0 rfl) ?_
  refine lv_iload hx hb dL_law_496 (lv_at hl 4 rfl) ?_
  refine lv_iconst (v := 1) hx hb dL_law_498 (by decide) ?_
  refine lv_iadd hx hb dL_law_499 ?_
  refine lw_ld (k := 7 * j + 1) hx hb hXs hbl hbA hC1.2.2 (nI_add (7 * j) 1) (by omega) hL dL_law_500 ?_
  refine lv_aload_n hx hb dL_law_501 rfl (lv_at hl 0 rfl) ?_
  refine lv_iload hx hb dL_law_502 (lv_at hl 4 rfl) ?_
  refine lv_iconst (v := 2) hx hb dL_law_504 (by decide) ?_
  refine lv_iadd hx hb dL_law_505 ?_
  refine lw_ld (k := 7 * j + 2) hx hb hXs hbl hbA hC1.2.2 (nI_add (7 * j) 2) (by omega) hL dL_law_506 ?_
  refine lv_aload_n hx hb dL_law_507 rfl (lv_at hl 0 rfl) ?_
  refine lv_iload hx hb dL_law_508 (lv_at hl 4 rfl) ?_
  refine lv_iconst (v := 3) hx hb dL_law_510 (by decide) ?_
  refine lv_iadd hx hb dL_law_511 ?_
  refine lw_ld (k := 7 * j + 3) hx hb hXs hbl hbA hC1.2.2 (nI_add (7 * j) 3) (by omega) hL dL_law_512 ?_
  refine lv_aload_n hx hb dL_law_513 rfl (lv_at hl 0 rfl) ?_
  refine lv_iload hx hb dL_law_514 (lv_at hl 4 rfl) ?_
  refine lv_iconst (v := 4) hx hb dL_law_516 (by decide) ?_
  refine lv_iadd hx hb dL_law_517 ?_
  refine lw_ld (k := 7 * j + 4) hx hb hXs hbl hbA hC1.2.2 (nI_add (7 * j) 4) (by omega) hL dL_law_518 ?_
  refine lv_aload_n hx hb dL_law_519 rfl (lv_at hl 0 rfl) ?_
  refine lv_iload hx hb dL_law_520 (lv_at hl 4 rfl) ?_
  refine lv_iconst (v := 5) hx hb dL_law_522 (by decide) ?_
  refine lv_iadd hx hb dL_law_523 ?_
  refine lw_ld (k := 7 * j + 5) hx hb hXs hbl hbA hC1.2.2 (nI_add (7 * j) 5) (by omega) hL dL_law_524 ?_
  refine lm_calli [.int (xs (7 * j + 1)), .int (xs (7 * j + 2)), .int (xs (7 * j + 3)), .int (xs (7 * j + 4)), .int (xs (7 * j + 5))] (rest := []) hXm hCm (ct_begin l M (xs (7 * j + 1)) (xs (7 * j + 2)) (xs (7 * j + 3)) (xs (7 * j + 4)) (xs (7 * j + 5)) PM hm Em _) (cwV 5 hts (gd_V wd_1998 wd_1999 wd_2000 wd_15 wd_2001) rfl rfl rfl (by decide +kernel) ⟨Nat.le_of_ble_eq_true rfl, Nat.le_of_ble_eq_true rfl⟩) rfl hl.1 (Nat.le_of_ble_eq_true rfl) ⟨by show cells + (cnt S1 - cnt S) ≤ 601024; omega, by show slots + 20 * (cnt S1 - cnt S) ≤ 7293034; omega⟩ dL_law_525 (fun r1 M1 H2 locs2 hCm1 hz2 hk2 hD2 hp1 => ?_)
  have hB2 := keepB (D := E.1) hC1.1 (Apart_symm hB.2) hk2 hD2
  have hC2 : cM E A s.heap S1 H2 locs2 := ⟨hB2.1, hC1.2.1, hCm1.2.2⟩
  refine lv_pop hx hb dL_law_528 rfl ?_
  refine lv_goto (tgt := 947) hx hb dL_law_529 (by decide) ?_
  exact kk S1 M1 r r1 H2 locs2 ls hp hp1 hn1 hn2 hC2 hCm1 (Apart_symm hB2.2) hl
set_option maxHeartbeats 4000000 in
set_option maxRecDepth 100000 in
theorem lo_turn {p : Program} {l : Launch} {e : Env} {s : State} {m : MethodId} {below : List Frame} {meth : Method} {c : Code} {b L : Nat} {xs : Nat → Int32} {A : Nat → Prop} {E : kE} {Em : mE} {S : kS} {M : mS} {H : Heap} {locs : List Loc} {ls : Array Slot} {x oq j cells slots : Nat} {Q : State → Prop} (C0 : lw_At p s m meth c b L xs) (hbA : ¬ A b) (hL : L ≤ 3584) (hj : 7 * j + 7 ≤ L) (hX : kX RL p s m #[Value.ref b] c code 7 E A) (hXm : mXo RL p s m #[Value.ref b] c code 7 Em A) (hC : cM E A s.heap S H locs) (hCm : mC Em A s.heap M H locs) (hap : Apart (cW E S) (mW Em M)) (hl : lv_has ls 7 [(0, .ref b), (1, .ref x), (2, .ref Em.2.1), (3, .ref oq), (4, .int (nI (7 * j)))]) (hcs : cells + 105000 ≤ 601024 ∧ slots + 2100000 ≤ 7293034) {PK : kS → Int32 → Prop} {PM : mS → Int32 → Prop} (ho : hasO S x 11) (h : wp_X11_turn x (xs (7 * j + 1)) S PK) (hm : wp_turn (xs (7 * j + 1)) M PM)
    (kk : ∀ (S1 : kS) (M1 : mS) (r r1 : Int32) (H1 : Heap) (locs1 : List Loc) (ls1 : Array Slot), PK S1 r → PM M1 r1 → cnt S ≤ cnt S1 → cnt S1 ≤ cnt S + 4000 → cM E A s.heap S1 H1 locs1 → mC Em A s.heap M1 H1 locs1 → Apart (cW E S1) (mW Em M1) → lv_has ls1 7 [(0, .ref b), (1, .ref x), (2, .ref Em.2.1), (3, .ref oq), (4, .int (nI (7 * j)))] → W p l e room_1 s m #[Value.ref b] below meth c H1 locs1 (cells + (cnt S1 - cnt S)) (slots + 20 * (cnt S1 - cnt S)) Q (F0 m 947 ls1 [])) : W p l e room_1 s m #[Value.ref b] below meth c H locs cells slots Q (F0 m 532 ls []) := by
  obtain ⟨hx, hb, hr, hml, hown, hts0, hXs, hbl, hlocks, hgv⟩ := C0
  have hts : ∀ w ∈ tb, w.before _ s = true := fun w h => hts0 w (List.mem_filter.mp h).1
  refine lv_aload_n hx hb dL_law_532 rfl (lv_at hl 1 rfl) ?_
  refine lv_aload_n hx hb dL_law_533 rfl (lv_at hl 0 rfl) ?_
  refine lv_iload hx hb dL_law_534 (lv_at hl 4 rfl) ?_
  refine lv_iconst (v := 1) hx hb dL_law_536 (by decide) ?_
  refine lv_iadd hx hb dL_law_537 ?_
  refine lw_ld (k := 7 * j + 1) hx hb hXs hbl hbA hC.2.2 (nI_add (7 * j) 1) (by omega) hL dL_law_538 ?_
  refine ln_calli [.int (xs (7 * j + 1))] (a := x) (ci := 11) (rest := []) rfl hX hC ho (kt_X11_turn l S x (xs (7 * j + 1)) PK h E _) (cwV 1 hts (gd_V wd_957 wd_958 wd_959 wd_1 wd_960) rfl rfl rfl (by decide +kernel) ⟨Nat.le_of_ble_eq_true rfl, Nat.le_of_ble_eq_true rfl⟩) rfl hl.1 (Nat.le_of_ble_eq_true rfl) ⟨by show cells + 4000 ≤ 601024; omega, by show slots + 20 * 4000 ≤ 7293034; omega⟩ dL_law_539 (fun r S1 H1 locs1 hC1 hz hk hD1 hn1 hn2 hp => ?_)
  have hB := keepB (D := Em.1) hCm.1 hap hk hD1
  replace hCm : mC Em A s.heap M H1 locs1 := ⟨hB.1, hCm.2.1, hC1.2.2⟩
  refine lv_pop hx hb dL_law_542 rfl ?_
  refine lv_aload_n hx hb dL_law_543 rfl (lv_at hl 2 rfl) ?_
  refine lv_aload_n hx hb dL_law_544 rfl (lv_at hl 0 rfl) ?_
  refine lv_iload hx hb dL_law_545 (lv_at hl 4 rfl) ?_
  refine lv_iconst (v := 1) hx hb dL_law_547 (by decide) ?_
  refine lv_iadd hx hb dL_law_548 ?_
  refine lw_ld (k := 7 * j + 1) hx hb hXs hbl hbA hC1.2.2 (nI_add (7 * j) 1) (by omega) hL dL_law_549 ?_
  refine lm_calli [.int (xs (7 * j + 1))] (rest := []) hXm hCm (ct_turn l M (xs (7 * j + 1)) PM hm Em _) (cwV 1 hts (gd_V wd_2046 wd_2047 wd_2048 wd_15 wd_2049) rfl rfl rfl (by decide +kernel) ⟨Nat.le_of_ble_eq_true rfl, Nat.le_of_ble_eq_true rfl⟩) rfl hl.1 (Nat.le_of_ble_eq_true rfl) ⟨by show cells + (cnt S1 - cnt S) ≤ 601024; omega, by show slots + 20 * (cnt S1 - cnt S) ≤ 7293034; omega⟩ dL_law_550 (fun r1 M1 H2 locs2 hCm1 hz2 hk2 hD2 hp1 => ?_)
  have hB2 := keepB (D := E.1) hC1.1 (Apart_symm hB.2) hk2 hD2
  have hC2 : cM E A s.heap S1 H2 locs2 := ⟨hB2.1, hC1.2.1, hCm1.2.2⟩
  refine lv_pop hx hb dL_law_553 rfl ?_
  refine lv_goto (tgt := 947) hx hb dL_law_554 (by decide) ?_
  exact kk S1 M1 r r1 H2 locs2 ls hp hp1 hn1 hn2 hC2 hCm1 (Apart_symm hB2.2) hl
set_option maxHeartbeats 4000000 in
set_option maxRecDepth 100000 in
theorem lo_rounds {p : Program} {l : Launch} {e : Env} {s : State} {m : MethodId} {below : List Frame} {meth : Method} {c : Code} {b L : Nat} {xs : Nat → Int32} {A : Nat → Prop} {E : kE} {Em : mE} {S : kS} {M : mS} {H : Heap} {locs : List Loc} {ls : Array Slot} {x oq j cells slots : Nat} {Q : State → Prop} (C0 : lw_At p s m meth c b L xs) (hbA : ¬ A b) (hL : L ≤ 3584) (hj : 7 * j + 7 ≤ L) (hX : kX RL p s m #[Value.ref b] c code 7 E A) (hXm : mXo RL p s m #[Value.ref b] c code 7 Em A) (hC : cM E A s.heap S H locs) (hCm : mC Em A s.heap M H locs) (hap : Apart (cW E S) (mW Em M)) (hl : lv_has ls 7 [(0, .ref b), (1, .ref x), (2, .ref Em.2.1), (3, .ref oq), (4, .int (nI (7 * j)))]) (hcs : cells + 105000 ≤ 601024 ∧ slots + 2100000 ≤ 7293034) {PK : kS → Int32 → Prop} {PM : mS → Int32 → Prop} (ho : hasO S x 11) (h : wp_X11_rounds x (xs (7 * j + 1)) S PK) (hm : wp_rounds (xs (7 * j + 1)) M PM)
    (kk : ∀ (S1 : kS) (M1 : mS) (r r1 : Int32) (H1 : Heap) (locs1 : List Loc) (ls1 : Array Slot), PK S1 r → PM M1 r1 → cnt S ≤ cnt S1 → cnt S1 ≤ cnt S + 105000 → cM E A s.heap S1 H1 locs1 → mC Em A s.heap M1 H1 locs1 → Apart (cW E S1) (mW Em M1) → lv_has ls1 7 [(0, .ref b), (1, .ref x), (2, .ref Em.2.1), (3, .ref oq), (4, .int (nI (7 * j)))] → W p l e room_1 s m #[Value.ref b] below meth c H1 locs1 (cells + (cnt S1 - cnt S)) (slots + 20 * (cnt S1 - cnt S)) Q (F0 m 947 ls1 [])) : W p l e room_1 s m #[Value.ref b] below meth c H locs cells slots Q (F0 m 557 ls []) := by
  obtain ⟨hx, hb, hr, hml, hown, hts0, hXs, hbl, hlocks, hgv⟩ := C0
  have hts : ∀ w ∈ tb, w.before _ s = true := fun w h => hts0 w (List.mem_filter.mp h).1
  refine lv_aload_n hx hb dL_law_557 rfl (lv_at hl 1 rfl) ?_
  refine lv_aload_n hx hb dL_law_558 rfl (lv_at hl 0 rfl) ?_
  refine lv_iload hx hb dL_law_559 (lv_at hl 4 rfl) ?_
  refine lv_iconst (v := 1) hx hb dL_law_561 (by decide) ?_
  refine lv_iadd hx hb dL_law_562 ?_
  refine lw_ld (k := 7 * j + 1) hx hb hXs hbl hbA hC.2.2 (nI_add (7 * j) 1) (by omega) hL dL_law_563 ?_
  refine ln_calli [.int (xs (7 * j + 1))] (a := x) (ci := 11) (rest := []) rfl hX hC ho (kt_X11_rounds l S x (xs (7 * j + 1)) PK h E _) (cwV 1 hts (gd_V wd_1212 wd_1213 wd_1214 wd_1 wd_1215) rfl rfl rfl (by decide +kernel) ⟨Nat.le_of_ble_eq_true rfl, Nat.le_of_ble_eq_true rfl⟩) rfl hl.1 (Nat.le_of_ble_eq_true rfl) ⟨by show cells + 105000 ≤ 601024; omega, by show slots + 20 * 105000 ≤ 7293034; omega⟩ dL_law_564 (fun r S1 H1 locs1 hC1 hz hk hD1 hn1 hn2 hp => ?_)
  have hB := keepB (D := Em.1) hCm.1 hap hk hD1
  replace hCm : mC Em A s.heap M H1 locs1 := ⟨hB.1, hCm.2.1, hC1.2.2⟩
  refine lv_pop hx hb dL_law_567 rfl ?_
  refine lv_aload_n hx hb dL_law_568 rfl (lv_at hl 2 rfl) ?_
  refine lv_aload_n hx hb dL_law_569 rfl (lv_at hl 0 rfl) ?_
  refine lv_iload hx hb dL_law_570 (lv_at hl 4 rfl) ?_
  refine lv_iconst (v := 1) hx hb dL_law_572 (by decide) ?_
  refine lv_iadd hx hb dL_law_573 ?_
  refine lw_ld (k := 7 * j + 1) hx hb hXs hbl hbA hC1.2.2 (nI_add (7 * j) 1) (by omega) hL dL_law_574 ?_
  refine lm_calli [.int (xs (7 * j + 1))] (rest := []) hXm hCm (ct_rounds l M (xs (7 * j + 1)) PM hm Em _) (cwV 1 hts (gd_V wd_2143 wd_2144 wd_2145 wd_15 wd_2146) rfl rfl rfl (by decide +kernel) ⟨Nat.le_of_ble_eq_true rfl, Nat.le_of_ble_eq_true rfl⟩) rfl hl.1 (Nat.le_of_ble_eq_true rfl) ⟨by show cells + (cnt S1 - cnt S) ≤ 601024; omega, by show slots + 20 * (cnt S1 - cnt S) ≤ 7293034; omega⟩ dL_law_575 (fun r1 M1 H2 locs2 hCm1 hz2 hk2 hD2 hp1 => ?_)
  have hB2 := keepB (D := E.1) hC1.1 (Apart_symm hB.2) hk2 hD2
  have hC2 : cM E A s.heap S1 H2 locs2 := ⟨hB2.1, hC1.2.1, hCm1.2.2⟩
  refine lv_pop hx hb dL_law_578 rfl ?_
  refine lv_goto (tgt := 947) hx hb dL_law_579 (by decide) ?_
  exact kk S1 M1 r r1 H2 locs2 ls hp hp1 hn1 hn2 hC2 hCm1 (Apart_symm hB2.2) hl
set_option maxHeartbeats 4000000 in
set_option maxRecDepth 100000 in
theorem lo_letter {p : Program} {l : Launch} {e : Env} {s : State} {m : MethodId} {below : List Frame} {meth : Method} {c : Code} {b L : Nat} {xs : Nat → Int32} {A : Nat → Prop} {E : kE} {Em : mE} {S : kS} {M : mS} {H : Heap} {locs : List Loc} {ls : Array Slot} {x oq j cells slots : Nat} {Q : State → Prop} (C0 : lw_At p s m meth c b L xs) (hbA : ¬ A b) (hL : L ≤ 3584) (hj : 7 * j + 7 ≤ L) (hX : kX RL p s m #[Value.ref b] c code 7 E A) (hXm : mXo RL p s m #[Value.ref b] c code 7 Em A) (hC : cM E A s.heap S H locs) (hCm : mC Em A s.heap M H locs) (hap : Apart (cW E S) (mW Em M)) (hl : lv_has ls 7 [(0, .ref b), (1, .ref x), (2, .ref Em.2.1), (3, .ref oq), (4, .int (nI (7 * j)))]) (hcs : cells + 105000 ≤ 601024 ∧ slots + 2100000 ≤ 7293034) {PK : kS → Int32 → Prop} {PM : mS → Int32 → Prop} (ho : hasO S x 11) (h : wp_X11_letter x (xs (7 * j + 1)) (xs (7 * j + 2)) S PK) (hm : wp_letter (xs (7 * j + 1)) (xs (7 * j + 2)) M PM)
    (kk : ∀ (S1 : kS) (M1 : mS) (r r1 : Int32) (H1 : Heap) (locs1 : List Loc) (ls1 : Array Slot), PK S1 r → PM M1 r1 → cM E A s.heap S1 H1 locs1 → mC Em A s.heap M1 H1 locs1 → Apart (cW E S1) (mW Em M1) → lv_has ls1 7 [(0, .ref b), (1, .ref x), (2, .ref Em.2.1), (3, .ref oq), (4, .int (nI (7 * j)))] → W p l e room_1 s m #[Value.ref b] below meth c H1 locs1 (cells) (slots) Q (F0 m 947 ls1 [])) : W p l e room_1 s m #[Value.ref b] below meth c H locs cells slots Q (F0 m 582 ls []) := by
  obtain ⟨hx, hb, hr, hml, hown, hts0, hXs, hbl, hlocks, hgv⟩ := C0
  have hts : ∀ w ∈ tb, w.before _ s = true := fun w h => hts0 w (List.mem_filter.mp h).1
  refine lv_aload_n hx hb dL_law_582 rfl (lv_at hl 1 rfl) ?_
  refine lv_aload_n hx hb dL_law_583 rfl (lv_at hl 0 rfl) ?_
  refine lv_iload hx hb dL_law_584 (lv_at hl 4 rfl) ?_
  refine lv_iconst (v := 1) hx hb dL_law_586 (by decide) ?_
  refine lv_iadd hx hb dL_law_587 ?_
  refine lw_ld (k := 7 * j + 1) hx hb hXs hbl hbA hC.2.2 (nI_add (7 * j) 1) (by omega) hL dL_law_588 ?_
  refine lv_aload_n hx hb dL_law_589 rfl (lv_at hl 0 rfl) ?_
  refine lv_iload hx hb dL_law_590 (lv_at hl 4 rfl) ?_
  refine lv_iconst (v := 2) hx hb dL_law_592 (by decide) ?_
  refine lv_iadd hx hb dL_law_593 ?_
  refine lw_ld (k := 7 * j + 2) hx hb hXs hbl hbA hC.2.2 (nI_add (7 * j) 2) (by omega) hL dL_law_594 ?_
  refine lk_calli [.int (xs (7 * j + 1)), .int (xs (7 * j + 2))] (a := x) (ci := 11) (rest := []) rfl hX hC ho (kt_X11_letter l S x (xs (7 * j + 1)) (xs (7 * j + 2)) PK h E _) (cwV 2 hts (gd_V wd_1216 wd_1217 wd_1218 wd_1 wd_1219) rfl rfl rfl (by decide +kernel) ⟨Nat.le_of_ble_eq_true rfl, Nat.le_of_ble_eq_true rfl⟩) rfl hl.1 (Nat.le_of_ble_eq_true rfl) ⟨by show cells ≤ 601024; omega, by show slots ≤ 7293034; omega⟩ dL_law_595 (fun r S1 H1 locs1 hC1 hz hk hD1 hp => ?_)
  have hB := keepB (D := Em.1) hCm.1 hap hk hD1
  replace hCm : mC Em A s.heap M H1 locs1 := ⟨hB.1, hCm.2.1, hC1.2.2⟩
  refine lv_pop hx hb dL_law_598 rfl ?_
  refine lv_aload_n hx hb dL_law_599 rfl (lv_at hl 2 rfl) ?_
  refine lv_aload_n hx hb dL_law_600 rfl (lv_at hl 0 rfl) ?_
  refine lv_iload hx hb dL_law_601 (lv_at hl 4 rfl) ?_
  refine lv_iconst (v := 1) hx hb dL_law_603 (by decide) ?_
  refine lv_iadd hx hb dL_law_604 ?_
  refine lw_ld (k := 7 * j + 1) hx hb hXs hbl hbA hC1.2.2 (nI_add (7 * j) 1) (by omega) hL dL_law_605 ?_
  refine lv_aload_n hx hb dL_law_606 rfl (lv_at hl 0 rfl) ?_
  refine lv_iload hx hb dL_law_607 (lv_at hl 4 rfl) ?_
  refine lv_iconst (v := 2) hx hb dL_law_609 (by decide) ?_
  refine lv_iadd hx hb dL_law_610 ?_
  refine lw_ld (k := 7 * j + 2) hx hb hXs hbl hbA hC1.2.2 (nI_add (7 * j) 2) (by omega) hL dL_law_611 ?_
  refine lm_calli [.int (xs (7 * j + 1)), .int (xs (7 * j + 2))] (rest := []) hXm hCm (ct_letter l M (xs (7 * j + 1)) (xs (7 * j + 2)) PM hm Em _) (cwV 2 hts (gd_V wd_2147 wd_2148 wd_2149 wd_15 wd_2150) rfl rfl rfl (by decide +kernel) ⟨Nat.le_of_ble_eq_true rfl, Nat.le_of_ble_eq_true rfl⟩) rfl hl.1 (Nat.le_of_ble_eq_true rfl) ⟨by show cells ≤ 601024; omega, by show slots ≤ 7293034; omega⟩ dL_law_612 (fun r1 M1 H2 locs2 hCm1 hz2 hk2 hD2 hp1 => ?_)
  have hB2 := keepB (D := E.1) hC1.1 (Apart_symm hB.2) hk2 hD2
  have hC2 : cM E A s.heap S1 H2 locs2 := ⟨hB2.1, hC1.2.1, hCm1.2.2⟩
  refine lv_pop hx hb dL_law_615 rfl ?_
  refine lv_goto (tgt := 947) hx hb dL_law_616 (by decide) ?_
  exact kk S1 M1 r r1 H2 locs2 ls hp hp1 hC2 hCm1 (Apart_symm hB2.2) hl
