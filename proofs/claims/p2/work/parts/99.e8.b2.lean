theorem wd_1224 : (Jvm.Cond.methodLink "SleepersLaw" (74 : Nat) ({ cls := "Sleepers", name := "tick", desc := "(I)I" } : Jvm.MethodName)) ∈ tb := tb_at 1224 (by decide +kernel) (by decide +kernel)
theorem wd_1225 : (Jvm.Cond.instanceMethod ({ cls := "Sleepers", name := "tick", desc := "(I)I" } : Jvm.MethodName)) ∈ tb := tb_at 1225 (by decide +kernel) (by decide +kernel)
theorem wd_1226 : (Jvm.Cond.selects "Sleepers" ({ cls := "Sleepers", name := "tick", desc := "(I)I" } : Jvm.MethodName) ({ cls := "Sleepers", name := "tick", desc := "(I)I" } : Jvm.MethodName)) ∈ tb := tb_at 1226 (by decide +kernel) (by decide +kernel)
theorem wd_1227 : (Jvm.Cond.code ({ cls := "Sleepers", name := "tick", desc := "(I)I" } : Jvm.MethodName) prog_1_method_12_code (2 : Nat) (Option.some Jvm.ClassFile.FieldType.int)) ∈ tb := tb_at 1227 (by decide +kernel) (by decide +kernel)
theorem wd_1232 : (Jvm.Cond.methodLink "SleepersLaw" (78 : Nat) ({ cls := "Sleepers", name := "cancel", desc := "(I)Z" } : Jvm.MethodName)) ∈ tb := tb_at 1232 (by decide +kernel) (by decide +kernel)
theorem wd_1233 : (Jvm.Cond.instanceMethod ({ cls := "Sleepers", name := "cancel", desc := "(I)Z" } : Jvm.MethodName)) ∈ tb := tb_at 1233 (by decide +kernel) (by decide +kernel)
theorem wd_1234 : (Jvm.Cond.selects "Sleepers" ({ cls := "Sleepers", name := "cancel", desc := "(I)Z" } : Jvm.MethodName) ({ cls := "Sleepers", name := "cancel", desc := "(I)Z" } : Jvm.MethodName)) ∈ tb := tb_at 1234 (by decide +kernel) (by decide +kernel)
theorem wd_1235 : (Jvm.Cond.code ({ cls := "Sleepers", name := "cancel", desc := "(I)Z" } : Jvm.MethodName) prog_1_method_13_code (2 : Nat) (Option.some Jvm.ClassFile.FieldType.boolean)) ∈ tb := tb_at 1235 (by decide +kernel) (by decide +kernel)
theorem wd_1244 : (Jvm.Cond.methodLink "SleepersLaw" (89 : Nat) ({ cls := "Sleepers", name := "row", desc := "(I)I" } : Jvm.MethodName)) ∈ tb := tb_at 1244 (by decide +kernel) (by decide +kernel)
theorem wd_1245 : (Jvm.Cond.instanceMethod ({ cls := "Sleepers", name := "row", desc := "(I)I" } : Jvm.MethodName)) ∈ tb := tb_at 1245 (by decide +kernel) (by decide +kernel)
theorem wd_1246 : (Jvm.Cond.selects "Sleepers" ({ cls := "Sleepers", name := "row", desc := "(I)I" } : Jvm.MethodName) ({ cls := "Sleepers", name := "row", desc := "(I)I" } : Jvm.MethodName)) ∈ tb := tb_at 1246 (by decide +kernel) (by decide +kernel)
theorem wd_1247 : (Jvm.Cond.code ({ cls := "Sleepers", name := "row", desc := "(I)I" } : Jvm.MethodName) prog_1_method_16_code (2 : Nat) (Option.some Jvm.ClassFile.FieldType.int)) ∈ tb := tb_at 1247 (by decide +kernel) (by decide +kernel)
theorem wd_1353 : (Jvm.Cond.methodLink "SleepersLaw" (83 : Nat) ({ cls := "SleepersLaw", name := "task", desc := "(LSleepers;II[J)I" } : Jvm.MethodName)) ∈ tb := tb_at 1353 (by decide +kernel) (by decide +kernel)
theorem wd_1354 : (Jvm.Cond.static ({ cls := "SleepersLaw", name := "task", desc := "(LSleepers;II[J)I" } : Jvm.MethodName)) ∈ tb := tb_at 1354 (by decide +kernel) (by decide +kernel)
theorem wd_1355 : (Jvm.Cond.codeWith ({ cls := "SleepersLaw", name := "task", desc := "(LSleepers;II[J)I" } : Jvm.MethodName) method_4_code (5 : Nat) (Option.some Jvm.ClassFile.FieldType.int) [((0 : Nat), (10 : Nat), (13 : Nat), (13 : Nat))]) ∈ tb := tb_at 1355 (by decide +kernel) (by decide +kernel)
theorem wd_1366 : (Jvm.Cond.methodLink "SleepersLaw" (86 : Nat) ({ cls := "SleepersLaw", name := "cell", desc := "(LSleepers;II[J)I" } : Jvm.MethodName)) ∈ tb := tb_at 1366 (by decide +kernel) (by decide +kernel)
theorem wd_1367 : (Jvm.Cond.static ({ cls := "SleepersLaw", name := "cell", desc := "(LSleepers;II[J)I" } : Jvm.MethodName)) ∈ tb := tb_at 1367 (by decide +kernel) (by decide +kernel)
theorem wd_1368 : (Jvm.Cond.codeWith ({ cls := "SleepersLaw", name := "cell", desc := "(LSleepers;II[J)I" } : Jvm.MethodName) method_5_code (5 : Nat) (Option.some Jvm.ClassFile.FieldType.int) [((0 : Nat), (10 : Nat), (13 : Nat), (13 : Nat))]) ∈ tb := tb_at 1368 (by decide +kernel) (by decide +kernel)
theorem wd_2010 : (Jvm.Cond.methodLink "SleepersLaw" (82 : Nat) ({ cls := "SleepersModel", name := "cancel", desc := "(I)Z" } : Jvm.MethodName)) ∈ tb := tb_at 2010 (by decide +kernel) (by decide +kernel)
theorem wd_2011 : (Jvm.Cond.instanceMethod ({ cls := "SleepersModel", name := "cancel", desc := "(I)Z" } : Jvm.MethodName)) ∈ tb := tb_at 2011 (by decide +kernel) (by decide +kernel)
theorem wd_2012 : (Jvm.Cond.selects "SleepersModel" ({ cls := "SleepersModel", name := "cancel", desc := "(I)Z" } : Jvm.MethodName) ({ cls := "SleepersModel", name := "cancel", desc := "(I)Z" } : Jvm.MethodName)) ∈ tb := tb_at 2012 (by decide +kernel) (by decide +kernel)
theorem wd_2013 : (Jvm.Cond.code ({ cls := "SleepersModel", name := "cancel", desc := "(I)Z" } : Jvm.MethodName) prog_14_method_71_code (2 : Nat) (Option.some Jvm.ClassFile.FieldType.boolean)) ∈ tb := tb_at 2013 (by decide +kernel) (by decide +kernel)
theorem wd_2151 : (Jvm.Cond.methodLink "SleepersLaw" (77 : Nat) ({ cls := "SleepersModel", name := "tick", desc := "(I)I" } : Jvm.MethodName)) ∈ tb := tb_at 2151 (by decide +kernel) (by decide +kernel)
theorem wd_2152 : (Jvm.Cond.instanceMethod ({ cls := "SleepersModel", name := "tick", desc := "(I)I" } : Jvm.MethodName)) ∈ tb := tb_at 2152 (by decide +kernel) (by decide +kernel)
theorem wd_2153 : (Jvm.Cond.selects "SleepersModel" ({ cls := "SleepersModel", name := "tick", desc := "(I)I" } : Jvm.MethodName) ({ cls := "SleepersModel", name := "tick", desc := "(I)I" } : Jvm.MethodName)) ∈ tb := tb_at 2153 (by decide +kernel) (by decide +kernel)
theorem wd_2154 : (Jvm.Cond.code ({ cls := "SleepersModel", name := "tick", desc := "(I)I" } : Jvm.MethodName) prog_14_method_99_code (7 : Nat) (Option.some Jvm.ClassFile.FieldType.int)) ∈ tb := tb_at 2154 (by decide +kernel) (by decide +kernel)
theorem wd_2159 : (Jvm.Cond.methodLink "SleepersLaw" (85 : Nat) ({ cls := "SleepersModel", name := "task", desc := "(II)I" } : Jvm.MethodName)) ∈ tb := tb_at 2159 (by decide +kernel) (by decide +kernel)
theorem wd_2160 : (Jvm.Cond.instanceMethod ({ cls := "SleepersModel", name := "task", desc := "(II)I" } : Jvm.MethodName)) ∈ tb := tb_at 2160 (by decide +kernel) (by decide +kernel)
theorem wd_2161 : (Jvm.Cond.selects "SleepersModel" ({ cls := "SleepersModel", name := "task", desc := "(II)I" } : Jvm.MethodName) ({ cls := "SleepersModel", name := "task", desc := "(II)I" } : Jvm.MethodName)) ∈ tb := tb_at 2161 (by decide +kernel) (by decide +kernel)
theorem wd_2162 : (Jvm.Cond.code ({ cls := "SleepersModel", name := "task", desc := "(II)I" } : Jvm.MethodName) prog_14_method_101_code (3 : Nat) (Option.some Jvm.ClassFile.FieldType.int)) ∈ tb := tb_at 2162 (by decide +kernel) (by decide +kernel)
theorem wd_2167 : (Jvm.Cond.methodLink "SleepersLaw" (88 : Nat) ({ cls := "SleepersModel", name := "cell", desc := "(II)I" } : Jvm.MethodName)) ∈ tb := tb_at 2167 (by decide +kernel) (by decide +kernel)
theorem wd_2168 : (Jvm.Cond.instanceMethod ({ cls := "SleepersModel", name := "cell", desc := "(II)I" } : Jvm.MethodName)) ∈ tb := tb_at 2168 (by decide +kernel) (by decide +kernel)
theorem wd_2169 : (Jvm.Cond.selects "SleepersModel" ({ cls := "SleepersModel", name := "cell", desc := "(II)I" } : Jvm.MethodName) ({ cls := "SleepersModel", name := "cell", desc := "(II)I" } : Jvm.MethodName)) ∈ tb := tb_at 2169 (by decide +kernel) (by decide +kernel)
theorem wd_2170 : (Jvm.Cond.code ({ cls := "SleepersModel", name := "cell", desc := "(II)I" } : Jvm.MethodName) prog_14_method_102_code (3 : Nat) (Option.some Jvm.ClassFile.FieldType.int)) ∈ tb := tb_at 2170 (by decide +kernel) (by decide +kernel)
theorem wd_2171 : (Jvm.Cond.methodLink "SleepersLaw" (92 : Nat) ({ cls := "SleepersModel", name := "row", desc := "(I)I" } : Jvm.MethodName)) ∈ tb := tb_at 2171 (by decide +kernel) (by decide +kernel)
theorem wd_2172 : (Jvm.Cond.instanceMethod ({ cls := "SleepersModel", name := "row", desc := "(I)I" } : Jvm.MethodName)) ∈ tb := tb_at 2172 (by decide +kernel) (by decide +kernel)
theorem wd_2173 : (Jvm.Cond.selects "SleepersModel" ({ cls := "SleepersModel", name := "row", desc := "(I)I" } : Jvm.MethodName) ({ cls := "SleepersModel", name := "row", desc := "(I)I" } : Jvm.MethodName)) ∈ tb := tb_at 2173 (by decide +kernel) (by decide +kernel)
theorem wd_2174 : (Jvm.Cond.code ({ cls := "SleepersModel", name := "row", desc := "(I)I" } : Jvm.MethodName) prog_14_method_103_code (2 : Nat) (Option.some Jvm.ClassFile.FieldType.int)) ∈ tb := tb_at 2174 (by decide +kernel) (by decide +kernel)
set_option maxHeartbeats 4000000 in
set_option maxRecDepth 100000 in
theorem lo_tick {p : Program} {l : Launch} {e : Env} {s : State} {m : MethodId} {below : List Frame} {meth : Method} {c : Code} {b L : Nat} {xs : Nat → Int32} {A : Nat → Prop} {E : kE} {Em : mE} {S : kS} {M : mS} {H : Heap} {locs : List Loc} {ls : Array Slot} {x oq j cells slots : Nat} {Q : State → Prop} (C0 : lw_At p s m meth c b L xs) (hbA : ¬ A b) (hL : L ≤ 3584) (hj : 7 * j + 7 ≤ L) (hX : kX RL p s m #[Value.ref b] c code 7 E A) (hXm : mXo RL p s m #[Value.ref b] c code 7 Em A) (hC : cM E A s.heap S H locs) (hCm : mC Em A s.heap M H locs) (hap : Apart (cW E S) (mW Em M)) (hl : lv_has ls 7 [(0, .ref b), (1, .ref x), (2, .ref Em.2.1), (3, .ref oq), (4, .int (nI (7 * j)))]) (hcs : cells + 105000 ≤ 601024 ∧ slots + 2100000 ≤ 7293034) {PK : kS → Int32 → Prop} {PM : mS → Int32 → Prop} (ho : hasO S x 11) (h : wp_X11_tick x (xs (7 * j + 1)) S PK) (hm : wp_tick (xs (7 * j + 1)) M PM)
    (kk : ∀ (S1 : kS) (M1 : mS) (r r1 : Int32) (H1 : Heap) (locs1 : List Loc) (ls1 : Array Slot), PK S1 r → PM M1 r1 → cM E A s.heap S1 H1 locs1 → mC Em A s.heap M1 H1 locs1 → Apart (cW E S1) (mW Em M1) → lv_has ls1 7 [(0, .ref b), (1, .ref x), (2, .ref Em.2.1), (3, .ref oq), (4, .int (nI (7 * j)))] → W p l e room_1 s m #[Value.ref b] below meth c H1 locs1 (cells) (slots) Q (F0 m 947 ls1 [])) : W p l e room_1 s m #[Value.ref b] below meth c H locs cells slots Q (F0 m 619 ls []) := by
  obtain ⟨hx, hb, hr, hml, hown, hts0, hXs, hbl, hlocks, hgv⟩ := C0
  have hts : ∀ w ∈ tb, w.before _ s = true := fun w h => hts0 w (List.mem_filter.mp h).1
  refine lv_aload_n hx hb dL_law_619 rfl (lv_at hl 1 rfl) ?_
  refine lv_aload_n hx hb dL_law_620 rfl (lv_at hl 0 rfl) ?_
  refine lv_iload hx hb dL_law_621 (lv_at hl 4 rfl) ?_
  refine lv_iconst (v := 1) hx hb dL_law_623 (by decide) ?_
  refine lv_iadd hx hb dL_law_624 ?_
  refine lw_ld (k := 7 * j + 1) hx hb hXs hbl hbA hC.2.2 (nI_add (7 * j) 1) (by omega) hL dL_law_625 ?_
  refine lk_calli [.int (xs (7 * j + 1))] (a := x) (ci := 11) (rest := []) rfl hX hC ho (kt_X11_tick l S x (xs (7 * j + 1)) PK h E _) (cwV 1 hts (gd_V wd_1224 wd_1225 wd_1226 wd_1 wd_1227) rfl rfl rfl (by decide +kernel) ⟨Nat.le_of_ble_eq_true rfl, Nat.le_of_ble_eq_true rfl⟩) rfl hl.1 (Nat.le_of_ble_eq_true rfl) ⟨by show cells ≤ 601024; omega, by show slots ≤ 7293034; omega⟩ dL_law_626 (fun r S1 H1 locs1 hC1 hz hk hD1 hp => ?_)
  have hB := keepB (D := Em.1) hCm.1 hap hk hD1
  replace hCm : mC Em A s.heap M H1 locs1 := ⟨hB.1, hCm.2.1, hC1.2.2⟩
  refine lv_pop hx hb dL_law_629 rfl ?_
  refine lv_aload_n hx hb dL_law_630 rfl (lv_at hl 2 rfl) ?_
  refine lv_aload_n hx hb dL_law_631 rfl (lv_at hl 0 rfl) ?_
  refine lv_iload hx hb dL_law_632 (lv_at hl 4 rfl) ?_
  refine lv_iconst (v := 1) hx hb dL_law_634 (by decide) ?_
  refine lv_iadd hx hb dL_law_635 ?_
  refine lw_ld (k := 7 * j + 1) hx hb hXs hbl hbA hC1.2.2 (nI_add (7 * j) 1) (by omega) hL dL_law_636 ?_
  refine lm_calli [.int (xs (7 * j + 1))] (rest := []) hXm hCm (ct_tick l M (xs (7 * j + 1)) PM hm Em _) (cwV 1 hts (gd_V wd_2151 wd_2152 wd_2153 wd_15 wd_2154) rfl rfl rfl (by decide +kernel) ⟨Nat.le_of_ble_eq_true rfl, Nat.le_of_ble_eq_true rfl⟩) rfl hl.1 (Nat.le_of_ble_eq_true rfl) ⟨by show cells ≤ 601024; omega, by show slots ≤ 7293034; omega⟩ dL_law_637 (fun r1 M1 H2 locs2 hCm1 hz2 hk2 hD2 hp1 => ?_)
  have hB2 := keepB (D := E.1) hC1.1 (Apart_symm hB.2) hk2 hD2
  have hC2 : cM E A s.heap S1 H2 locs2 := ⟨hB2.1, hC1.2.1, hCm1.2.2⟩
  refine lv_pop hx hb dL_law_640 rfl ?_
  refine lv_goto (tgt := 947) hx hb dL_law_641 (by decide) ?_
  exact kk S1 M1 r r1 H2 locs2 ls hp hp1 hC2 hCm1 (Apart_symm hB2.2) hl
set_option maxHeartbeats 4000000 in
set_option maxRecDepth 100000 in
theorem lo_cancel {p : Program} {l : Launch} {e : Env} {s : State} {m : MethodId} {below : List Frame} {meth : Method} {c : Code} {b L : Nat} {xs : Nat → Int32} {A : Nat → Prop} {E : kE} {Em : mE} {S : kS} {M : mS} {H : Heap} {locs : List Loc} {ls : Array Slot} {x oq j cells slots : Nat} {Q : State → Prop} (C0 : lw_At p s m meth c b L xs) (hbA : ¬ A b) (hL : L ≤ 3584) (hj : 7 * j + 7 ≤ L) (hX : kX RL p s m #[Value.ref b] c code 7 E A) (hXm : mXo RL p s m #[Value.ref b] c code 7 Em A) (hC : cM E A s.heap S H locs) (hCm : mC Em A s.heap M H locs) (hap : Apart (cW E S) (mW Em M)) (hl : lv_has ls 7 [(0, .ref b), (1, .ref x), (2, .ref Em.2.1), (3, .ref oq), (4, .int (nI (7 * j)))]) (hcs : cells + 105000 ≤ 601024 ∧ slots + 2100000 ≤ 7293034) {PK : kS → Int32 → Prop} {PM : mS → Int32 → Prop} (ho : hasO S x 11) (h : wp_X11_cancel x (xs (7 * j + 1)) S PK) (hm : wp_cancel (xs (7 * j + 1)) M PM)
    (kk : ∀ (S1 : kS) (M1 : mS) (r r1 : Int32) (H1 : Heap) (locs1 : List Loc) (ls1 : Array Slot), PK S1 r → PM M1 r1 → cM E A s.heap S1 H1 locs1 → mC Em A s.heap M1 H1 locs1 → Apart (cW E S1) (mW Em M1) → lv_has ls1 7 [(0, .ref b), (1, .ref x), (2, .ref Em.2.1), (3, .ref oq), (4, .int (nI (7 * j)))] → W p l e room_1 s m #[Value.ref b] below meth c H1 locs1 (cells) (slots) Q (F0 m 947 ls1 [])) : W p l e room_1 s m #[Value.ref b] below meth c H locs cells slots Q (F0 m 644 ls []) := by
  obtain ⟨hx, hb, hr, hml, hown, hts0, hXs, hbl, hlocks, hgv⟩ := C0
  have hts : ∀ w ∈ tb, w.before _ s = true := fun w h => hts0 w (List.mem_filter.mp h).1
  refine lv_aload_n hx hb dL_law_644 rfl (lv_at hl 1 rfl) ?_
  refine lv_aload_n hx hb dL_law_645 rfl (lv_at hl 0 rfl) ?_
  refine lv_iload hx hb dL_law_646 (lv_at hl 4 rfl) ?_
  refine lv_iconst (v := 1) hx hb dL_law_648 (by decide) ?_
  refine lv_iadd hx hb dL_law_649 ?_
  refine lw_ld (k := 7 * j + 1) hx hb hXs hbl hbA hC.2.2 (nI_add (7 * j) 1) (by omega) hL dL_law_650 ?_
  refine lk_calli [.int (xs (7 * j + 1))] (a := x) (ci := 11) (rest := []) rfl hX hC ho (kt_X11_cancel l S x (xs (7 * j + 1)) PK h E _) (cwV 1 hts (gd_V wd_1232 wd_1233 wd_1234 wd_1 wd_1235) rfl rfl rfl (by decide +kernel) ⟨Nat.le_of_ble_eq_true rfl, Nat.le_of_ble_eq_true rfl⟩) rfl hl.1 (Nat.le_of_ble_eq_true rfl) ⟨by show cells ≤ 601024; omega, by show slots ≤ 7293034; omega⟩ dL_law_651 (fun r S1 H1 locs1 hC1 hz hk hD1 hp => ?_)
  have hB := keepB (D := Em.1) hCm.1 hap hk hD1
  replace hCm : mC Em A s.heap M H1 locs1 := ⟨hB.1, hCm.2.1, hC1.2.2⟩
  refine lv_pop hx hb dL_law_654 rfl ?_
  refine lv_aload_n hx hb dL_law_655 rfl (lv_at hl 2 rfl) ?_
  refine lv_aload_n hx hb dL_law_656 rfl (lv_at hl 0 rfl) ?_
  refine lv_iload hx hb dL_law_657 (lv_at hl 4 rfl) ?_
  refine lv_iconst (v := 1) hx hb dL_law_659 (by decide) ?_
  refine lv_iadd hx hb dL_law_660 ?_
  refine lw_ld (k := 7 * j + 1) hx hb hXs hbl hbA hC1.2.2 (nI_add (7 * j) 1) (by omega) hL dL_law_661 ?_
  refine lm_calli [.int (xs (7 * j + 1))] (rest := []) hXm hCm (ct_cancel l M (xs (7 * j + 1)) PM hm Em _) (cwV 1 hts (gd_V wd_2010 wd_2011 wd_2012 wd_15 wd_2013) rfl rfl rfl (by decide +kernel) ⟨Nat.le_of_ble_eq_true rfl, Nat.le_of_ble_eq_true rfl⟩) rfl hl.1 (Nat.le_of_ble_eq_true rfl) ⟨by show cells ≤ 601024; omega, by show slots ≤ 7293034; omega⟩ dL_law_662 (fun r1 M1 H2 locs2 hCm1 hz2 hk2 hD2 hp1 => ?_)
  have hB2 := keepB (D := E.1) hC1.1 (Apart_symm hB.2) hk2 hD2
  have hC2 : cM E A s.heap S1 H2 locs2 := ⟨hB2.1, hC1.2.1, hCm1.2.2⟩
  refine lv_pop hx hb dL_law_665 rfl ?_
  refine lv_goto (tgt := 947) hx hb dL_law_666 (by decide) ?_
  exact kk S1 M1 r r1 H2 locs2 ls hp hp1 hC2 hCm1 (Apart_symm hB2.2) hl
set_option maxHeartbeats 4000000 in
set_option maxRecDepth 100000 in
theorem lo_task {p : Program} {l : Launch} {e : Env} {s : State} {m : MethodId} {below : List Frame} {meth : Method} {c : Code} {b L : Nat} {xs : Nat → Int32} {A : Nat → Prop} {E : kE} {Em : mE} {S : kS} {M : mS} {H : Heap} {locs : List Loc} {ls : Array Slot} {x oq j cells slots : Nat} {Q : State → Prop} (hl9 : l.stackTraces = false) {z : Nat × Nat × Nat} (hV : vZ z A s s.heap) (C0 : lw_At p s m meth c b L xs) (hbA : ¬ A b) (hL : L ≤ 3584) (hj : 7 * j + 7 ≤ L) (hX : kX RL p s m #[Value.ref b] c code 7 E A) (hXm : mXo RL p s m #[Value.ref b] c code 7 Em A) (hC : cM E A s.heap S H locs) (hCm : mC Em A s.heap M H locs) (hap : Apart (cW E S) (mW Em M)) (hl : lv_has ls 7 [(0, .ref b), (1, .ref x), (2, .ref Em.2.1), (3, .ref oq), (4, .int (nI (7 * j)))]) (hcs : cells + 105000 ≤ 601024 ∧ slots + 2100000 ≤ 7293034) {PK : kS → Int32 → Prop} {PM : mS → Int32 → Prop} (ho : hasO S x 11) (h : wp_L_task x (xs (7 * j + 1)) (xs (7 * j + 2)) oq S PK) (hm : wp_task (xs (7 * j + 1)) (xs (7 * j + 2)) M PM)
    (kk : ∀ (S1 : kS) (M1 : mS) (r r1 : Int32) (H1 : Heap) (locs1 : List Loc) (ls1 : Array Slot), PK S1 r → PM M1 r1 → cM E A s.heap S1 H1 locs1 → mC Em A s.heap M1 H1 locs1 → Apart (cW E S1) (mW Em M1) → lv_has ls1 7 [(0, .ref b), (1, .ref x), (2, .ref Em.2.1), (3, .ref oq), (4, .int (nI (7 * j)))] → W p l e room_1 s m #[Value.ref b] below meth c H1 locs1 (cells + 1) (slots + 6) Q (F0 m 947 ls1 [])) : W p l e room_1 s m #[Value.ref b] below meth c H locs cells slots Q (F0 m 669 ls []) := by
  obtain ⟨hx, hb, hr, hml, hown, hts0, hXs, hbl, hlocks, hgv⟩ := C0
  have hts : ∀ w ∈ tb, w.before _ s = true := fun w h => hts0 w (List.mem_filter.mp h).1
  refine lv_aload_n hx hb dL_law_669 rfl (lv_at hl 1 rfl) ?_
  refine lv_aload_n hx hb dL_law_670 rfl (lv_at hl 0 rfl) ?_
  refine lv_iload hx hb dL_law_671 (lv_at hl 4 rfl) ?_
  refine lv_iconst (v := 1) hx hb dL_law_673 (by decide) ?_
  refine lv_iadd hx hb dL_law_674 ?_
  refine lw_ld (k := 7 * j + 1) hx hb hXs hbl hbA hC.2.2 (nI_add (7 * j) 1) (by omega) hL dL_law_675 ?_
  refine lv_aload_n hx hb dL_law_676 rfl (lv_at hl 0 rfl) ?_
  refine lv_iload hx hb dL_law_677 (lv_at hl 4 rfl) ?_
  refine lv_iconst (v := 2) hx hb dL_law_679 (by decide) ?_
  refine lv_iadd hx hb dL_law_680 ?_
  refine lw_ld (k := 7 * j + 2) hx hb hXs hbl hbA hC.2.2 (nI_add (7 * j) 2) (by omega) hL dL_law_681 ?_
  refine lv_aload_n hx hb dL_law_682 rfl (lv_at hl 3 rfl) ?_
  refine lh_calli [.ref x, .int (xs (7 * j + 1)), .int (xs (7 * j + 2)), .ref oq] (rest := []) hX hC hV (hp_task l hl9 z S x (xs (7 * j + 1)) (xs (7 * j + 2)) oq PK h E _) (vx_cwSW 4 hts (gd_S2 wd_1353 wd_1354 wd_0 wd_1355) rfl rfl rfl (by decide +kernel) ⟨Nat.le_of_ble_eq_true rfl, Nat.le_of_ble_eq_true rfl⟩) rfl hl.1 (Nat.le_of_ble_eq_true rfl) ⟨by show cells + 1 ≤ 601024; omega, by show slots + 6 ≤ 7293034; omega⟩ dL_law_683 (fun r S1 H1 locs1 hC1 hz hk hD1 hp => ?_)
  have hB := keepB (D := Em.1) hCm.1 hap hk hD1
  replace hCm : mC Em A s.heap M H1 locs1 := ⟨hB.1, hCm.2.1, hC1.2.2⟩
  refine lv_istore (lv' := [(5, .int r), (0, .ref b), (1, .ref x), (2, .ref Em.2.1), (3, .ref oq), (4, .int (nI (7 * j)))]) hx hb dL_law_686 hl (by decide) rfl (fun ls hl => ?_)
  refine lv_aload_n hx hb dL_law_688 rfl (lv_at hl 3 rfl) ?_
  refine lv_aload_n hx hb dL_law_689 rfl (lv_at hl 1 rfl) ?_
  refine lv_iload hx hb dL_law_690 (lv_at hl 5 rfl) ?_
  refine lv_iconst (v := 1) hx hb dL_law_692 (by decide) ?_
  refine lv_iadd hx hb dL_law_693 ?_
  refine lw_ld (k := 7 * j + 1) hx hb hXs hbl hbA hC1.2.2 (nI_add (7 * j) 1) (by omega) hL dL_law_694 ?_
  refine lv_aload_n hx hb dL_law_695 rfl (lv_at hl 1 rfl) ?_
  refine lv_iload hx hb dL_law_696 (lv_at hl 5 rfl) ?_
  refine lv_iconst (v := 2) hx hb dL_law_698 (by decide) ?_
  refine lv_iadd hx hb dL_law_699 ?_
  refine lw_ld (k := 7 * j + 2) hx hb hXs hbl hbA hC1.2.2 (nI_add (7 * j) 2) (by omega) hL dL_law_700 ?_
  refine lm_calli [.int (xs (7 * j + 1)), .int (xs (7 * j + 2))] (rest := []) hXm hCm (ct_task l M (xs (7 * j + 1)) (xs (7 * j + 2)) PM hm Em _) (cwV 2 hts (gd_V wd_2159 wd_2160 wd_2161 wd_15 wd_2162) rfl rfl rfl (by decide +kernel) ⟨Nat.le_of_ble_eq_true rfl, Nat.le_of_ble_eq_true rfl⟩) rfl hl.1 (Nat.le_of_ble_eq_true rfl) ⟨by show cells + 1 ≤ 601024; omega, by show slots + 6 ≤ 7293034; omega⟩ dL_law_701 (fun r1 M1 H2 locs2 hCm1 hz2 hk2 hD2 hp1 => ?_)
  have hB2 := keepB (D := E.1) hC1.1 (Apart_symm hB.2) hk2 hD2
  have hC2 : cM E A s.heap S1 H2 locs2 := ⟨hB2.1, hC1.2.1, hCm1.2.2⟩
  refine lv_istore (lv' := [(6, .int r1), (5, .int r), (0, .ref b), (1, .ref x), (2, .ref Em.2.1), (3, .ref oq), (4, .int (nI (7 * j)))]) hx hb dL_law_704 hl (by decide) rfl (fun ls hl => ?_)
  refine lv_goto (tgt := 947) hx hb dL_law_706 (by decide) ?_
  exact kk S1 M1 r r1 H2 locs2 ls hp hp1 hC2 hCm1 (Apart_symm hB2.2) (lv_sub hl [2, 3, 4, 5, 6] rfl)
set_option maxHeartbeats 4000000 in
set_option maxRecDepth 100000 in
theorem lo_cell {p : Program} {l : Launch} {e : Env} {s : State} {m : MethodId} {below : List Frame} {meth : Method} {c : Code} {b L : Nat} {xs : Nat → Int32} {A : Nat → Prop} {E : kE} {Em : mE} {S : kS} {M : mS} {H : Heap} {locs : List Loc} {ls : Array Slot} {x oq j cells slots : Nat} {Q : State → Prop} (hl9 : l.stackTraces = false) {z : Nat × Nat × Nat} (hV : vZ z A s s.heap) (C0 : lw_At p s m meth c b L xs) (hbA : ¬ A b) (hL : L ≤ 3584) (hj : 7 * j + 7 ≤ L) (hX : kX RL p s m #[Value.ref b] c code 7 E A) (hXm : mXo RL p s m #[Value.ref b] c code 7 Em A) (hC : cM E A s.heap S H locs) (hCm : mC Em A s.heap M H locs) (hap : Apart (cW E S) (mW Em M)) (hl : lv_has ls 7 [(0, .ref b), (1, .ref x), (2, .ref Em.2.1), (3, .ref oq), (4, .int (nI (7 * j)))]) (hcs : cells + 105000 ≤ 601024 ∧ slots + 2100000 ≤ 7293034) {PK : kS → Int32 → Prop} {PM : mS → Int32 → Prop} (ho : hasO S x 11) (h : wp_L_cell x (xs (7 * j + 1)) (xs (7 * j + 2)) oq S PK) (hm : wp_cell (xs (7 * j + 1)) (xs (7 * j + 2)) M PM)
    (kk : ∀ (S1 : kS) (M1 : mS) (r r1 : Int32) (H1 : Heap) (locs1 : List Loc) (ls1 : Array Slot), PK S1 r → PM M1 r1 → cM E A s.heap S1 H1 locs1 → mC Em A s.heap M1 H1 locs1 → Apart (cW E S1) (mW Em M1) → lv_has ls1 7 [(0, .ref b), (1, .ref x), (2, .ref Em.2.1), (3, .ref oq), (4, .int (nI (7 * j)))] → W p l e room_1 s m #[Value.ref b] below meth c H1 locs1 (cells + 1) (slots + 6) Q (F0 m 947 ls1 [])) : W p l e room_1 s m #[Value.ref b] below meth c H locs cells slots Q (F0 m 709 ls []) := by
  obtain ⟨hx, hb, hr, hml, hown, hts0, hXs, hbl, hlocks, hgv⟩ := C0
  have hts : ∀ w ∈ tb, w.before _ s = true := fun w h => hts0 w (List.mem_filter.mp h).1
  refine lv_aload_n hx hb dL_law_709 rfl (lv_at hl 1 rfl) ?_
  refine lv_aload_n hx hb dL_law_710 rfl (lv_at hl 0 rfl) ?_
  refine lv_iload hx hb dL_law_711 (lv_at hl 4 rfl) ?_
  refine lv_iconst (v := 1) hx hb dL_law_713 (by decide) ?_
  refine lv_iadd hx hb dL_law_714 ?_
  refine lw_ld (k := 7 * j + 1) hx hb hXs hbl hbA hC.2.2 (nI_add (7 * j) 1) (by omega) hL dL_law_715 ?_
  refine lv_aload_n hx hb dL_law_716 rfl (lv_at hl 0 rfl) ?_
  refine lv_iload hx hb dL_law_717 (lv_at hl 4 rfl) ?_
  refine lv_iconst (v := 2) hx hb dL_law_719 (by decide) ?_
  refine lv_iadd hx hb dL_law_720 ?_
  refine lw_ld (k := 7 * j + 2) hx hb hXs hbl hbA hC.2.2 (nI_add (7 * j) 2) (by omega) hL dL_law_721 ?_
  refine lv_aload_n hx hb dL_law_722 rfl (lv_at hl 3 rfl) ?_
  refine lh_calli [.ref x, .int (xs (7 * j + 1)), .int (xs (7 * j + 2)), .ref oq] (rest := []) hX hC hV (hp_cell l hl9 z S x (xs (7 * j + 1)) (xs (7 * j + 2)) oq PK h E _) (vx_cwSW 4 hts (gd_S2 wd_1366 wd_1367 wd_0 wd_1368) rfl rfl rfl (by decide +kernel) ⟨Nat.le_of_ble_eq_true rfl, Nat.le_of_ble_eq_true rfl⟩) rfl hl.1 (Nat.le_of_ble_eq_true rfl) ⟨by show cells + 1 ≤ 601024; omega, by show slots + 6 ≤ 7293034; omega⟩ dL_law_723 (fun r S1 H1 locs1 hC1 hz hk hD1 hp => ?_)
  have hB := keepB (D := Em.1) hCm.1 hap hk hD1
  replace hCm : mC Em A s.heap M H1 locs1 := ⟨hB.1, hCm.2.1, hC1.2.2⟩
  refine lv_istore (lv' := [(5, .int r), (0, .ref b), (1, .ref x), (2, .ref Em.2.1), (3, .ref oq), (4, .int (nI (7 * j)))]) hx hb dL_law_726 hl (by decide) rfl (fun ls hl => ?_)
  refine lv_aload_n hx hb dL_law_728 rfl (lv_at hl 3 rfl) ?_
  refine lv_aload_n hx hb dL_law_729 rfl (lv_at hl 1 rfl) ?_
  refine lv_iload hx hb dL_law_730 (lv_at hl 5 rfl) ?_
  refine lv_iconst (v := 1) hx hb dL_law_732 (by decide) ?_
  refine lv_iadd hx hb dL_law_733 ?_
  refine lw_ld (k := 7 * j + 1) hx hb hXs hbl hbA hC1.2.2 (nI_add (7 * j) 1) (by omega) hL dL_law_734 ?_
  refine lv_aload_n hx hb dL_law_735 rfl (lv_at hl 1 rfl) ?_
  refine lv_iload hx hb dL_law_736 (lv_at hl 5 rfl) ?_
  refine lv_iconst (v := 2) hx hb dL_law_738 (by decide) ?_
  refine lv_iadd hx hb dL_law_739 ?_
  refine lw_ld (k := 7 * j + 2) hx hb hXs hbl hbA hC1.2.2 (nI_add (7 * j) 2) (by omega) hL dL_law_740 ?_
  refine lm_calli [.int (xs (7 * j + 1)), .int (xs (7 * j + 2))] (rest := []) hXm hCm (ct_cell l M (xs (7 * j + 1)) (xs (7 * j + 2)) PM hm Em _) (cwV 2 hts (gd_V wd_2167 wd_2168 wd_2169 wd_15 wd_2170) rfl rfl rfl (by decide +kernel) ⟨Nat.le_of_ble_eq_true rfl, Nat.le_of_ble_eq_true rfl⟩) rfl hl.1 (Nat.le_of_ble_eq_true rfl) ⟨by show cells + 1 ≤ 601024; omega, by show slots + 6 ≤ 7293034; omega⟩ dL_law_741 (fun r1 M1 H2 locs2 hCm1 hz2 hk2 hD2 hp1 => ?_)
  have hB2 := keepB (D := E.1) hC1.1 (Apart_symm hB.2) hk2 hD2
  have hC2 : cM E A s.heap S1 H2 locs2 := ⟨hB2.1, hC1.2.1, hCm1.2.2⟩
  refine lv_istore (lv' := [(6, .int r1), (5, .int r), (0, .ref b), (1, .ref x), (2, .ref Em.2.1), (3, .ref oq), (4, .int (nI (7 * j)))]) hx hb dL_law_744 hl (by decide) rfl (fun ls hl => ?_)
  refine lv_goto (tgt := 947) hx hb dL_law_746 (by decide) ?_
  exact kk S1 M1 r r1 H2 locs2 ls hp hp1 hC2 hCm1 (Apart_symm hB2.2) (lv_sub hl [2, 3, 4, 5, 6] rfl)
set_option maxHeartbeats 4000000 in
set_option maxRecDepth 100000 in
theorem lo_row {p : Program} {l : Launch} {e : Env} {s : State} {m : MethodId} {below : List Frame} {meth : Method} {c : Code} {b L : Nat} {xs : Nat → Int32} {A : Nat → Prop} {E : kE} {Em : mE} {S : kS} {M : mS} {H : Heap} {locs : List Loc} {ls : Array Slot} {x oq j cells slots : Nat} {Q : State → Prop} (C0 : lw_At p s m meth c b L xs) (hbA : ¬ A b) (hL : L ≤ 3584) (hj : 7 * j + 7 ≤ L) (hX : kX RL p s m #[Value.ref b] c code 7 E A) (hXm : mXo RL p s m #[Value.ref b] c code 7 Em A) (hC : cM E A s.heap S H locs) (hCm : mC Em A s.heap M H locs) (hap : Apart (cW E S) (mW Em M)) (hl : lv_has ls 7 [(0, .ref b), (1, .ref x), (2, .ref Em.2.1), (3, .ref oq), (4, .int (nI (7 * j)))]) (hcs : cells + 105000 ≤ 601024 ∧ slots + 2100000 ≤ 7293034) {PK : kS → Int32 → Prop} {PM : mS → Int32 → Prop} (ho : hasO S x 11) (h : wp_X11_row x (xs (7 * j + 1)) S PK) (hm : wp_row (xs (7 * j + 1)) M PM)
    (kk : ∀ (S1 : kS) (M1 : mS) (r r1 : Int32) (H1 : Heap) (locs1 : List Loc) (ls1 : Array Slot), PK S1 r → PM M1 r1 → cM E A s.heap S1 H1 locs1 → mC Em A s.heap M1 H1 locs1 → Apart (cW E S1) (mW Em M1) → lv_has ls1 7 [(0, .ref b), (1, .ref x), (2, .ref Em.2.1), (3, .ref oq), (4, .int (nI (7 * j)))] → W p l e room_1 s m #[Value.ref b] below meth c H1 locs1 (cells) (slots) Q (F0 m 947 ls1 [])) : W p l e room_1 s m #[Value.ref b] below meth c H locs cells slots Q (F0 m 749 ls []) := by
  obtain ⟨hx, hb, hr, hml, hown, hts0, hXs, hbl, hlocks, hgv⟩ := C0
  have hts : ∀ w ∈ tb, w.before _ s = true := fun w h => hts0 w (List.mem_filter.mp h).1
  refine lv_aload_n hx hb dL_law_749 rfl (lv_at hl 1 rfl) ?_
  refine lv_aload_n hx hb dL_law_750 rfl (lv_at hl 0 rfl) ?_
  refine lv_iload hx hb dL_law_751 (lv_at hl 4 rfl) ?_
  refine lv_iconst (v := 1) hx hb dL_law_753 (by decide) ?_
  refine lv_iadd hx hb dL_law_754 ?_
  refine lw_ld (k := 7 * j + 1) hx hb hXs hbl hbA hC.2.2 (nI_add (7 * j) 1) (by omega) hL dL_law_755 ?_
  refine lk_calli [.int (xs (7 * j + 1))] (a := x) (ci := 11) (rest := []) rfl hX hC ho (kt_X11_row l S x (xs (7 * j + 1)) PK h E _) (cwV 1 hts (gd_V wd_1244 wd_1245 wd_1246 wd_1 wd_1247) rfl rfl rfl (by decide +kernel) ⟨Nat.le_of_ble_eq_true rfl, Nat.le_of_ble_eq_true rfl⟩) rfl hl.1 (Nat.le_of_ble_eq_true rfl) ⟨by show cells ≤ 601024; omega, by show slots ≤ 7293034; omega⟩ dL_law_756 (fun r S1 H1 locs1 hC1 hz hk hD1 hp => ?_)
  have hB := keepB (D := Em.1) hCm.1 hap hk hD1
  replace hCm : mC Em A s.heap M H1 locs1 := ⟨hB.1, hCm.2.1, hC1.2.2⟩
  refine lv_pop hx hb dL_law_759 rfl ?_
  refine lv_aload_n hx hb dL_law_760 rfl (lv_at hl 2 rfl) ?_
  refine lv_aload_n hx hb dL_law_761 rfl (lv_at hl 0 rfl) ?_
  refine lv_iload hx hb dL_law_762 (lv_at hl 4 rfl) ?_
  refine lv_iconst (v := 1) hx hb dL_law_764 (by decide) ?_
  refine lv_iadd hx hb dL_law_765 ?_
  refine lw_ld (k := 7 * j + 1) hx hb hXs hbl hbA hC1.2.2 (nI_add (7 * j) 1) (by omega) hL dL_law_766 ?_
  refine lm_calli [.int (xs (7 * j + 1))] (rest := []) hXm hCm (ct_row l M (xs (7 * j + 1)) PM hm Em _) (cwV 1 hts (gd_V wd_2171 wd_2172 wd_2173 wd_15 wd_2174) rfl rfl rfl (by decide +kernel) ⟨Nat.le_of_ble_eq_true rfl, Nat.le_of_ble_eq_true rfl⟩) rfl hl.1 (Nat.le_of_ble_eq_true rfl) ⟨by show cells ≤ 601024; omega, by show slots ≤ 7293034; omega⟩ dL_law_767 (fun r1 M1 H2 locs2 hCm1 hz2 hk2 hD2 hp1 => ?_)
  have hB2 := keepB (D := E.1) hC1.1 (Apart_symm hB.2) hk2 hD2
  have hC2 : cM E A s.heap S1 H2 locs2 := ⟨hB2.1, hC1.2.1, hCm1.2.2⟩
  refine lv_pop hx hb dL_law_770 rfl ?_
  refine lv_goto (tgt := 947) hx hb dL_law_771 (by decide) ?_
  exact kk S1 M1 r r1 H2 locs2 ls hp hp1 hC2 hCm1 (Apart_symm hB2.2) hl
