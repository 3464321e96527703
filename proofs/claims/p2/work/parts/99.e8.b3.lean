theorem wd_1248 : (Jvm.Cond.methodLink "SleepersLaw" (93 : Nat) ({ cls := "Sleepers", name := "put", desc := "(II)I" } : Jvm.MethodName)) ∈ tb := tb_at 1248 (by decide +kernel) (by decide +kernel)
theorem wd_1249 : (Jvm.Cond.instanceMethod ({ cls := "Sleepers", name := "put", desc := "(II)I" } : Jvm.MethodName)) ∈ tb := tb_at 1249 (by decide +kernel) (by decide +kernel)
theorem wd_1250 : (Jvm.Cond.selects "Sleepers" ({ cls := "Sleepers", name := "put", desc := "(II)I" } : Jvm.MethodName) ({ cls := "Sleepers", name := "put", desc := "(II)I" } : Jvm.MethodName)) ∈ tb := tb_at 1250 (by decide +kernel) (by decide +kernel)
theorem wd_1251 : (Jvm.Cond.code ({ cls := "Sleepers", name := "put", desc := "(II)I" } : Jvm.MethodName) prog_1_method_17_code (3 : Nat) (Option.some Jvm.ClassFile.FieldType.int)) ∈ tb := tb_at 1251 (by decide +kernel) (by decide +kernel)
theorem wd_1256 : (Jvm.Cond.methodLink "SleepersLaw" (97 : Nat) ({ cls := "Sleepers", name := "lost", desc := "(II)I" } : Jvm.MethodName)) ∈ tb := tb_at 1256 (by decide +kernel) (by decide +kernel)
theorem wd_1257 : (Jvm.Cond.instanceMethod ({ cls := "Sleepers", name := "lost", desc := "(II)I" } : Jvm.MethodName)) ∈ tb := tb_at 1257 (by decide +kernel) (by decide +kernel)
theorem wd_1258 : (Jvm.Cond.selects "Sleepers" ({ cls := "Sleepers", name := "lost", desc := "(II)I" } : Jvm.MethodName) ({ cls := "Sleepers", name := "lost", desc := "(II)I" } : Jvm.MethodName)) ∈ tb := tb_at 1258 (by decide +kernel) (by decide +kernel)
theorem wd_1259 : (Jvm.Cond.code ({ cls := "Sleepers", name := "lost", desc := "(II)I" } : Jvm.MethodName) prog_1_method_18_code (3 : Nat) (Option.some Jvm.ClassFile.FieldType.int)) ∈ tb := tb_at 1259 (by decide +kernel) (by decide +kernel)
theorem wd_1260 : (Jvm.Cond.methodLink "SleepersLaw" (101 : Nat) ({ cls := "Sleepers", name := "box", desc := "(II)I" } : Jvm.MethodName)) ∈ tb := tb_at 1260 (by decide +kernel) (by decide +kernel)
theorem wd_1261 : (Jvm.Cond.instanceMethod ({ cls := "Sleepers", name := "box", desc := "(II)I" } : Jvm.MethodName)) ∈ tb := tb_at 1261 (by decide +kernel) (by decide +kernel)
theorem wd_1262 : (Jvm.Cond.selects "Sleepers" ({ cls := "Sleepers", name := "box", desc := "(II)I" } : Jvm.MethodName) ({ cls := "Sleepers", name := "box", desc := "(II)I" } : Jvm.MethodName)) ∈ tb := tb_at 1262 (by decide +kernel) (by decide +kernel)
theorem wd_1263 : (Jvm.Cond.code ({ cls := "Sleepers", name := "box", desc := "(II)I" } : Jvm.MethodName) prog_1_method_19_code (3 : Nat) (Option.some Jvm.ClassFile.FieldType.int)) ∈ tb := tb_at 1263 (by decide +kernel) (by decide +kernel)
theorem wd_1264 : (Jvm.Cond.methodLink "SleepersLaw" (105 : Nat) ({ cls := "Sleepers", name := "stands", desc := "(II)I" } : Jvm.MethodName)) ∈ tb := tb_at 1264 (by decide +kernel) (by decide +kernel)
theorem wd_1265 : (Jvm.Cond.instanceMethod ({ cls := "Sleepers", name := "stands", desc := "(II)I" } : Jvm.MethodName)) ∈ tb := tb_at 1265 (by decide +kernel) (by decide +kernel)
theorem wd_1266 : (Jvm.Cond.selects "Sleepers" ({ cls := "Sleepers", name := "stands", desc := "(II)I" } : Jvm.MethodName) ({ cls := "Sleepers", name := "stands", desc := "(II)I" } : Jvm.MethodName)) ∈ tb := tb_at 1266 (by decide +kernel) (by decide +kernel)
theorem wd_1267 : (Jvm.Cond.code ({ cls := "Sleepers", name := "stands", desc := "(II)I" } : Jvm.MethodName) prog_1_method_20_code (3 : Nat) (Option.some Jvm.ClassFile.FieldType.int)) ∈ tb := tb_at 1267 (by decide +kernel) (by decide +kernel)
theorem wd_1272 : (Jvm.Cond.methodLink "SleepersLaw" (109 : Nat) ({ cls := "Sleepers", name := "count", desc := "(I)I" } : Jvm.MethodName)) ∈ tb := tb_at 1272 (by decide +kernel) (by decide +kernel)
theorem wd_1273 : (Jvm.Cond.instanceMethod ({ cls := "Sleepers", name := "count", desc := "(I)I" } : Jvm.MethodName)) ∈ tb := tb_at 1273 (by decide +kernel) (by decide +kernel)
theorem wd_1274 : (Jvm.Cond.selects "Sleepers" ({ cls := "Sleepers", name := "count", desc := "(I)I" } : Jvm.MethodName) ({ cls := "Sleepers", name := "count", desc := "(I)I" } : Jvm.MethodName)) ∈ tb := tb_at 1274 (by decide +kernel) (by decide +kernel)
theorem wd_1275 : (Jvm.Cond.code ({ cls := "Sleepers", name := "count", desc := "(I)I" } : Jvm.MethodName) prog_1_method_21_code (2 : Nat) (Option.some Jvm.ClassFile.FieldType.int)) ∈ tb := tb_at 1275 (by decide +kernel) (by decide +kernel)
theorem wd_2175 : (Jvm.Cond.methodLink "SleepersLaw" (96 : Nat) ({ cls := "SleepersModel", name := "put", desc := "(II)I" } : Jvm.MethodName)) ∈ tb := tb_at 2175 (by decide +kernel) (by decide +kernel)
theorem wd_2176 : (Jvm.Cond.instanceMethod ({ cls := "SleepersModel", name := "put", desc := "(II)I" } : Jvm.MethodName)) ∈ tb := tb_at 2176 (by decide +kernel) (by decide +kernel)
theorem wd_2177 : (Jvm.Cond.selects "SleepersModel" ({ cls := "SleepersModel", name := "put", desc := "(II)I" } : Jvm.MethodName) ({ cls := "SleepersModel", name := "put", desc := "(II)I" } : Jvm.MethodName)) ∈ tb := tb_at 2177 (by decide +kernel) (by decide +kernel)
theorem wd_2178 : (Jvm.Cond.code ({ cls := "SleepersModel", name := "put", desc := "(II)I" } : Jvm.MethodName) prog_14_method_104_code (3 : Nat) (Option.some Jvm.ClassFile.FieldType.int)) ∈ tb := tb_at 2178 (by decide +kernel) (by decide +kernel)
theorem wd_2179 : (Jvm.Cond.methodLink "SleepersLaw" (100 : Nat) ({ cls := "SleepersModel", name := "lost", desc := "(II)I" } : Jvm.MethodName)) ∈ tb := tb_at 2179 (by decide +kernel) (by decide +kernel)
theorem wd_2180 : (Jvm.Cond.instanceMethod ({ cls := "SleepersModel", name := "lost", desc := "(II)I" } : Jvm.MethodName)) ∈ tb := tb_at 2180 (by decide +kernel) (by decide +kernel)
theorem wd_2181 : (Jvm.Cond.selects "SleepersModel" ({ cls := "SleepersModel", name := "lost", desc := "(II)I" } : Jvm.MethodName) ({ cls := "SleepersModel", name := "lost", desc := "(II)I" } : Jvm.MethodName)) ∈ tb := tb_at 2181 (by decide +kernel) (by decide +kernel)
theorem wd_2182 : (Jvm.Cond.code ({ cls := "SleepersModel", name := "lost", desc := "(II)I" } : Jvm.MethodName) prog_14_method_105_code (3 : Nat) (Option.some Jvm.ClassFile.FieldType.int)) ∈ tb := tb_at 2182 (by decide +kernel) (by decide +kernel)
theorem wd_2183 : (Jvm.Cond.methodLink "SleepersLaw" (104 : Nat) ({ cls := "SleepersModel", name := "box", desc := "(II)I" } : Jvm.MethodName)) ∈ tb := tb_at 2183 (by decide +kernel) (by decide +kernel)
theorem wd_2184 : (Jvm.Cond.instanceMethod ({ cls := "SleepersModel", name := "box", desc := "(II)I" } : Jvm.MethodName)) ∈ tb := tb_at 2184 (by decide +kernel) (by decide +kernel)
theorem wd_2185 : (Jvm.Cond.selects "SleepersModel" ({ cls := "SleepersModel", name := "box", desc := "(II)I" } : Jvm.MethodName) ({ cls := "SleepersModel", name := "box", desc := "(II)I" } : Jvm.MethodName)) ∈ tb := tb_at 2185 (by decide +kernel) (by decide +kernel)
theorem wd_2186 : (Jvm.Cond.code ({ cls := "SleepersModel", name := "box", desc := "(II)I" } : Jvm.MethodName) prog_14_method_106_code (3 : Nat) (Option.some Jvm.ClassFile.FieldType.int)) ∈ tb := tb_at 2186 (by decide +kernel) (by decide +kernel)
theorem wd_2187 : (Jvm.Cond.methodLink "SleepersLaw" (108 : Nat) ({ cls := "SleepersModel", name := "stands", desc := "(II)I" } : Jvm.MethodName)) ∈ tb := tb_at 2187 (by decide +kernel) (by decide +kernel)
theorem wd_2188 : (Jvm.Cond.instanceMethod ({ cls := "SleepersModel", name := "stands", desc := "(II)I" } : Jvm.MethodName)) ∈ tb := tb_at 2188 (by decide +kernel) (by decide +kernel)
theorem wd_2189 : (Jvm.Cond.selects "SleepersModel" ({ cls := "SleepersModel", name := "stands", desc := "(II)I" } : Jvm.MethodName) ({ cls := "SleepersModel", name := "stands", desc := "(II)I" } : Jvm.MethodName)) ∈ tb := tb_at 2189 (by decide +kernel) (by decide +kernel)
theorem wd_2190 : (Jvm.Cond.code ({ cls := "SleepersModel", name := "stands", desc := "(II)I" } : Jvm.MethodName) prog_14_method_107_code (6 : Nat) (Option.some Jvm.ClassFile.FieldType.int)) ∈ tb := tb_at 2190 (by decide +kernel) (by decide +kernel)
theorem wd_2199 : (Jvm.Cond.methodLink "SleepersLaw" (112 : Nat) ({ cls := "SleepersModel", name := "count", desc := "(I)I" } : Jvm.MethodName)) ∈ tb := tb_at 2199 (by decide +kernel) (by decide +kernel)
theorem wd_2200 : (Jvm.Cond.instanceMethod ({ cls := "SleepersModel", name := "count", desc := "(I)I" } : Jvm.MethodName)) ∈ tb := tb_at 2200 (by decide +kernel) (by decide +kernel)
theorem wd_2201 : (Jvm.Cond.selects "SleepersModel" ({ cls := "SleepersModel", name := "count", desc := "(I)I" } : Jvm.MethodName) ({ cls := "SleepersModel", name := "count", desc := "(I)I" } : Jvm.MethodName)) ∈ tb := tb_at 2201 (by decide +kernel) (by decide +kernel)
theorem wd_2202 : (Jvm.Cond.code ({ cls := "SleepersModel", name := "count", desc := "(I)I" } : Jvm.MethodName) prog_14_method_110_code (6 : Nat) (Option.some Jvm.ClassFile.FieldType.int)) ∈ tb := tb_at 2202 (by decide +kernel) (by decide +kernel)
set_option maxHeartbeats 4000000 in
set_option maxRecDepth 100000 in
theorem lo_put {p : Program} {l : Launch} {e : Env} {s : State} {m : MethodId} {below : List Frame} {meth : Method} {c : Code} {b L : Nat} {xs : Nat → Int32} {A : Nat → Prop} {E : kE} {Em : mE} {S : kS} {M : mS} {H : Heap} {locs : List Loc} {ls : Array Slot} {x oq j cells slots : Nat} {Q : State → Prop} (C0 : lw_At p s m meth c b L xs) (hbA : ¬ A b) (hL : L ≤ 3584) (hj : 7 * j + 7 ≤ L) (hX : kX RL p s m #[Value.ref b] c code 7 E A) (hXm : mXo RL p s m #[Value.ref b] c code 7 Em A) (hC : cM E A s.heap S H locs) (hCm : mC Em A s.heap M H locs) (hap : Apart (cW E S) (mW Em M)) (hl : lv_has ls 7 [(0, .ref b), (1, .ref x), (2, .ref Em.2.1), (3, .ref oq), (4, .int (nI (7 * j)))]) (hcs : cells + 105000 ≤ 601024 ∧ slots + 2100000 ≤ 7293034) {PK : kS → Int32 → Prop} {PM : mS → Int32 → Prop} (ho : hasO S x 11) (h : wp_X11_put x (xs (7 * j + 1)) (xs (7 * j + 2)) S PK) (hm : wp_put (xs (7 * j + 1)) (xs (7 * j + 2)) M PM)
    (kk : ∀ (S1 : kS) (M1 : mS) (r r1 : Int32) (H1 : Heap) (locs1 : List Loc) (ls1 : Array Slot), PK S1 r → PM M1 r1 → cM E A s.heap S1 H1 locs1 → mC Em A s.heap M1 H1 locs1 → Apart (cW E S1) (mW Em M1) → lv_has ls1 7 [(0, .ref b), (1, .ref x), (2, .ref Em.2.1), (3, .ref oq), (4, .int (nI (7 * j)))] → W p l e room_1 s m #[Value.ref b] below meth c H1 locs1 (cells) (slots) Q (F0 m 947 ls1 [])) : W p l e room_1 s m #[Value.ref b] below meth c H locs cells slots Q (F0 m 774 ls []) := by
  obtain ⟨hx, hb, hr, hml, hown, hts0, hXs, hbl, hlocks, hgv⟩ := C0
  have hts : ∀ w ∈ tb, w.before _ s = true := fun w h => hts0 w (List.mem_filter.mp h).1
  refine lv_aload_n hx hb dL_law_774 rfl (lv_at hl 1 rfl) ?_
  refine lv_aload_n hx hb dL_law_775 rfl (lv_at hl 0 rfl) ?_
  refine lv_iload hx hb dL_law_776 (lv_at hl 4 rfl) ?_
  refine lv_iconst (v := 1) hx hb dL_law_778 (by decide) ?_
  refine lv_iadd hx hb dL_law_779 ?_
  refine lw_ld (k := 7 * j + 1) hx hb hXs hbl hbA hC.2.2 (nI_add (7 * j) 1) (by omega) hL dL_law_780 ?_
  refine lv_aload_n hx hb dL_law_781 rfl (lv_at hl 0 rfl) ?_
  refine lv_iload hx hb dL_law_782 (lv_at hl 4 rfl) ?_
  refine lv_iconst (v := 2) hx hb dL_law_784 (by decide) ?_
  refine lv_iadd hx hb dL_law_785 ?_
  refine lw_ld (k := 7 * j + 2) hx hb hXs hbl hbA hC.2.2 (nI_add (7 * j) 2) (by omega) hL dL_law_786 ?_
  refine lk_calli [.int (xs (7 * j + 1)), .int (xs (7 * j + 2))] (a := x) (ci := 11) (rest := []) rfl hX hC ho (kt_X11_put l S x (xs (7 * j + 1)) (xs (7 * j + 2)) PK h E _) (cwV 2 hts (gd_V wd_1248 wd_1249 wd_1250 wd_1 wd_1251) rfl rfl rfl (by decide +kernel) ⟨Nat.le_of_ble_eq_true rfl, Nat.le_of_ble_eq_true rfl⟩) rfl hl.1 (Nat.le_of_ble_eq_true rfl) ⟨by show cells ≤ 601024; omega, by show slots ≤ 7293034; omega⟩ dL_law_787 (fun r S1 H1 locs1 hC1 hz hk hD1 hp => ?_)
  have hB := keepB (D := Em.1) hCm.1 hap hk hD1
  replace hCm : mC Em A s.heap M H1 locs1 := ⟨hB.1, hCm.2.1, hC1.2.2⟩
  refine lv_pop hx hb dL_law_790 rfl ?_
  refine lv_aload_n hx hb dL_law_791 rfl (lv_at hl 2 rfl) ?_
  refine lv_aload_n hx hb dL_law_792 rfl (lv_at hl 0 rfl) ?_
  refine lv_iload hx hb dL_law_793 (lv_at hl 4 rfl) ?_
  refine lv_iconst (v := 1) hx hb dL_law_795 (by decide) ?_
  refine lv_iadd hx hb dL_law_796 ?_
  refine lw_ld (k := 7 * j + 1) hx hb hXs hbl hbA hC1.2.2 (nI_add (7 * j) 1) (by omega) hL dL_law_797 ?_
  refine lv_aload_n hx hb dL_law_798 rfl (lv_at hl 0 rfl) ?_
  refine lv_iload hx hb dL_law_799 (lv_at hl 4 rfl) ?_
  refine lv_iconst (v := 2) hx hb dL_law_801 (by decide) ?_
  refine lv_iadd hx hb dL_law_802 ?_
  refine lw_ld (k := 7 * j + 2) hx hb hXs hbl hbA hC1.2.2 (nI_add (7 * j) 2) (by omega) hL dL_law_803 ?_
  refine lm_calli [.int (xs (7 * j + 1)), .int (xs (7 * j + 2))] (rest := []) hXm hCm (ct_put l M (xs (7 * j + 1)) (xs (7 * j + 2)) PM hm Em _) (cwV 2 hts (gd_V wd_2175 wd_2176 wd_2177 wd_15 wd_2178) rfl rfl rfl (by decide +kernel) ⟨Nat.le_of_ble_eq_true rfl, Nat.le_of_ble_eq_true rfl⟩) rfl hl.1 (Nat.le_of_ble_eq_true rfl) ⟨by show cells ≤ 601024; omega, by show slots ≤ 7293034; omega⟩ dL_law_804 (fun r1 M1 H2 locs2 hCm1 hz2 hk2 hD2 hp1 => ?_)
  have hB2 := keepB (D := E.1) hC1.1 (Apart_symm hB.2) hk2 hD2
  have hC2 : cM E A s.heap S1 H2 locs2 := ⟨hB2.1, hC1.2.1, hCm1.2.2⟩
  refine lv_pop hx hb dL_law_807 rfl ?_
  refine lv_goto (tgt := 947) hx hb dL_law_808 (by decide) ?_
  exact kk S1 M1 r r1 H2 locs2 ls hp hp1 hC2 hCm1 (Apart_symm hB2.2) hl
set_option maxHeartbeats 4000000 in
set_option maxRecDepth 100000 in
theorem lo_lost {p : Program} {l : Launch} {e : Env} {s : State} {m : MethodId} {below : List Frame} {meth : Method} {c : Code} {b L : Nat} {xs : Nat → Int32} {A : Nat → Prop} {E : kE} {Em : mE} {S : kS} {M : mS} {H : Heap} {locs : List Loc} {ls : Array Slot} {x oq j cells slots : Nat} {Q : State → Prop} (C0 : lw_At p s m meth c b L xs) (hbA : ¬ A b) (hL : L ≤ 3584) (hj : 7 * j + 7 ≤ L) (hX : kX RL p s m #[Value.ref b] c code 7 E A) (hXm : mXo RL p s m #[Value.ref b] c code 7 Em A) (hC : cM E A s.heap S H locs) (hCm : mC Em A s.heap M H locs) (hap : Apart (cW E S) (mW Em M)) (hl : lv_has ls 7 [(0, .ref b), (1, .ref x), (2, .ref Em.2.1), (3, .ref oq), (4, .int (nI (7 * j)))]) (hcs : cells + 105000 ≤ 601024 ∧ slots + 2100000 ≤ 7293034) {PK : kS → Int32 → Prop} {PM : mS → Int32 → Prop} (ho : hasO S x 11) (h : wp_X11_lost x (xs (7 * j + 1)) (xs (7 * j + 2)) S PK) (hm : wp_lost (xs (7 * j + 1)) (xs (7 * j + 2)) M PM)
    (kk : ∀ (S1 : kS) (M1 : mS) (r r1 : Int32) (H1 : Heap) (locs1 : List Loc) (ls1 : Array Slot), PK S1 r → PM M1 r1 → cM E A s.heap S1 H1 locs1 → mC Em A s.heap M1 H1 locs1 → Apart (cW E S1) (mW Em M1) → lv_has ls1 7 [(0, .ref b), (1, .ref x), (2, .ref Em.2.1), (3, .ref oq), (4, .int (nI (7 * j)))] → W p l e room_1 s m #[Value.ref b] below meth c H1 locs1 (cells) (slots) Q (F0 m 947 ls1 [])) : W p l e room_1 s m #[Value.ref b] below meth c H locs cells slots Q (F0 m 811 ls []) := by
  obtain ⟨hx, hb, hr, hml, hown, hts0, hXs, hbl, hlocks, hgv⟩ := C0
  have hts : ∀ w ∈ tb, w.before _ s = true := fun w h => hts0 w (List.mem_filter.mp h).1
  refine lv_aload_n hx hb dL_law_811 rfl (lv_at hl 1 rfl) ?_
  refine lv_aload_n hx hb dL_law_812 rfl (lv_at hl 0 rfl) ?_
  refine lv_iload hx hb dL_law_813 (lv_at hl 4 rfl) ?_
  refine lv_iconst (v := 1) hx hb dL_law_815 (by decide) ?_
  refine lv_iadd hx hb dL_law_816 ?_
  refine lw_ld (k := 7 * j + 1) hx hb hXs hbl hbA hC.2.2 (nI_add (7 * j) 1) (by omega) hL dL_law_817 ?_
  refine lv_aload_n hx hb dL_law_818 rfl (lv_at hl 0 rfl) ?_
  refine lv_iload hx hb dL_law_819 (lv_at hl 4 rfl) ?_
  refine lv_iconst (v := 2) hx hb dL_law_821 (by decide) ?_
  refine lv_iadd hx hb dL_law_822 ?_
  refine lw_ld (k := 7 * j + 2) hx hb hXs hbl hbA hC.2.2 (nI_add (7 * j) 2) (by omega) hL dL_law_823 ?_
  refine lk_calli [.int (xs (7 * j + 1)), .int (xs (7 * j + 2))] (a := x) (ci := 11) (rest := []) rfl hX hC ho (kt_X11_lost l S x (xs (7 * j + 1)) (xs (7 * j + 2)) PK h E _) (cwV 2 hts (gd_V wd_1256 wd_1257 wd_1258 wd_1 wd_1259) rfl rfl rfl (by decide +kernel) ⟨Nat.le_of_ble_eq_true rfl, Nat.le_of_ble_eq_true rfl⟩) rfl hl.1 (Nat.le_of_ble_eq_true rfl) ⟨by show cells ≤ 601024; omega, by show slots ≤ 7293034; omega⟩ dL_law_824 (fun r S1 H1 locs1 hC1 hz hk hD1 hp => ?_)
  have hB := keepB (D := Em.1) hCm.1 hap hk hD1
  replace hCm : mC Em A s.heap M H1 locs1 := ⟨hB.1, hCm.2.1, hC1.2.2⟩
  refine lv_pop hx hb dL_law_827 rfl ?_
  refine lv_aload_n hx hb dL_law_828 rfl (lv_at hl 2 rfl) ?_
  refine lv_aload_n hx hb dL_law_829 rfl (lv_at hl 0 rfl) ?_
  refine lv_iload hx hb dL_law_830 (lv_at hl 4 rfl) ?_
  refine lv_iconst (v := 1) hx hb dL_law_832 (by decide) ?_
  refine lv_iadd hx hb dL_law_833 ?_
  refine lw_ld (k := 7 * j + 1) hx hb hXs hbl hbA hC1.2.2 (nI_add (7 * j) 1) (by omega) hL dL_law_834 ?_
  refine lv_aload_n hx hb dL_law_835 rfl (lv_at hl 0 rfl) ?_
  refine lv_iload hx hb dL_law_836 (lv_at hl 4 rfl) ?_
  refine lv_iconst (v := 2) hx hb dL_law_838 (by decide) ?_
  refine lv_iadd hx hb dL_law_839 ?_
  refine lw_ld (k := 7 * j + 2) hx hb hXs hbl hbA hC1.2.2 (nI_add (7 * j) 2) (by omega) hL dL_law_840 ?_
  refine lm_calli [.int (xs (7 * j + 1)), .int (xs (7 * j + 2))] (rest := []) hXm hCm (ct_lost l M (xs (7 * j + 1)) (xs (7 * j + 2)) PM hm Em _) (cwV 2 hts (gd_V wd_2179 wd_2180 wd_2181 wd_15 wd_2182) rfl rfl rfl (by decide +kernel) ⟨Nat.le_of_ble_eq_true rfl, Nat.le_of_ble_eq_true rfl⟩) rfl hl.1 (Nat.le_of_ble_eq_true rfl) ⟨by show cells ≤ 601024; omega, by show slots ≤ 7293034; omega⟩ dL_law_841 (fun r1 M1 H2 locs2 hCm1 hz2 hk2 hD2 hp1 => ?_)
  have hB2 := keepB (D := E.1) hC1.1 (Apart_symm hB.2) hk2 hD2
  have hC2 : cM E A s.heap S1 H2 locs2 := ⟨hB2.1, hC1.2.1, hCm1.2.2⟩
  refine lv_pop hx hb dL_law_844 rfl ?_
  refine lv_goto (tgt := 947) hx hb dL_law_845 (by decide) ?_
  exact kk S1 M1 r r1 H2 locs2 ls hp hp1 hC2 hCm1 (Apart_symm hB2.2) hl
set_option maxHeartbeats 4000000 in
set_option maxRecDepth 100000 in
theorem lo_box {p : Program} {l : Launch} {e : Env} {s : State} {m : MethodId} {below : List Frame} {meth : Method} {c : Code} {b L : Nat} {xs : Nat → Int32} {A : Nat → Prop} {E : kE} {Em : mE} {S : kS} {M : mS} {H : Heap} {locs : List Loc} {ls : Array Slot} {x oq j cells slots : Nat} {Q : State → Prop} (C0 : lw_At p s m meth c b L xs) (hbA : ¬ A b) (hL : L ≤ 3584) (hj : 7 * j + 7 ≤ L) (hX : kX RL p s m #[Value.ref b] c code 7 E A) (hXm : mXo RL p s m #[Value.ref b] c code 7 Em A) (hC : cM E A s.heap S H locs) (hCm : mC Em A s.heap M H locs) (hap : Apart (cW E S) (mW Em M)) (hl : lv_has ls 7 [(0, .ref b), (1, .ref x), (2, .ref Em.2.1), (3, .ref oq), (4, .int (nI (7 * j)))]) (hcs : cells + 105000 ≤ 601024 ∧ slots + 2100000 ≤ 7293034) {PK : kS → Int32 → Prop} {PM : mS → Int32 → Prop} (ho : hasO S x 11) (h : wp_X11_box x (xs (7 * j + 1)) (xs (7 * j + 2)) S PK) (hm : wp_box (xs (7 * j + 1)) (xs (7 * j + 2)) M PM)
    (kk : ∀ (S1 : kS) (M1 : mS) (r r1 : Int32) (H1 : Heap) (locs1 : List Loc) (ls1 : Array Slot), PK S1 r → PM M1 r1 → cM E A s.heap S1 H1 locs1 → mC Em A s.heap M1 H1 locs1 → Apart (cW E S1) (mW Em M1) → lv_has ls1 7 [(0, .ref b), (1, .ref x), (2, .ref Em.2.1), (3, .ref oq), (4, .int (nI (7 * j)))] → W p l e room_1 s m #[Value.ref b] below meth c H1 locs1 (cells) (slots) Q (F0 m 947 ls1 [])) : W p l e room_1 s m #[Value.ref b] below meth c H locs cells slots Q (F0 m 848 ls []) := by
  obtain ⟨hx, hb, hr, hml, hown, hts0, hXs, hbl, hlocks, hgv⟩ := C0
  have hts : ∀ w ∈ tb, w.before _ s = true := fun w h => hts0 w (List.mem_filter.mp h).1
  refine lv_aload_n hx hb dL_law_848 rfl (lv_at hl 1 rfl) ?_
  refine lv_aload_n hx hb dL_law_849 rfl (lv_at hl 0 rfl) ?_
  refine lv_iload hx hb dL_law_850 (lv_at hl 4 rfl) ?_
  refine lv_iconst (v := 1) hx hb dL_law_852 (by decide) ?_
  refine lv_iadd hx hb dL_law_853 ?_
  refine lw_ld (k := 7 * j + 1) hx hb hXs hbl hbA hC.2.2 (nI_add (7 * j) 1) (by omega) hL dL_law_854 ?_
  refine lv_aload_n hx hb dL_law_855 rfl (lv_at hl 0 rfl) ?_
  refine lv_iload hx hb dL_law_856 (lv_at hl 4 rfl) ?_
  refine lv_iconst (v := 2) hx hb dL_law_858 (by decide) ?_
  refine lv_iadd hx hb dL_law_859 ?_
  refine lw_ld (k := 7 * j + 2) hx hb hXs hbl hbA hC.2.2 (nI_add (7 * j) 2) (by omega) hL dL_law_860 ?_
  refine lk_calli [.int (xs (7 * j + 1)), .int (xs (7 * j + 2))] (a := x) (ci := 11) (rest := []) rfl hX hC ho (kt_X11_box l S x (xs (7 * j + 1)) (xs (7 * j + 2)) PK h E _) (cwV 2 hts (gd_V wd_1260 wd_1261 wd_1262 wd_1 wd_1263) rfl rfl rfl (by decide +kernel) ⟨Nat.le_of_ble_eq_true rfl, Nat.le_of_ble_eq_true rfl⟩) rfl hl.1 (Nat.le_of_ble_eq_true rfl) ⟨by show cells ≤ 601024; omega, by show slots ≤ 7293034; omega⟩ dL_law_861 (fun r S1 H1 locs1 hC1 hz hk hD1 hp => ?_)
  have hB := keepB (D := Em.1) hCm.1 hap hk hD1
  replace hCm : mC Em A s.heap M H1 locs1 := ⟨hB.1, hCm.2.1, hC1.2.2⟩
  refine lv_pop hx hb dL_law_864 rfl ?_
  refine lv_aload_n hx hb dL_law_865 rfl (lv_at hl 2 rfl) ?_
  refine lv_aload_n hx hb dL_law_866 rfl (lv_at hl 0 rfl) ?_
  refine lv_iload hx hb dL_law_867 (lv_at hl 4 rfl) ?_
  refine lv_iconst (v := 1) hx hb dL_law_869 (by decide) ?_
  refine lv_iadd hx hb dL_law_870 ?_
  refine lw_ld (k := 7 * j + 1) hx hb hXs hbl hbA hC1.2.2 (nI_add (7 * j) 1) (by omega) hL dL_law_871 ?_
  refine lv_aload_n hx hb dL_law_872 rfl (lv_at hl 0 rfl) ?_
  refine lv_iload hx hb dL_law_873 (lv_at hl 4 rfl) ?_
  refine lv_iconst (v := 2) hx hb dL_law_875 (by decide) ?_
  refine lv_iadd hx hb dL_law_876 ?_
  refine lw_ld (k := 7 * j + 2) hx hb hXs hbl hbA hC1.2.2 (nI_add (7 * j) 2) (by omega) hL dL_law_877 ?_
  refine lm_calli [.int (xs (7 * j + 1)), .int (xs (7 * j + 2))] (rest := []) hXm hCm (ct_box l M (xs (7 * j + 1)) (xs (7 * j + 2)) PM hm Em _) (cwV 2 hts (gd_V wd_2183 wd_2184 wd_2185 wd_15 wd_2186) rfl rfl rfl (by decide +kernel) ⟨Nat.le_of_ble_eq_true rfl, Nat.le_of_ble_eq_true rfl⟩) rfl hl.1 (Nat.le_of_ble_eq_true rfl) ⟨by show cells ≤ 601024; omega, by show slots ≤ 7293034; omega⟩ dL_law_878 (fun r1 M1 H2 locs2 hCm1 hz2 hk2 hD2 hp1 => ?_)
  have hB2 := keepB (D := E.1) hC1.1 (Apart_symm hB.2) hk2 hD2
  have hC2 : cM E A s.heap S1 H2 locs2 := ⟨hB2.1, hC1.2.1, hCm1.2.2⟩
  refine lv_pop hx hb dL_law_881 rfl ?_
  refine lv_goto (tgt := 947) hx hb dL_law_882 (by decide) ?_
  exact kk S1 M1 r r1 H2 locs2 ls hp hp1 hC2 hCm1 (Apart_symm hB2.2) hl
set_option maxHeartbeats 4000000 in
set_option maxRecDepth 100000 in
theorem lo_stands {p : Program} {l : Launch} {e : Env} {s : State} {m : MethodId} {below : List Frame} {meth : Method} {c : Code} {b L : Nat} {xs : Nat → Int32} {A : Nat → Prop} {E : kE} {Em : mE} {S : kS} {M : mS} {H : Heap} {locs : List Loc} {ls : Array Slot} {x oq j cells slots : Nat} {Q : State → Prop} (C0 : lw_At p s m meth c b L xs) (hbA : ¬ A b) (hL : L ≤ 3584) (hj : 7 * j + 7 ≤ L) (hX : kX RL p s m #[Value.ref b] c code 7 E A) (hXm : mXo RL p s m #[Value.ref b] c code 7 Em A) (hC : cM E A s.heap S H locs) (hCm : mC Em A s.heap M H locs) (hap : Apart (cW E S) (mW Em M)) (hl : lv_has ls 7 [(0, .ref b), (1, .ref x), (2, .ref Em.2.1), (3, .ref oq), (4, .int (nI (7 * j)))]) (hcs : cells + 105000 ≤ 601024 ∧ slots + 2100000 ≤ 7293034) {PK : kS → Int32 → Prop} {PM : mS → Int32 → Prop} (ho : hasO S x 11) (h : wp_X11_stands x (xs (7 * j + 1)) (xs (7 * j + 2)) S PK) (hm : wp_stands (xs (7 * j + 1)) (xs (7 * j + 2)) M PM)
    (kk : ∀ (S1 : kS) (M1 : mS) (r r1 : Int32) (H1 : Heap) (locs1 : List Loc) (ls1 : Array Slot), PK S1 r → PM M1 r1 → cM E A s.heap S1 H1 locs1 → mC Em A s.heap M1 H1 locs1 → Apart (cW E S1) (mW Em M1) → lv_has ls1 7 [(0, .ref b), (1, .ref x), (2, .ref Em.2.1), (3, .ref oq), (4, .int (nI (7 * j)))] → W p l e room_1 s m #[Value.ref b] below meth c H1 locs1 (cells) (slots) Q (F0 m 947 ls1 [])) : W p l e room_1 s m #[Value.ref b] below meth c H locs cells slots Q (F0 m 885 ls []) := by
  obtain ⟨hx, hb, hr, hml, hown, hts0, hXs, hbl, hlocks, hgv⟩ := C0
  have hts : ∀ w ∈ tb, w.before _ s = true := fun w h => hts0 w (List.mem_filter.mp h).1
  refine lv_aload_n hx hb dL_law_885 rfl (lv_at hl 1 rfl) ?_
  refine lv_aload_n hx hb dL_law_886 rfl (lv_at hl 0 rfl) ?_
  refine lv_iload hx hb dL_law_887 (lv_at hl 4 rfl) ?_
  refine lv_iconst (v := 1) hx hb dL_law_889 (by decide) ?_
  refine lv_iadd hx hb dL_law_890 ?_
  refine lw_ld (k := 7 * j + 1) hx hb hXs hbl hbA hC.2.2 (nI_add (7 * j) 1) (by omega) hL dL_law_891 ?_
  refine lv_aload_n hx hb dL_law_892 rfl (lv_at hl 0 rfl) ?_
  refine lv_iload hx hb dL_law_893 (lv_at hl 4 rfl) ?_
  refine lv_iconst (v := 2) hx hb dL_law_895 (by decide) ?_
  refine lv_iadd hx hb dL_law_896 ?_
  refine lw_ld (k := 7 * j + 2) hx hb hXs hbl hbA hC.2.2 (nI_add (7 * j) 2) (by omega) hL dL_law_897 ?_
  refine lk_calli [.int (xs (7 * j + 1)), .int (xs (7 * j + 2))] (a := x) (ci := 11) (rest := []) rfl hX hC ho (kt_X11_stands l S x (xs (7 * j + 1)) (xs (7 * j + 2)) PK h E _) (cwV 2 hts (gd_V wd_1264 wd_1265 wd_1266 wd_1 wd_1267) rfl rfl rfl (by decide +kernel) ⟨Nat.le_of_ble_eq_true rfl, Nat.le_of_ble_eq_true rfl⟩) rfl hl.1 (Nat.le_of_ble_eq_true rfl) ⟨by show cells ≤ 601024; omega, by show slots ≤ 7293034; omega⟩ dL_law_898 (fun r S1 H1 locs1 hC1 hz hk hD1 hp => ?_)
  have hB := keepB (D := Em.1) hCm.1 hap hk hD1
  replace hCm : mC Em A s.heap M H1 locs1 := ⟨hB.1, hCm.2.1, hC1.2.2⟩
  refine lv_pop hx hb dL_law_901 rfl ?_
  refine lv_aload_n hx hb dL_law_902 rfl (lv_at hl 2 rfl) ?_
  refine lv_aload_n hx hb dL_law_903 rfl (lv_at hl 0 rfl) ?_
  refine lv_iload hx hb dL_law_904 (lv_at hl 4 rfl) ?_
  refine lv_iconst (v := 1) hx hb dL_law_906 (by decide) ?_
  refine lv_iadd hx hb dL_law_907 ?_
  refine lw_ld (k := 7 * j + 1) hx hb hXs hbl hbA hC1.2.2 (nI_add (7 * j) 1) (by omega) hL dL_law_908 ?_
  refine lv_aload_n hx hb dL_law_909 rfl (lv_at hl 0 rfl) ?_
  refine lv_iload hx hb dL_law_910 (lv_at hl 4 rfl) ?_
  refine lv_iconst (v := 2) hx hb dL_law_912 (by decide) ?_
  refine lv_iadd hx hb dL_law_913 ?_
  refine lw_ld (k := 7 * j + 2) hx hb hXs hbl hbA hC1.2.2 (nI_add (7 * j) 2) (by omega) hL dL_law_914 ?_
  refine lm_calli [.int (xs (7 * j + 1)), .int (xs (7 * j + 2))] (rest := []) hXm hCm (ct_stands l M (xs (7 * j + 1)) (xs (7 * j + 2)) PM hm Em _) (cwV 2 hts (gd_V wd_2187 wd_2188 wd_2189 wd_15 wd_2190) rfl rfl rfl (by decide +kernel) ⟨Nat.le_of_ble_eq_true rfl, Nat.le_of_ble_eq_true rfl⟩) rfl hl.1 (Nat.le_of_ble_eq_true rfl) ⟨by show cells ≤ 601024; omega, by show slots ≤ 7293034; omega⟩ dL_law_915 (fun r1 M1 H2 locs2 hCm1 hz2 hk2 hD2 hp1 => ?_)
  have hB2 := keepB (D := E.1) hC1.1 (Apart_symm hB.2) hk2 hD2
  have hC2 : cM E A s.heap S1 H2 locs2 := ⟨hB2.1, hC1.2.1, hCm1.2.2⟩
  refine lv_pop hx hb dL_law_918 rfl ?_
  refine lv_goto (tgt := 947) hx hb dL_law_919 (by decide) ?_
  exact kk S1 M1 r r1 H2 locs2 ls hp hp1 hC2 hCm1 (Apart_symm hB2.2) hl
set_option maxHeartbeats 4000000 in
set_option maxRecDepth 100000 in
theorem lo_count {p : Program} {l : Launch} {e : Env} {s : State} {m : MethodId} {below : List Frame} {meth : Method} {c : Code} {b L : Nat} {xs : Nat → Int32} {A : Nat → Prop} {E : kE} {Em : mE} {S : kS} {M : mS} {H : Heap} {locs : List Loc} {ls : Array Slot} {x oq j cells slots : Nat} {Q : State → Prop} (C0 : lw_At p s m meth c b L xs) (hbA : ¬ A b) (hL : L ≤ 3584) (hj : 7 * j + 7 ≤ L) (hX : kX RL p s m #[Value.ref b] c code 7 E A) (hXm : mXo RL p s m #[Value.ref b] c code 7 Em A) (hC : cM E A s.heap S H locs) (hCm : mC Em A s.heap M H locs) (hap : Apart (cW E S) (mW Em M)) (hl : lv_has ls 7 [(0, .ref b), (1, .ref x), (2, .ref Em.2.1), (3, .ref oq), (4, .int (nI (7 * j)))]) (hcs : cells + 105000 ≤ 601024 ∧ slots + 2100000 ≤ 7293034) {PK : kS → Int32 → Prop} {PM : mS → Int32 → Prop} (ho : hasO S x 11) (h : wp_X11_count x (xs (7 * j + 1)) S PK) (hm : wp_count (xs (7 * j + 1)) M PM)
    (kk : ∀ (S1 : kS) (M1 : mS) (r r1 : Int32) (H1 : Heap) (locs1 : List Loc) (ls1 : Array Slot), PK S1 r → PM M1 r1 → cM E A s.heap S1 H1 locs1 → mC Em A s.heap M1 H1 locs1 → Apart (cW E S1) (mW Em M1) → lv_has ls1 7 [(0, .ref b), (1, .ref x), (2, .ref Em.2.1), (3, .ref oq), (4, .int (nI (7 * j)))] → W p l e room_1 s m #[Value.ref b] below meth c H1 locs1 (cells) (slots) Q (F0 m 947 ls1 [])) : W p l e room_1 s m #[Value.ref b] below meth c H locs cells slots Q (F0 m 922 ls []) := by
  obtain ⟨hx, hb, hr, hml, hown, hts0, hXs, hbl, hlocks, hgv⟩ := C0
  have hts : ∀ w ∈ tb, w.before _ s = true := fun w h => hts0 w (List.mem_filter.mp h).1
  refine lv_aload_n hx hb dL_law_922 rfl (lv_at hl 1 rfl) ?_
  refine lv_aload_n hx hb dL_law_923 rfl (lv_at hl 0 rfl) ?_
  refine lv_iload hx hb dL_law_924 (lv_at hl 4 rfl) ?_
  refine lv_iconst (v := 1) hx hb dL_law_926 (by decide) ?_
  refine lv_iadd hx hb dL_law_927 ?_
  refine lw_ld (k := 7 * j + 1) hx hb hXs hbl hbA hC.2.2 (nI_add (7 * j) 1) (by omega) hL dL_law_928 ?_
  refine lk_calli [.int (xs (7 * j + 1))] (a := x) (ci := 11) (rest := []) rfl hX hC ho (kt_X11_count l S x (xs (7 * j + 1)) PK h E _) (cwV 1 hts (gd_V wd_1272 wd_1273 wd_1274 wd_1 wd_1275) rfl rfl rfl (by decide +kernel) ⟨Nat.le_of_ble_eq_true rfl, Nat.le_of_ble_eq_true rfl⟩) rfl hl.1 (Nat.le_of_ble_eq_true rfl) ⟨by show cells ≤ 601024; omega, by show slots ≤ 7293034; omega⟩ dL_law_929 (fun r S1 H1 locs1 hC1 hz hk hD1 hp => ?_)
  have hB := keepB (D := Em.1) hCm.1 hap hk hD1
  replace hCm : mC Em A s.heap M H1 locs1 := ⟨hB.1, hCm.2.1, hC1.2.2⟩
  refine lv_pop hx hb dL_law_932 rfl ?_
  refine lv_aload_n hx hb dL_law_933 rfl (lv_at hl 2 rfl) ?_
  refine lv_aload_n hx hb dL_law_934 rfl (lv_at hl 0 rfl) ?_
  refine lv_iload hx hb dL_law_935 (lv_at hl 4 rfl) ?_
  refine lv_iconst (v := 1) hx hb dL_law_937 (by decide) ?_
  refine lv_iadd hx hb dL_law_938 ?_
  refine lw_ld (k := 7 * j + 1) hx hb hXs hbl hbA hC1.2.2 (nI_add (7 * j) 1) (by omega) hL dL_law_939 ?_
  refine lm_calli [.int (xs (7 * j + 1))] (rest := []) hXm hCm (ct_count l M (xs (7 * j + 1)) PM hm Em _) (cwV 1 hts (gd_V wd_2199 wd_2200 wd_2201 wd_15 wd_2202) rfl rfl rfl (by decide +kernel) ⟨Nat.le_of_ble_eq_true rfl, Nat.le_of_ble_eq_true rfl⟩) rfl hl.1 (Nat.le_of_ble_eq_true rfl) ⟨by show cells ≤ 601024; omega, by show slots ≤ 7293034; omega⟩ dL_law_940 (fun r1 M1 H2 locs2 hCm1 hz2 hk2 hD2 hp1 => ?_)
  have hB2 := keepB (D := E.1) hC1.1 (Apart_symm hB.2) hk2 hD2
  have hC2 : cM E A s.heap S1 H2 locs2 := ⟨hB2.1, hC1.2.1, hCm1.2.2⟩
  refine lv_pop hx hb dL_law_943 rfl ?_
  refine lv_goto (tgt := 947) hx hb dL_law_944 (by decide) ?_
  exact kk S1 M1 r r1 H2 locs2 ls hp hp1 hC2 hCm1 (Apart_symm hB2.2) hl
