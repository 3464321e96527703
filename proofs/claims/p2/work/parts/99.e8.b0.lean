theorem wd_0 : (Jvm.Cond.initialized "SleepersLaw") ∈ tb := tb_at 0 (by decide +kernel) (by decide +kernel)
theorem wd_500 : (Jvm.Cond.methodLink "SleepersLaw" (27 : Nat) ({ cls := "Sleepers", name := "feed", desc := "(JJJ)I" } : Jvm.MethodName)) ∈ tb := tb_at 500 (by decide +kernel) (by decide +kernel)
theorem wd_501 : (Jvm.Cond.instanceMethod ({ cls := "Sleepers", name := "feed", desc := "(JJJ)I" } : Jvm.MethodName)) ∈ tb := tb_at 501 (by decide +kernel) (by decide +kernel)
theorem wd_502 : (Jvm.Cond.selects "Sleepers" ({ cls := "Sleepers", name := "feed", desc := "(JJJ)I" } : Jvm.MethodName) ({ cls := "Sleepers", name := "feed", desc := "(JJJ)I" } : Jvm.MethodName)) ∈ tb := tb_at 502 (by decide +kernel) (by decide +kernel)
theorem wd_503 : (Jvm.Cond.code ({ cls := "Sleepers", name := "feed", desc := "(JJJ)I" } : Jvm.MethodName) prog_1_method_2_code (7 : Nat) (Option.some Jvm.ClassFile.FieldType.int)) ∈ tb := tb_at 503 (by decide +kernel) (by decide +kernel)
theorem wd_508 : (Jvm.Cond.methodLink "SleepersLaw" (32 : Nat) ({ cls := "Sleepers", name := "program", desc := "()I" } : Jvm.MethodName)) ∈ tb := tb_at 508 (by decide +kernel) (by decide +kernel)
theorem wd_509 : (Jvm.Cond.instanceMethod ({ cls := "Sleepers", name := "program", desc := "()I" } : Jvm.MethodName)) ∈ tb := tb_at 509 (by decide +kernel) (by decide +kernel)
theorem wd_510 : (Jvm.Cond.selects "Sleepers" ({ cls := "Sleepers", name := "program", desc := "()I" } : Jvm.MethodName) ({ cls := "Sleepers", name := "program", desc := "()I" } : Jvm.MethodName)) ∈ tb := tb_at 510 (by decide +kernel) (by decide +kernel)
theorem wd_511 : (Jvm.Cond.code ({ cls := "Sleepers", name := "program", desc := "()I" } : Jvm.MethodName) prog_1_method_3_code (3 : Nat) (Option.some Jvm.ClassFile.FieldType.int)) ∈ tb := tb_at 511 (by decide +kernel) (by decide +kernel)
theorem wd_776 : (Jvm.Cond.methodLink "SleepersLaw" (37 : Nat) ({ cls := "Sleepers", name := "named", desc := "(I)I" } : Jvm.MethodName)) ∈ tb := tb_at 776 (by decide +kernel) (by decide +kernel)
theorem wd_777 : (Jvm.Cond.instanceMethod ({ cls := "Sleepers", name := "named", desc := "(I)I" } : Jvm.MethodName)) ∈ tb := tb_at 777 (by decide +kernel) (by decide +kernel)
theorem wd_778 : (Jvm.Cond.selects "Sleepers" ({ cls := "Sleepers", name := "named", desc := "(I)I" } : Jvm.MethodName) ({ cls := "Sleepers", name := "named", desc := "(I)I" } : Jvm.MethodName)) ∈ tb := tb_at 778 (by decide +kernel) (by decide +kernel)
theorem wd_779 : (Jvm.Cond.code ({ cls := "Sleepers", name := "named", desc := "(I)I" } : Jvm.MethodName) prog_1_method_4_code (4 : Nat) (Option.some Jvm.ClassFile.FieldType.int)) ∈ tb := tb_at 779 (by decide +kernel) (by decide +kernel)
theorem wd_786 : (Jvm.Cond.methodLink "SleepersLaw" (48 : Nat) ({ cls := "Sleepers", name := "live", desc := "(III)I" } : Jvm.MethodName)) ∈ tb := tb_at 786 (by decide +kernel) (by decide +kernel)
theorem wd_787 : (Jvm.Cond.instanceMethod ({ cls := "Sleepers", name := "live", desc := "(III)I" } : Jvm.MethodName)) ∈ tb := tb_at 787 (by decide +kernel) (by decide +kernel)
theorem wd_788 : (Jvm.Cond.selects "Sleepers" ({ cls := "Sleepers", name := "live", desc := "(III)I" } : Jvm.MethodName) ({ cls := "Sleepers", name := "live", desc := "(III)I" } : Jvm.MethodName)) ∈ tb := tb_at 788 (by decide +kernel) (by decide +kernel)
theorem wd_789 : (Jvm.Cond.code ({ cls := "Sleepers", name := "live", desc := "(III)I" } : Jvm.MethodName) prog_1_method_6_code (4 : Nat) (Option.some Jvm.ClassFile.FieldType.int)) ∈ tb := tb_at 789 (by decide +kernel) (by decide +kernel)
theorem wd_1280 : (Jvm.Cond.methodLink "SleepersLaw" (42 : Nat) ({ cls := "SleepersLaw", name := "routine", desc := "(LSleepers;II[J)I" } : Jvm.MethodName)) ∈ tb := tb_at 1280 (by decide +kernel) (by decide +kernel)
theorem wd_1281 : (Jvm.Cond.static ({ cls := "SleepersLaw", name := "routine", desc := "(LSleepers;II[J)I" } : Jvm.MethodName)) ∈ tb := tb_at 1281 (by decide +kernel) (by decide +kernel)
theorem wd_1282 : (Jvm.Cond.codeWith ({ cls := "SleepersLaw", name := "routine", desc := "(LSleepers;II[J)I" } : Jvm.MethodName) method_3_code (5 : Nat) (Option.some Jvm.ClassFile.FieldType.int) [((0 : Nat), (10 : Nat), (13 : Nat), (13 : Nat))]) ∈ tb := tb_at 1282 (by decide +kernel) (by decide +kernel)
theorem wd_1375 : (Jvm.Cond.methodLink "SleepersLaw" (31 : Nat) ({ cls := "SleepersModel", name := "feed", desc := "(JJJ)I" } : Jvm.MethodName)) ∈ tb := tb_at 1375 (by decide +kernel) (by decide +kernel)
theorem wd_1376 : (Jvm.Cond.instanceMethod ({ cls := "SleepersModel", name := "feed", desc := "(JJJ)I" } : Jvm.MethodName)) ∈ tb := tb_at 1376 (by decide +kernel) (by decide +kernel)
theorem wd_1377 : (Jvm.Cond.selects "SleepersModel" ({ cls := "SleepersModel", name := "feed", desc := "(JJJ)I" } : Jvm.MethodName) ({ cls := "SleepersModel", name := "feed", desc := "(JJJ)I" } : Jvm.MethodName)) ∈ tb := tb_at 1377 (by decide +kernel) (by decide +kernel)
theorem wd_1378 : (Jvm.Cond.code ({ cls := "SleepersModel", name := "feed", desc := "(JJJ)I" } : Jvm.MethodName) prog_14_method_2_code (7 : Nat) (Option.some Jvm.ClassFile.FieldType.int)) ∈ tb := tb_at 1378 (by decide +kernel) (by decide +kernel)
theorem wd_1786 : (Jvm.Cond.methodLink "SleepersLaw" (36 : Nat) ({ cls := "SleepersModel", name := "program", desc := "()I" } : Jvm.MethodName)) ∈ tb := tb_at 1786 (by decide +kernel) (by decide +kernel)
theorem wd_1787 : (Jvm.Cond.instanceMethod ({ cls := "SleepersModel", name := "program", desc := "()I" } : Jvm.MethodName)) ∈ tb := tb_at 1787 (by decide +kernel) (by decide +kernel)
theorem wd_1788 : (Jvm.Cond.selects "SleepersModel" ({ cls := "SleepersModel", name := "program", desc := "()I" } : Jvm.MethodName) ({ cls := "SleepersModel", name := "program", desc := "()I" } : Jvm.MethodName)) ∈ tb := tb_at 1788 (by decide +kernel) (by decide +kernel)
theorem wd_1789 : (Jvm.Cond.code ({ cls := "SleepersModel", name := "program", desc := "()I" } : Jvm.MethodName) prog_14_method_20_code (3 : Nat) (Option.some Jvm.ClassFile.FieldType.int)) ∈ tb := tb_at 1789 (by decide +kernel) (by decide +kernel)
theorem wd_1958 : (Jvm.Cond.methodLink "SleepersLaw" (52 : Nat) ({ cls := "SleepersModel", name := "live", desc := "(III)I" } : Jvm.MethodName)) ∈ tb := tb_at 1958 (by decide +kernel) (by decide +kernel)
theorem wd_1959 : (Jvm.Cond.instanceMethod ({ cls := "SleepersModel", name := "live", desc := "(III)I" } : Jvm.MethodName)) ∈ tb := tb_at 1959 (by decide +kernel) (by decide +kernel)
theorem wd_1960 : (Jvm.Cond.selects "SleepersModel" ({ cls := "SleepersModel", name := "live", desc := "(III)I" } : Jvm.MethodName) ({ cls := "SleepersModel", name := "live", desc := "(III)I" } : Jvm.MethodName)) ∈ tb := tb_at 1960 (by decide +kernel) (by decide +kernel)
theorem wd_1961 : (Jvm.Cond.code ({ cls := "SleepersModel", name := "live", desc := "(III)I" } : Jvm.MethodName) prog_14_method_57_code (7 : Nat) (Option.some Jvm.ClassFile.FieldType.int)) ∈ tb := tb_at 1961 (by decide +kernel) (by decide +kernel)
theorem wd_2191 : (Jvm.Cond.methodLink "SleepersLaw" (41 : Nat) ({ cls := "SleepersModel", name := "named", desc := "(I)I" } : Jvm.MethodName)) ∈ tb := tb_at 2191 (by decide +kernel) (by decide +kernel)
theorem wd_2192 : (Jvm.Cond.instanceMethod ({ cls := "SleepersModel", name := "named", desc := "(I)I" } : Jvm.MethodName)) ∈ tb := tb_at 2192 (by decide +kernel) (by decide +kernel)
theorem wd_2193 : (Jvm.Cond.selects "SleepersModel" ({ cls := "SleepersModel", name := "named", desc := "(I)I" } : Jvm.MethodName) ({ cls := "SleepersModel", name := "named", desc := "(I)I" } : Jvm.MethodName)) ∈ tb := tb_at 2193 (by decide +kernel) (by decide +kernel)
theorem wd_2194 : (Jvm.Cond.code ({ cls := "SleepersModel", name := "named", desc := "(I)I" } : Jvm.MethodName) prog_14_method_108_code (3 : Nat) (Option.some Jvm.ClassFile.FieldType.int)) ∈ tb := tb_at 2194 (by decide +kernel) (by decide +kernel)
theorem wd_2195 : (Jvm.Cond.methodLink "SleepersLaw" (47 : Nat) ({ cls := "SleepersModel", name := "routine", desc := "(II)I" } : Jvm.MethodName)) ∈ tb := tb_at 2195 (by decide +kernel) (by decide +kernel)
theorem wd_2196 : (Jvm.Cond.instanceMethod ({ cls := "SleepersModel", name := "routine", desc := "(II)I" } : Jvm.MethodName)) ∈ tb := tb_at 2196 (by decide +kernel) (by decide +kernel)
theorem wd_2197 : (Jvm.Cond.selects "SleepersModel" ({ cls := "SleepersModel", name := "routine", desc := "(II)I" } : Jvm.MethodName) ({ cls := "SleepersModel", name := "routine", desc := "(II)I" } : Jvm.MethodName)) ∈ tb := tb_at 2197 (by decide +kernel) (by decide +kernel)
theorem wd_2198 : (Jvm.Cond.code ({ cls := "SleepersModel", name := "routine", desc := "(II)I" } : Jvm.MethodName) prog_14_method_109_code (4 : Nat) (Option.some Jvm.ClassFile.FieldType.int)) ∈ tb := tb_at 2198 (by decide +kernel) (by decide +kernel)
theorem wd_2203 : (Jvm.Cond.constantLong "SleepersLaw" (25 : Nat) (4294967295 : Int64)) ∈ tb := tb_at 2203 (by decide +kernel) (by decide +kernel)
set_option maxHeartbeats 4000000 in
set_option maxRecDepth 100000 in
theorem lo_feed {p : Program} {l : Launch} {e : Env} {s : State} {m : MethodId} {below : List Frame} {meth : Method} {c : Code} {b L : Nat} {xs : Nat → Int32} {A : Nat → Prop} {E : kE} {Em : mE} {S : kS} {M : mS} {H : Heap} {locs : List Loc} {ls : Array Slot} {x oq j cells slots : Nat} {Q : State → Prop} (C0 : lw_At p s m meth c b L xs) (hbA : ¬ A b) (hL : L ≤ 3584) (hj : 7 * j + 7 ≤ L) (hX : kX RL p s m #[Value.ref b] c code 7 E A) (hXm : mXo RL p s m #[Value.ref b] c code 7 Em A) (hC : cM E A s.heap S H locs) (hCm : mC Em A s.heap M H locs) (hap : Apart (cW E S) (mW Em M)) (hl : lv_has ls 7 [(0, .ref b), (1, .ref x), (2, .ref Em.2.1), (3, .ref oq), (4, .int (nI (7 * j)))]) (hcs : cells + 105000 ≤ 601024 ∧ slots + 2100000 ≤ 7293034) {PK : kS → Int32 → Prop} {PM : mS → Int32 → Prop} (ho : hasO S x 11) (h : wp_X11_feed x (lwL (xs (7 * j + 1)) (xs (7 * j + 2))) (lwL (xs (7 * j + 3)) (xs (7 * j + 4))) (lwL (xs (7 * j + 5)) (xs (7 * j + 6))) S PK) (hm : wp_feed (lwL (xs (7 * j + 1)) (xs (7 * j + 2))) (lwL (xs (7 * j + 3)) (xs (7 * j + 4))) (lwL (xs (7 * j + 5)) (xs (7 * j + 6))) M PM) (hrr : ∀ (S1 : kS) (M1 : mS) (r r1 : Int32), PK S1 r → PM M1 r1 → r = r1)
    (kk : ∀ (S1 : kS) (M1 : mS) (r r1 : Int32) (H1 : Heap) (locs1 : List Loc) (ls1 : Array Slot), PK S1 r → PM M1 r1 → cM E A s.heap S1 H1 locs1 → mC Em A s.heap M1 H1 locs1 → Apart (cW E S1) (mW Em M1) → lv_has ls1 7 [(0, .ref b), (1, .ref x), (2, .ref Em.2.1), (3, .ref oq), (4, .int (nI (7 * j)))] → W p l e room_1 s m #[Value.ref b] below meth c H1 locs1 (cells) (slots) Q (F0 m 947 ls1 [])) : W p l e room_1 s m #[Value.ref b] below meth c H locs cells slots Q (F0 m 136 ls []) := by
  obtain ⟨hx, hb, hr, hml, hown, hts0, hXs, hbl, hlocks, hgv⟩ := C0
  have hts : ∀ w ∈ tb, w.before _ s = true := fun w h => hts0 w (List.mem_filter.mp h).1
  refine lv_aload_n hx hb dL_law_136 rfl (lv_at hl 1 rfl) ?_
  refine lv_aload_n hx hb dL_law_137 rfl (lv_at hl 0 rfl) ?_
  refine lv_iload hx hb dL_law_138 (lv_at hl 4 rfl) ?_
  refine lv_iconst (v := 1) hx hb dL_law_140 (by decide) ?_
  refine lv_iadd hx hb dL_law_141 ?_
  refine lw_ld (k := 7 * j + 1) hx hb hXs hbl hbA hC.2.2 (nI_add (7 * j) 1) (by omega) hL dL_law_142 ?_
  refine lv_i2l hx hb dL_law_143 rfl ?_
  refine lv_bipush (v := 32) hx hb dL_law_144 (by decide) ?_
  refine lv_lshl hx hb dL_law_146 rfl ?_
  refine lv_aload_n hx hb dL_law_147 rfl (lv_at hl 0 rfl) ?_
  refine lv_iload hx hb dL_law_148 (lv_at hl 4 rfl) ?_
  refine lv_iconst (v := 2) hx hb dL_law_150 (by decide) ?_
  refine lv_iadd hx hb dL_law_151 ?_
  refine lw_ld (k := 7 * j + 2) hx hb hXs hbl hbA hC.2.2 (nI_add (7 * j) 2) (by omega) hL dL_law_152 ?_
  refine lv_i2l hx hb dL_law_153 rfl ?_
  refine lv_ldc2 (v := 4294967295) hx hb hown (hts _ wd_2203) dL_law_154 ?_
  refine lv_land hx hb dL_law_157 ?_
  refine lv_lor hx hb dL_law_158 ?_
  refine lv_aload_n hx hb dL_law_159 rfl (lv_at hl 0 rfl) ?_
  refine lv_iload hx hb dL_law_160 (lv_at hl 4 rfl) ?_
  refine lv_iconst (v := 3) hx hb dL_law_162 (by decide) ?_
  refine lv_iadd hx hb dL_law_163 ?_
  refine lw_ld (k := 7 * j + 3) hx hb hXs hbl hbA hC.2.2 (nI_add (7 * j) 3) (by omega) hL dL_law_164 ?_
  refine lv_i2l hx hb dL_law_165 rfl ?_
  refine lv_bipush (v := 32) hx hb dL_law_166 (by decide) ?_
  refine lv_lshl hx hb dL_law_168 rfl ?_
  refine lv_aload_n hx hb dL_law_169 rfl (lv_at hl 0 rfl) ?_
  refine lv_iload hx hb dL_law_170 (lv_at hl 4 rfl) ?_
  refine lv_iconst (v := 4) hx hb dL_law_172 (by decide) ?_
  refine lv_iadd hx hb dL_law_173 ?_
  refine lw_ld (k := 7 * j + 4) hx hb hXs hbl hbA hC.2.2 (nI_add (7 * j) 4) (by omega) hL dL_law_174 ?_
  refine lv_i2l hx hb dL_law_175 rfl ?_
  refine lv_ldc2 (v := 4294967295) hx hb hown (hts _ wd_2203) dL_law_176 ?_
  refine lv_land hx hb dL_law_179 ?_
  refine lv_lor hx hb dL_law_180 ?_
  refine lv_aload_n hx hb dL_law_181 rfl (lv_at hl 0 rfl) ?_
  refine lv_iload hx hb dL_law_182 (lv_at hl 4 rfl) ?_
  refine lv_iconst (v := 5) hx hb dL_law_184 (by decide) ?_
  refine lv_iadd hx hb dL_law_185 ?_
  refine lw_ld (k := 7 * j + 5) hx hb hXs hbl hbA hC.2.2 (nI_add (7 * j) 5) (by omega) hL dL_law_186 ?_
  refine lv_i2l hx hb dL_law_187 rfl ?_
  refine lv_bipush (v := 32) hx hb dL_law_188 (by decide) ?_
  refine lv_lshl hx hb dL_law_190 rfl ?_
  refine lv_aload_n hx hb dL_law_191 rfl (lv_at hl 0 rfl) ?_
  refine lv_iload hx hb dL_law_192 (lv_at hl 4 rfl) ?_
  refine lv_bipush (v := 6) hx hb dL_law_194 (by decide) ?_
  refine lv_iadd hx hb dL_law_196 ?_
  refine lw_ld (k := 7 * j + 6) hx hb hXs hbl hbA hC.2.2 (nI_add (7 * j) 6) (by omega) hL dL_law_197 ?_
  refine lv_i2l hx hb dL_law_198 rfl ?_
  refine lv_ldc2 (v := 4294967295) hx hb hown (hts _ wd_2203) dL_law_199 ?_
  refine lv_land hx hb dL_law_202 ?_
  refine lv_lor hx hb dL_law_203 ?_
  refine lk_calli [.long (lwL (xs (7 * j + 1)) (xs (7 * j + 2))), .long (lwL (xs (7 * j + 3)) (xs (7 * j + 4))), .long (lwL (xs (7 * j + 5)) (xs (7 * j + 6)))] (a := x) (ci := 11) (rest := []) rfl hX hC ho (kt_X11_feed l S x (lwL (xs (7 * j + 1)) (xs (7 * j + 2))) (lwL (xs (7 * j + 3)) (xs (7 * j + 4))) (lwL (xs (7 * j + 5)) (xs (7 * j + 6))) PK h E _) (cwV 3 hts (gd_V wd_500 wd_501 wd_502 wd_1 wd_503) rfl rfl rfl (by decide +kernel) ⟨Nat.le_of_ble_eq_true rfl, Nat.le_of_ble_eq_true rfl⟩) rfl hl.1 (Nat.le_of_ble_eq_true rfl) ⟨by show cells ≤ 601024; omega, by show slots ≤ 7293034; omega⟩ dL_law_204 (fun r S1 H1 locs1 hC1 hz hk hD1 hp => ?_)
  have hB := keepB (D := Em.1) hCm.1 hap hk hD1
  replace hCm : mC Em A s.heap M H1 locs1 := ⟨hB.1, hCm.2.1, hC1.2.2⟩
  refine lv_aload_n hx hb dL_law_207 rfl (lv_at hl 2 rfl) ?_
  refine lv_aload_n hx hb dL_law_208 rfl (lv_at hl 0 rfl) ?_
  refine lv_iload hx hb dL_law_209 (lv_at hl 4 rfl) ?_
  refine lv_iconst (v := 1) hx hb dL_law_211 (by decide) ?_
  refine lv_iadd hx hb dL_law_212 ?_
  refine lw_ld (k := 7 * j + 1) hx hb hXs hbl hbA hC1.2.2 (nI_add (7 * j) 1) (by omega) hL dL_law_213 ?_
  refine lv_i2l hx hb dL_law_214 rfl ?_
  refine lv_bipush (v := 32) hx hb dL_law_215 (by decide) ?_
  refine lv_lshl hx hb dL_law_217 rfl ?_
  refine lv_aload_n hx hb dL_law_218 rfl (lv_at hl 0 rfl) ?_
  refine lv_iload hx hb dL_law_219 (lv_at hl 4 rfl) ?_
  refine lv_iconst (v := 2) hx hb dL_law_221 (by decide) ?_
  refine lv_iadd hx hb dL_law_222 ?_
  refine lw_ld (k := 7 * j + 2) hx hb hXs hbl hbA hC1.2.2 (nI_add (7 * j) 2) (by omega) hL dL_law_223 ?_
  refine lv_i2l hx hb dL_law_224 rfl ?_
  refine lv_ldc2 (v := 4294967295) hx hb hown (hts _ wd_2203) dL_law_225 ?_
  refine lv_land hx hb dL_law_228 ?_
  refine lv_lor hx hb dL_law_229 ?_
  refine lv_aload_n hx hb dL_law_230 rfl (lv_at hl 0 rfl) ?_
  refine lv_iload hx hb dL_law_231 (lv_at hl 4 rfl) ?_
  refine lv_iconst (v := 3) hx hb dL_law_233 (by decide) ?_
  refine lv_iadd hx hb dL_law_234 ?_
  refine lw_ld (k := 7 * j + 3) hx hb hXs hbl hbA hC1.2.2 (nI_add (7 * j) 3) (by omega) hL dL_law_235 ?_
  refine lv_i2l hx hb dL_law_236 rfl ?_
  refine lv_bipush (v := 32) hx hb dL_law_237 (by decide) ?_
  refine lv_lshl hx hb dL_law_239 rfl ?_
  refine lv_aload_n hx hb dL_law_240 rfl (lv_at hl 0 rfl) ?_
  refine lv_iload hx hb dL_law_241 (lv_at hl 4 rfl) ?_
  refine lv_iconst (v := 4) hx hb dL_law_243 (by decide) ?_
  refine lv_iadd hx hb dL_law_244 ?_
  refine lw_ld (k := 7 * j + 4) hx hb hXs hbl hbA hC1.2.2 (nI_add (7 * j) 4) (by omega) hL dL_law_245 ?_
  refine lv_i2l hx hb dL_law_246 rfl ?_
  refine lv_ldc2 (v := 4294967295) hx hb hown (hts _ wd_2203) dL_law_247 ?_
  refine lv_land hx hb dL_law_250 ?_
  refine lv_lor hx hb dL_law_251 ?_
  refine lv_aload_n hx hb dL_law_252 rfl (lv_at hl 0 rfl) ?_
  refine lv_iload hx hb dL_law_253 (lv_at hl 4 rfl) ?_
  refine lv_iconst (v := 5) hx hb dL_law_255 (by decide) ?_
  refine lv_iadd hx hb dL_law_256 ?_
  refine lw_ld (k := 7 * j + 5) hx hb hXs hbl hbA hC1.2.2 (nI_add (7 * j) 5) (by omega) hL dL_law_257 ?_
  refine lv_i2l hx hb dL_law_258 rfl ?_
  refine lv_bipush (v := 32) hx hb dL_law_259 (by decide) ?_
  refine lv_lshl hx hb dL_law_261 rfl ?_
  refine lv_aload_n hx hb dL_law_262 rfl (lv_at hl 0 rfl) ?_
  refine lv_iload hx hb dL_law_263 (lv_at hl 4 rfl) ?_
  refine lv_bipush (v := 6) hx hb dL_law_265 (by decide) ?_
  refine lv_iadd hx hb dL_law_267 ?_
  refine lw_ld (k := 7 * j + 6) hx hb hXs hbl hbA hC1.2.2 (nI_add (7 * j) 6) (by omega) hL dL_law_268 ?_
  refine lv_i2l hx hb dL_law_269 rfl ?_
  refine lv_ldc2 (v := 4294967295) hx hb hown (hts _ wd_2203) dL_law_270 ?_
  refine lv_land hx hb dL_law_273 ?_
  refine lv_lor hx hb dL_law_274 ?_
  refine lm_calli [.long (lwL (xs (7 * j + 1)) (xs (7 * j + 2))), .long (lwL (xs (7 * j + 3)) (xs (7 * j + 4))), .long (lwL (xs (7 * j + 5)) (xs (7 * j + 6)))] (rest := [.int r]) hXm hCm (ct_feed l M (lwL (xs (7 * j + 1)) (xs (7 * j + 2))) (lwL (xs (7 * j + 3)) (xs (7 * j + 4))) (lwL (xs (7 * j + 5)) (xs (7 * j + 6))) PM hm Em _) (cwV 3 hts (gd_V wd_1375 wd_1376 wd_1377 wd_15 wd_1378) rfl rfl rfl (by decide +kernel) ⟨Nat.le_of_ble_eq_true rfl, Nat.le_of_ble_eq_true rfl⟩) rfl hl.1 (Nat.le_of_ble_eq_true rfl) ⟨by show cells ≤ 601024; omega, by show slots ≤ 7293034; omega⟩ dL_law_275 (fun r1 M1 H2 locs2 hCm1 hz2 hk2 hD2 hp1 => ?_)
  have hB2 := keepB (D := E.1) hC1.1 (Apart_symm hB.2) hk2 hD2
  have hC2 : cM E A s.heap S1 H2 locs2 := ⟨hB2.1, hC1.2.1, hCm1.2.2⟩
  refine lv_icmp_eq (tgt := 947) hx hb dL_law_278 (by decide) (fun _ => ?_) (fun c9 => absurd (hrr S1 M1 r r1 hp hp1) c9)
  exact kk S1 M1 r r1 H2 locs2 ls hp hp1 hC2 hCm1 (Apart_symm hB2.2) hl
set_option maxHeartbeats 4000000 in
set_option maxRecDepth 100000 in
theorem lo_program {p : Program} {l : Launch} {e : Env} {s : State} {m : MethodId} {below : List Frame} {meth : Method} {c : Code} {b L : Nat} {xs : Nat → Int32} {A : Nat → Prop} {E : kE} {Em : mE} {S : kS} {M : mS} {H : Heap} {locs : List Loc} {ls : Array Slot} {x oq j cells slots : Nat} {Q : State → Prop} (C0 : lw_At p s m meth c b L xs) (hbA : ¬ A b) (hL : L ≤ 3584) (hj : 7 * j + 7 ≤ L) (hX : kX RL p s m #[Value.ref b] c code 7 E A) (hXm : mXo RL p s m #[Value.ref b] c code 7 Em A) (hC : cM E A s.heap S H locs) (hCm : mC Em A s.heap M H locs) (hap : Apart (cW E S) (mW Em M)) (hl : lv_has ls 7 [(0, .ref b), (1, .ref x), (2, .ref Em.2.1), (3, .ref oq), (4, .int (nI (7 * j)))]) (hcs : cells + 105000 ≤ 601024 ∧ slots + 2100000 ≤ 7293034) {PK : kS → Int32 → Prop} {PM : mS → Int32 → Prop} (ho : hasO S x 11) (h : wp_X11_program x S PK) (hm : wp_program M PM)
    (kk : ∀ (S1 : kS) (M1 : mS) (r r1 : Int32) (H1 : Heap) (locs1 : List Loc) (ls1 : Array Slot), PK S1 r → PM M1 r1 → cM E A s.heap S1 H1 locs1 → mC Em A s.heap M1 H1 locs1 → Apart (cW E S1) (mW Em M1) → lv_has ls1 7 [(0, .ref b), (1, .ref x), (2, .ref Em.2.1), (3, .ref oq), (4, .int (nI (7 * j)))] → W p l e room_1 s m #[Value.ref b] below meth c H1 locs1 (cells) (slots) Q (F0 m 947 ls1 [])) : W p l e room_1 s m #[Value.ref b] below meth c H locs cells slots Q (F0 m 283 ls []) := by
  obtain ⟨hx, hb, hr, hml, hown, hts0, hXs, hbl, hlocks, hgv⟩ := C0
  have hts : ∀ w ∈ tb, w.before _ s = true := fun w h => hts0 w (List.mem_filter.mp h).1
  refine lv_aload_n hx hb dL_law_283 rfl (lv_at hl 1 rfl) ?_
  refine lk_calli [] (a := x) (ci := 11) (rest := []) rfl hX hC ho (kt_X11_program l S x  PK h E _) (cwV 0 hts (gd_V wd_508 wd_509 wd_510 wd_1 wd_511) rfl rfl rfl (by decide +kernel) ⟨Nat.le_of_ble_eq_true rfl, Nat.le_of_ble_eq_true rfl⟩) rfl hl.1 (Nat.le_of_ble_eq_true rfl) ⟨by show cells ≤ 601024; omega, by show slots ≤ 7293034; omega⟩ dL_law_284 (fun r S1 H1 locs1 hC1 hz hk hD1 hp => ?_)
  have hB := keepB (D := Em.1) hCm.1 hap hk hD1
  replace hCm : mC Em A s.heap M H1 locs1 := ⟨hB.1, hCm.2.1, hC1.2.2⟩
  refine lv_pop hx hb dL_law_287 rfl ?_
  refine lv_aload_n hx hb dL_law_288 rfl (lv_at hl 2 rfl) ?_
  refine lm_calli [] (rest := []) hXm hCm (ct_program l M  PM hm Em _) (cwV 0 hts (gd_V wd_1786 wd_1787 wd_1788 wd_15 wd_1789) rfl rfl rfl (by decide +kernel) ⟨Nat.le_of_ble_eq_true rfl, Nat.le_of_ble_eq_true rfl⟩) rfl hl.1 (Nat.le_of_ble_eq_true rfl) ⟨by show cells ≤ 601024; omega, by show slots ≤ 7293034; omega⟩ dL_law_289 (fun r1 M1 H2 locs2 hCm1 hz2 hk2 hD2 hp1 => ?_)
  have hB2 := keepB (D := E.1) hC1.1 (Apart_symm hB.2) hk2 hD2
  have hC2 : cM E A s.heap S1 H2 locs2 := ⟨hB2.1, hC1.2.1, hCm1.2.2⟩
  refine lv_pop hx hb dL_law_292 rfl ?_
  refine lv_goto (tgt := 947) hx hb dL_law_293 (by decide) ?_
  exact kk S1 M1 r r1 H2 locs2 ls hp hp1 hC2 hCm1 (Apart_symm hB2.2) hl
set_option maxHeartbeats 4000000 in
set_option maxRecDepth 100000 in
theorem lo_named {p : Program} {l : Launch} {e : Env} {s : State} {m : MethodId} {below : List Frame} {meth : Method} {c : Code} {b L : Nat} {xs : Nat → Int32} {A : Nat → Prop} {E : kE} {Em : mE} {S : kS} {M : mS} {H : Heap} {locs : List Loc} {ls : Array Slot} {x oq j cells slots : Nat} {Q : State → Prop} (C0 : lw_At p s m meth c b L xs) (hbA : ¬ A b) (hL : L ≤ 3584) (hj : 7 * j + 7 ≤ L) (hX : kX RL p s m #[Value.ref b] c code 7 E A) (hXm : mXo RL p s m #[Value.ref b] c code 7 Em A) (hC : cM E A s.heap S H locs) (hCm : mC Em A s.heap M H locs) (hap : Apart (cW E S) (mW Em M)) (hl : lv_has ls 7 [(0, .ref b), (1, .ref x), (2, .ref Em.2.1), (3, .ref oq), (4, .int (nI (7 * j)))]) (hcs : cells + 105000 ≤ 601024 ∧ slots + 2100000 ≤ 7293034) {PK : kS → Int32 → Prop} {PM : mS → Int32 → Prop} (ho : hasO S x 11) (h : wp_X11_named x (xs (7 * j + 1)) S PK) (hm : wp_named (xs (7 * j + 1)) M PM)
    (kk : ∀ (S1 : kS) (M1 : mS) (r r1 : Int32) (H1 : Heap) (locs1 : List Loc) (ls1 : Array Slot), PK S1 r → PM M1 r1 → cM E A s.heap S1 H1 locs1 → mC Em A s.heap M1 H1 locs1 → Apart (cW E S1) (mW Em M1) → lv_has ls1 7 [(0, .ref b), (1, .ref x), (2, .ref Em.2.1), (3, .ref oq), (4, .int (nI (7 * j)))] → W p l e room_1 s m #[Value.ref b] below meth c H1 locs1 (cells) (slots) Q (F0 m 947 ls1 [])) : W p l e room_1 s m #[Value.ref b] below meth c H locs cells slots Q (F0 m 296 ls []) := by
  obtain ⟨hx, hb, hr, hml, hown, hts0, hXs, hbl, hlocks, hgv⟩ := C0
  have hts : ∀ w ∈ tb, w.before _ s = true := fun w h => hts0 w (List.mem_filter.mp h).1
  refine lv_aload_n hx hb dL_law_296 rfl (lv_at hl 1 rfl) ?_
  refine lv_aload_n hx hb dL_law_297 rfl (lv_at hl 0 rfl) ?_
  refine lv_iload hx hb dL_law_298 (lv_at hl 4 rfl) ?_
  refine lv_iconst (v := 1) hx hb dL_law_300 (by decide) ?_
  refine lv_iadd hx hb dL_law_301 ?_
  refine lw_ld (k := 7 * j + 1) hx hb hXs hbl hbA hC.2.2 (nI_add (7 * j) 1) (by omega) hL dL_law_302 ?_
  refine lk_calli [.int (xs (7 * j + 1))] (a := x) (ci := 11) (rest := []) rfl hX hC ho (kt_X11_named l S x (xs (7 * j + 1)) PK h E _) (cwV 1 hts (gd_V wd_776 wd_777 wd_778 wd_1 wd_779) rfl rfl rfl (by decide +kernel) ⟨Nat.le_of_ble_eq_true rfl, Nat.le_of_ble_eq_true rfl⟩) rfl hl.1 (Nat.le_of_ble_eq_true rfl) ⟨by show cells ≤ 601024; omega, by show slots ≤ 7293034; omega⟩ dL_law_303 (fun r S1 H1 locs1 hC1 hz hk hD1 hp => ?_)
  have hB := keepB (D := Em.1) hCm.1 hap hk hD1
  replace hCm : mC Em A s.heap M H1 locs1 := ⟨hB.1, hCm.2.1, hC1.2.2⟩
  refine lv_pop hx hb dL_law_306 rfl ?_
  refine lv_aload_n hx hb dL_law_307 rfl (lv_at hl 2 rfl) ?_
  refine lv_aload_n hx hb dL_law_308 rfl (lv_at hl 0 rfl) ?_
  refine lv_iload hx hb dL_law_309 (lv_at hl 4 rfl) ?_
  refine lv_iconst (v := 1) hx hb dL_law_311 (by decide) ?_
  refine lv_iadd hx hb dL_law_312 ?_
  refine lw_ld (k := 7 * j + 1) hx hb hXs hbl hbA hC1.2.2 (nI_add (7 * j) 1) (by omega) hL dL_law_313 ?_
  refine lm_calli [.int (xs (7 * j + 1))] (rest := []) hXm hCm (ct_named l M (xs (7 * j + 1)) PM hm Em _) (cwV 1 hts (gd_V wd_2191 wd_2192 wd_2193 wd_15 wd_2194) rfl rfl rfl (by decide +kernel) ⟨Nat.le_of_ble_eq_true rfl, Nat.le_of_ble_eq_true rfl⟩) rfl hl.1 (Nat.le_of_ble_eq_true rfl) ⟨by show cells ≤ 601024; omega, by show slots ≤ 7293034; omega⟩ dL_law_314 (fun r1 M1 H2 locs2 hCm1 hz2 hk2 hD2 hp1 => ?_)
  have hB2 := keepB (D := E.1) hC1.1 (Apart_symm hB.2) hk2 hD2
  have hC2 : cM E A s.heap S1 H2 locs2 := ⟨hB2.1, hC1.2.1, hCm1.2.2⟩
  refine lv_pop hx hb dL_law_317 rfl ?_
  refine lv_goto (tgt := 947) hx hb dL_law_318 (by decide) ?_
  exact kk S1 M1 r r1 H2 locs2 ls hp hp1 hC2 hCm1 (Apart_symm hB2.2) hl
set_option maxHeartbeats 4000000 in
set_option maxRecDepth 100000 in
theorem lo_routine {p : Program} {l : Launch} {e : Env} {s : State} {m : MethodId} {below : List Frame} {meth : Method} {c : Code} {b L : Nat} {xs : Nat → Int32} {A : Nat → Prop} {E : kE} {Em : mE} {S : kS} {M : mS} {H : Heap} {locs : List Loc} {ls : Array Slot} {x oq j cells slots : Nat} {Q : State → Prop} (hl9 : l.stackTraces = false) {z : Nat × Nat × Nat} (hV : vZ z A s s.heap) (C0 : lw_At p s m meth c b L xs) (hbA : ¬ A b) (hL : L ≤ 3584) (hj : 7 * j + 7 ≤ L) (hX : kX RL p s m #[Value.ref b] c code 7 E A) (hXm : mXo RL p s m #[Value.ref b] c code 7 Em A) (hC : cM E A s.heap S H locs) (hCm : mC Em A s.heap M H locs) (hap : Apart (cW E S) (mW Em M)) (hl : lv_has ls 7 [(0, .ref b), (1, .ref x), (2, .ref Em.2.1), (3, .ref oq), (4, .int (nI (7 * j)))]) (hcs : cells + 105000 ≤ 601024 ∧ slots + 2100000 ≤ 7293034) {PK : kS → Int32 → Prop} {PM : mS → Int32 → Prop} (ho : hasO S x 11) (h : wp_L_routine x (xs (7 * j + 1)) (xs (7 * j + 2)) oq S PK) (hm : wp_routine (xs (7 * j + 1)) (xs (7 * j + 2)) M PM)
    (kk : ∀ (S1 : kS) (M1 : mS) (r r1 : Int32) (H1 : Heap) (locs1 : List Loc) (ls1 : Array Slot), PK S1 r → PM M1 r1 → cM E A s.heap S1 H1 locs1 → mC Em A s.heap M1 H1 locs1 → Apart (cW E S1) (mW Em M1) → lv_has ls1 7 [(0, .ref b), (1, .ref x), (2, .ref Em.2.1), (3, .ref oq), (4, .int (nI (7 * j)))] → W p l e room_1 s m #[Value.ref b] below meth c H1 locs1 (cells + 1) (slots + 6) Q (F0 m 947 ls1 [])) : W p l e room_1 s m #[Value.ref b] below meth c H locs cells slots Q (F0 m 321 ls []) := by
  obtain ⟨hx, hb, hr, hml, hown, hts0, hXs, hbl, hlocks, hgv⟩ := C0
  have hts : ∀ w ∈ tb, w.before _ s = true := fun w h => hts0 w (List.mem_filter.mp h).1
  refine lv_aload_n hx hb dL_law_321 rfl (lv_at hl 1 rfl) ?_
  refine lv_aload_n hx hb dL_law_322 rfl (lv_at hl 0 rfl) ?_
  refine lv_iload hx hb dL_law_323 (lv_at hl 4 rfl) ?_
  refine lv_iconst (v := 1) hx hb dL_law_325 (by decide) ?_
  refine lv_iadd hx hb dL_law_326 ?_
  refine lw_ld (k := 7 * j + 1) hx hb hXs hbl hbA hC.2.2 (nI_add (7 * j) 1) (by omega) hL dL_law_327 ?_
  refine lv_aload_n hx hb dL_law_328 rfl (lv_at hl 0 rfl) ?_
  refine lv_iload hx hb dL_law_329 (lv_at hl 4 rfl) ?_
  refine lv_iconst (v := 2) hx hb dL_law_331 (by decide) ?_
  refine lv_iadd hx hb dL_law_332 ?_
  refine lw_ld (k := 7 * j + 2) hx hb hXs hbl hbA hC.2.2 (nI_add (7 * j) 2) (by omega) hL dL_law_333 ?_
  refine lv_aload_n hx hb dL_law_334 rfl (lv_at hl 3 rfl) ?_
  refine lh_calli [.ref x, .int (xs (7 * j + 1)), .int (xs (7 * j + 2)), .ref oq] (rest := []) hX hC hV (hp_routine l hl9 z S x (xs (7 * j + 1)) (xs (7 * j + 2)) oq PK h E _) (vx_cwSW 4 hts (gd_S2 wd_1280 wd_1281 wd_0 wd_1282) rfl rfl rfl (by decide +kernel) ⟨Nat.le_of_ble_eq_true rfl, Nat.le_of_ble_eq_true rfl⟩) rfl hl.1 (Nat.le_of_ble_eq_true rfl) ⟨by show cells + 1 ≤ 601024; omega, by show slots + 6 ≤ 7293034; omega⟩ dL_law_335 (fun r S1 H1 locs1 hC1 hz hk hD1 hp => ?_)
  have hB := keepB (D := Em.1) hCm.1 hap hk hD1
  replace hCm : mC Em A s.heap M H1 locs1 := ⟨hB.1, hCm.2.1, hC1.2.2⟩
  refine lv_istore (lv' := [(5, .int r), (0, .ref b), (1, .ref x), (2, .ref Em.2.1), (3, .ref oq), (4, .int (nI (7 * j)))]) hx hb dL_law_338 hl (by decide) rfl (fun ls hl => ?_)
  refine lv_aload_n hx hb dL_law_340 rfl (lv_at hl 3 rfl) ?_
  refine lv_aload_n hx hb dL_law_341 rfl (lv_at hl 1 rfl) ?_
  refine lv_iload hx hb dL_law_342 (lv_at hl 5 rfl) ?_
  refine lv_iconst (v := 1) hx hb dL_law_344 (by decide) ?_
  refine lv_iadd hx hb dL_law_345 ?_
  refine lw_ld (k := 7 * j + 1) hx hb hXs hbl hbA hC1.2.2 (nI_add (7 * j) 1) (by omega) hL dL_law_346 ?_
  refine lv_aload_n hx hb dL_law_347 rfl (lv_at hl 1 rfl) ?_
  refine lv_iload hx hb dL_law_348 (lv_at hl 5 rfl) ?_
  refine lv_iconst (v := 2) hx hb dL_law_350 (by decide) ?_
  refine lv_iadd hx hb dL_law_351 ?_
  refine lw_ld (k := 7 * j + 2) hx hb hXs hbl hbA hC1.2.2 (nI_add (7 * j) 2) (by omega) hL dL_law_352 ?_
  refine lm_calli [.int (xs (7 * j + 1)), .int (xs (7 * j + 2))] (rest := []) hXm hCm (ct_routine l M (xs (7 * j + 1)) (xs (7 * j + 2)) PM hm Em _) (cwV 2 hts (gd_V wd_2195 wd_2196 wd_2197 wd_15 wd_2198) rfl rfl rfl (by decide +kernel) ⟨Nat.le_of_ble_eq_true rfl, Nat.le_of_ble_eq_true rfl⟩) rfl hl.1 (Nat.le_of_ble_eq_true rfl) ⟨by show cells + 1 ≤ 601024; omega, by show slots + 6 ≤ 7293034; omega⟩ dL_law_353 (fun r1 M1 H2 locs2 hCm1 hz2 hk2 hD2 hp1 => ?_)
  have hB2 := keepB (D := E.1) hC1.1 (Apart_symm hB.2) hk2 hD2
  have hC2 : cM E A s.heap S1 H2 locs2 := ⟨hB2.1, hC1.2.1, hCm1.2.2⟩
  refine lv_istore (lv' := [(6, .int r1), (5, .int r), (0, .ref b), (1, .ref x), (2, .ref Em.2.1), (3, .ref oq), (4, .int (nI (7 * j)))]) hx hb dL_law_356 hl (by decide) rfl (fun ls hl => ?_)
  refine lv_goto (tgt := 947) hx hb dL_law_358 (by decide) ?_
  exact kk S1 M1 r r1 H2 locs2 ls hp hp1 hC2 hCm1 (Apart_symm hB2.2) (lv_sub hl [2, 3, 4, 5, 6] rfl)
set_option maxHeartbeats 4000000 in
set_option maxRecDepth 100000 in
theorem lo_live {p : Program} {l : Launch} {e : Env} {s : State} {m : MethodId} {below : List Frame} {meth : Method} {c : Code} {b L : Nat} {xs : Nat → Int32} {A : Nat → Prop} {E : kE} {Em : mE} {S : kS} {M : mS} {H : Heap} {locs : List Loc} {ls : Array Slot} {x oq j cells slots : Nat} {Q : State → Prop} (C0 : lw_At p s m meth c b L xs) (hbA : ¬ A b) (hL : L ≤ 3584) (hj : 7 * j + 7 ≤ L) (hX : kX RL p s m #[Value.ref b] c code 7 E A) (hXm : mXo RL p s m #[Value.ref b] c code 7 Em A) (hC : cM E A s.heap S H locs) (hCm : mC Em A s.heap M H locs) (hap : Apart (cW E S) (mW Em M)) (hl : lv_has ls 7 [(0, .ref b), (1, .ref x), (2, .ref Em.2.1), (3, .ref oq), (4, .int (nI (7 * j)))]) (hcs : cells + 105000 ≤ 601024 ∧ slots + 2100000 ≤ 7293034) {PK : kS → Int32 → Prop} {PM : mS → Int32 → Prop} (ho : hasO S x 11) (h : wp_X11_live x (xs (7 * j + 1)) (xs (7 * j + 2)) (xs (7 * j + 3)) S PK) (hm : wp_live (xs (7 * j + 1)) (xs (7 * j + 2)) (xs (7 * j + 3)) M PM)
    (kk : ∀ (S1 : kS) (M1 : mS) (r r1 : Int32) (H1 : Heap) (locs1 : List Loc) (ls1 : Array Slot), PK S1 r → PM M1 r1 → cM E A s.heap S1 H1 locs1 → mC Em A s.heap M1 H1 locs1 → Apart (cW E S1) (mW Em M1) → lv_has ls1 7 [(0, .ref b), (1, .ref x), (2, .ref Em.2.1), (3, .ref oq), (4, .int (nI (7 * j)))] → W p l e room_1 s m #[Value.ref b] below meth c H1 locs1 (cells) (slots) Q (F0 m 947 ls1 [])) : W p l e room_1 s m #[Value.ref b] below meth c H locs cells slots Q (F0 m 361 ls []) := by
  obtain ⟨hx, hb, hr, hml, hown, hts0, hXs, hbl, hlocks, hgv⟩ := C0
  have hts : ∀ w ∈ tb, w.before _ s = true := fun w h => hts0 w (List.mem_filter.mp h).1
  refine lv_aload_n hx hb dL_law_361 rfl (lv_at hl 1 rfl) ?_
  refine lv_aload_n hx hb dL_law_362 rfl (lv_at hl 0 rfl) ?_
  refine lv_iload hx hb dL_law_363 (lv_at hl 4 rfl) ?_
  refine lv_iconst (v := 1) hx hb dL_law_365 (by decide) ?_
  refine lv_iadd hx hb dL_law_366 ?_
  refine lw_ld (k := 7 * j + 1) hx hb hXs hbl hbA hC.2.2 (nI_add (7 * j) 1) (by omega) hL dL_law_367 ?_
  refine lv_aload_n hx hb dL_law_368 rfl (lv_at hl 0 rfl) ?_
  refine lv_iload hx hb dL_law_369 (lv_at hl 4 rfl) ?_
  refine lv_iconst (v := 2) hx hb dL_law_371 (by decide) ?_
  refine lv_iadd hx hb dL_law_372 ?_
  refine lw_ld (k := 7 * j + 2) hx hb hXs hbl hbA hC.2.2 (nI_add (7 * j) 2) (by omega) hL dL_law_373 ?_
  refine lv_aload_n hx hb dL_law_374 rfl (lv_at hl 0 rfl) ?_
  refine lv_iload hx hb dL_law_375 (lv_at hl 4 rfl) ?_
  refine lv_iconst (v := 3) hx hb dL_law_377 (by decide) ?_
  refine lv_iadd hx hb dL_law_378 ?_
  refine lw_ld (k := 7 * j + 3) hx hb hXs hbl hbA hC.2.2 (nI_add (7 * j) 3) (by omega) hL dL_law_379 ?_
  refine lk_calli [.int (xs (7 * j + 1)), .int (xs (7 * j + 2)), .int (xs (7 * j + 3))] (a := x) (ci := 11) (rest := []) rfl hX hC ho (kt_X11_live l S x (xs (7 * j + 1)) (xs (7 * j + 2)) (xs (7 * j + 3)) PK h E _) (cwV 3 hts (gd_V wd_786 wd_787 wd_788 wd_1 wd_789) rfl rfl rfl (by decide +kernel) ⟨Nat.le_of_ble_eq_true rfl, Nat.le_of_ble_eq_true rfl⟩) rfl hl.1 (Nat.le_of_ble_eq_true rfl) ⟨by show cells ≤ 601024; omega, by show slots ≤ 7293034; omega⟩ dL_law_380 (fun r S1 H1 locs1 hC1 hz hk hD1 hp => ?_)
  have hB := keepB (D := Em.1) hCm.1 hap hk hD1
  replace hCm : mC Em A s.heap M H1 locs1 := ⟨hB.1, hCm.2.1, hC1.2.2⟩
  refine lv_pop hx hb dL_law_383 rfl ?_
  refine lv_aload_n hx hb dL_law_384 rfl (lv_at hl 2 rfl) ?_
  refine lv_aload_n hx hb dL_law_385 rfl (lv_at hl 0 rfl) ?_
  refine lv_iload hx hb dL_law_386 (lv_at hl 4 rfl) ?_
  refine lv_iconst (v := 1) hx hb dL_law_388 (by decide) ?_
  refine lv_iadd hx hb dL_law_389 ?_
  refine lw_ld (k := 7 * j + 1) hx hb hXs hbl hbA hC1.2.2 (nI_add (7 * j) 1) (by omega) hL dL_law_390 ?_
  refine lv_aload_n hx hb dL_law_391 rfl (lv_at hl 0 rfl) ?_
  refine lv_iload hx hb dL_law_392 (lv_at hl 4 rfl) ?_
  refine lv_iconst (v := 2) hx hb dL_law_394 (by decide) ?_
  refine lv_iadd hx hb dL_law_395 ?_
  refine lw_ld (k := 7 * j + 2) hx hb hXs hbl hbA hC1.2.2 (nI_add (7 * j) 2) (by omega) hL dL_law_396 ?_
  refine lv_aload_n hx hb dL_law_397 rfl (lv_at hl 0 rfl) ?_
  refine lv_iload hx hb dL_law_398 (lv_at hl 4 rfl) ?_
  refine lv_iconst (v := 3) hx hb dL_law_400 (by decide) ?_
  refine lv_iadd hx hb dL_law_401 ?_
  refine lw_ld (k := 7 * j + 3) hx hb hXs hbl hbA hC1.2.2 (nI_add (7 * j) 3) (by omega) hL dL_law_402 ?_
  refine lm_calli [.int (xs (7 * j + 1)), .int (xs (7 * j + 2)), .int (xs (7 * j + 3))] (rest := []) hXm hCm (ct_live l M (xs (7 * j + 1)) (xs (7 * j + 2)) (xs (7 * j + 3)) PM hm Em _) (cwV 3 hts (gd_V wd_1958 wd_1959 wd_1960 wd_15 wd_1961) rfl rfl rfl (by decide +kernel) ⟨Nat.le_of_ble_eq_true rfl, Nat.le_of_ble_eq_true rfl⟩) rfl hl.1 (Nat.le_of_ble_eq_true rfl) ⟨by show cells ≤ 601024; omega, by show slots ≤ 7293034; omega⟩ dL_law_403 (fun r1 M1 H2 locs2 hCm1 hz2 hk2 hD2 hp1 => ?_)
  have hB2 := keepB (D := E.1) hC1.1 (Apart_symm hB.2) hk2 hD2
  have hC2 : cM E A s.heap S1 H2 locs2 := ⟨hB2.1, hC1.2.1, hCm1.2.2⟩
  refine lv_pop hx hb dL_law_406 rfl ?_
  refine lv_goto (tgt := 947) hx hb dL_law_407 (by decide) ?_
  exact kk S1 M1 r r1 H2 locs2 ls hp hp1 hC2 hCm1 (Apart_symm hB2.2) hl
