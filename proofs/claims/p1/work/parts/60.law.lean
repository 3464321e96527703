theorem wd_0 : (Jvm.Cond.initialized "SleepersLaw") ∈ tb := tb_at 0 (by decide +kernel) (by decide +kernel)
theorem wd_500 : (Jvm.Cond.methodLink "SleepersLaw" (27 : Nat) ({ cls := "Sleepers", name := "feed", desc := "(JJJ)I" } : Jvm.MethodName)) ∈ tb := tb_at 500 (by decide +kernel) (by decide +kernel)
theorem wd_501 : (Jvm.Cond.instanceMethod ({ cls := "Sleepers", name := "feed", desc := "(JJJ)I" } : Jvm.MethodName)) ∈ tb := tb_at 501 (by decide +kernel) (by decide +kernel)
theorem wd_502 : (Jvm.Cond.selects "Sleepers" ({ cls := "Sleepers", name := "feed", desc := "(JJJ)I" } : Jvm.MethodName) ({ cls := "Sleepers", name := "feed", desc := "(JJJ)I" } : Jvm.MethodName)) ∈ tb := tb_at 502 (by decide +kernel) (by decide +kernel)
theorem wd_503 : (Jvm.Cond.code ({ cls := "Sleepers", name := "feed", desc := "(JJJ)I" } : Jvm.MethodName) prog_1_method_2_code (7 : Nat) (Option.some Jvm.ClassFile.FieldType.int)) ∈ tb := tb_at 503 (by decide +kernel) (by decide +kernel)
theorem wd_508 : (Jvm.Cond.methodLink "SleepersLaw" (32 : Nat) ({ cls := "Sleepers", name := "program", desc := "()I" } : Jvm.MethodName)) ∈ tb := tb_at 508 (by decide +kernel) (by decide +kernel)
theorem wd_509 : (Jvm.Cond.instanceMethod ({ cls := "Sleepers", name := "program", desc := "()I" } : Jvm.MethodName)) ∈ tb := tb_at 509 (by decide +kernel) (by decide +kernel)
theorem wd_510 : (Jvm.Cond.selects "Sleepers" ({ cls := "Sleepers", name := "program", desc := "()I" } : Jvm.MethodName) ({ cls := "Sleepers", name := "program", desc := "()I" } : Jvm.MethodName)) ∈ tb := tb_at 510 (by decide +kernel) (by decide +kernel)
theorem wd_511 : (Jvm.Cond.code ({ cls := "Sleepers", name := "program", desc := "()I" } : Jvm.MethodName) prog_1_method_3_code (3 : Nat) (Option.some Jvm.ClassFile.FieldType.int)) ∈ tb := tb_at 511 (by decide +kernel) (by decide +kernel)
theorem wd_776 : (Jvm.Cond.methodLink "SleepersLaw" (37 : Nat) ({ cls := "Sleepers", name := "named", desc := "(I)I" } : Jvm.MethodName)) ∈ tb := tb_at 776 (by decide +kernel) (by decide +kernel)
theorem wd_777 : (Jvm.Cond.instanceMethod ({ cls := "Sleepers", name := "named", desc := "(I)I" } : Jvm.MethodName)) ∈ tb := tb_at 777 (by decide +kernel) (by decide +kernel)
theorem wd_778 : (Jvm.Cond.selects "Sleepers" ({ cls := "Sleepers", name := "named", desc := "(I)I" } : Jvm.MethodName) ({ cls := "Sleepers", name := "named", desc := "(I)I" } : Jvm.MethodName)) ∈ tb := tb_at 778 (by decide +kernel) (by decide +kernel)
theorem wd_779 : (Jvm.Cond.code ({ cls := "Sleepers", name := "named", desc := "(I)I" } : Jvm.MethodName) prog_1_method_4_code (4 : Nat) (Option.some Jvm.ClassFile.FieldType.int)) ∈ tb := tb_at 779 (by decide +kernel) (by decide +kernel)
theorem wd_786 : (Jvm.Cond.methodLink "SleepersLaw" (51 : Nat) ({ cls := "Sleepers", name := "live", desc := "(III)I" } : Jvm.MethodName)) ∈ tb := tb_at 786 (by decide +kernel) (by decide +kernel)
theorem wd_787 : (Jvm.Cond.instanceMethod ({ cls := "Sleepers", name := "live", desc := "(III)I" } : Jvm.MethodName)) ∈ tb := tb_at 787 (by decide +kernel) (by decide +kernel)
theorem wd_788 : (Jvm.Cond.selects "Sleepers" ({ cls := "Sleepers", name := "live", desc := "(III)I" } : Jvm.MethodName) ({ cls := "Sleepers", name := "live", desc := "(III)I" } : Jvm.MethodName)) ∈ tb := tb_at 788 (by decide +kernel) (by decide +kernel)
theorem wd_789 : (Jvm.Cond.code ({ cls := "Sleepers", name := "live", desc := "(III)I" } : Jvm.MethodName) prog_1_method_6_code (4 : Nat) (Option.some Jvm.ClassFile.FieldType.int)) ∈ tb := tb_at 789 (by decide +kernel) (by decide +kernel)
theorem wd_1280 : (Jvm.Cond.methodLink "SleepersLaw" (42 : Nat) ({ cls := "SleepersLaw", name := "routine", desc := "(LSleepers;II[J)I" } : Jvm.MethodName)) ∈ tb := tb_at 1280 (by decide +kernel) (by decide +kernel)
theorem wd_1281 : (Jvm.Cond.static ({ cls := "SleepersLaw", name := "routine", desc := "(LSleepers;II[J)I" } : Jvm.MethodName)) ∈ tb := tb_at 1281 (by decide +kernel) (by decide +kernel)
theorem wd_1282 : (Jvm.Cond.codeWith ({ cls := "SleepersLaw", name := "routine", desc := "(LSleepers;II[J)I" } : Jvm.MethodName) method_3_code (5 : Nat) (Option.some Jvm.ClassFile.FieldType.int) [((0 : Nat), (10 : Nat), (13 : Nat), (13 : Nat))]) ∈ tb := tb_at 1282 (by decide +kernel) (by decide +kernel)
theorem wd_1375 : (Jvm.Cond.methodLink "SleepersLaw" (48 : Nat) ({ cls := "SleepersModel", name := "thrown", desc := "()I" } : Jvm.MethodName)) ∈ tb := tb_at 1375 (by decide +kernel) (by decide +kernel)
theorem wd_1376 : (Jvm.Cond.instanceMethod ({ cls := "SleepersModel", name := "thrown", desc := "()I" } : Jvm.MethodName)) ∈ tb := tb_at 1376 (by decide +kernel) (by decide +kernel)
theorem wd_1377 : (Jvm.Cond.selects "SleepersModel" ({ cls := "SleepersModel", name := "thrown", desc := "()I" } : Jvm.MethodName) ({ cls := "SleepersModel", name := "thrown", desc := "()I" } : Jvm.MethodName)) ∈ tb := tb_at 1377 (by decide +kernel) (by decide +kernel)
theorem wd_1378 : (Jvm.Cond.code ({ cls := "SleepersModel", name := "thrown", desc := "()I" } : Jvm.MethodName) prog_14_method_1_code (1 : Nat) (Option.some Jvm.ClassFile.FieldType.int)) ∈ tb := tb_at 1378 (by decide +kernel) (by decide +kernel)
theorem wd_1379 : (Jvm.Cond.methodLink "SleepersLaw" (31 : Nat) ({ cls := "SleepersModel", name := "feed", desc := "(JJJ)I" } : Jvm.MethodName)) ∈ tb := tb_at 1379 (by decide +kernel) (by decide +kernel)
theorem wd_1380 : (Jvm.Cond.instanceMethod ({ cls := "SleepersModel", name := "feed", desc := "(JJJ)I" } : Jvm.MethodName)) ∈ tb := tb_at 1380 (by decide +kernel) (by decide +kernel)
theorem wd_1381 : (Jvm.Cond.selects "SleepersModel" ({ cls := "SleepersModel", name := "feed", desc := "(JJJ)I" } : Jvm.MethodName) ({ cls := "SleepersModel", name := "feed", desc := "(JJJ)I" } : Jvm.MethodName)) ∈ tb := tb_at 1381 (by decide +kernel) (by decide +kernel)
theorem wd_1382 : (Jvm.Cond.code ({ cls := "SleepersModel", name := "feed", desc := "(JJJ)I" } : Jvm.MethodName) prog_14_method_2_code (7 : Nat) (Option.some Jvm.ClassFile.FieldType.int)) ∈ tb := tb_at 1382 (by decide +kernel) (by decide +kernel)
theorem wd_1790 : (Jvm.Cond.methodLink "SleepersLaw" (36 : Nat) ({ cls := "SleepersModel", name := "program", desc := "()I" } : Jvm.MethodName)) ∈ tb := tb_at 1790 (by decide +kernel) (by decide +kernel)
theorem wd_1791 : (Jvm.Cond.instanceMethod ({ cls := "SleepersModel", name := "program", desc := "()I" } : Jvm.MethodName)) ∈ tb := tb_at 1791 (by decide +kernel) (by decide +kernel)
theorem wd_1792 : (Jvm.Cond.selects "SleepersModel" ({ cls := "SleepersModel", name := "program", desc := "()I" } : Jvm.MethodName) ({ cls := "SleepersModel", name := "program", desc := "()I" } : Jvm.MethodName)) ∈ tb := tb_at 1792 (by decide +kernel) (by decide +kernel)
theorem wd_1793 : (Jvm.Cond.code ({ cls := "SleepersModel", name := "program", desc := "()I" } : Jvm.MethodName) prog_14_method_20_code (3 : Nat) (Option.some Jvm.ClassFile.FieldType.int)) ∈ tb := tb_at 1793 (by decide +kernel) (by decide +kernel)
theorem wd_1962 : (Jvm.Cond.methodLink "SleepersLaw" (55 : Nat) ({ cls := "SleepersModel", name := "live", desc := "(III)I" } : Jvm.MethodName)) ∈ tb := tb_at 1962 (by decide +kernel) (by decide +kernel)
theorem wd_1963 : (Jvm.Cond.instanceMethod ({ cls := "SleepersModel", name := "live", desc := "(III)I" } : Jvm.MethodName)) ∈ tb := tb_at 1963 (by decide +kernel) (by decide +kernel)
theorem wd_1964 : (Jvm.Cond.selects "SleepersModel" ({ cls := "SleepersModel", name := "live", desc := "(III)I" } : Jvm.MethodName) ({ cls := "SleepersModel", name := "live", desc := "(III)I" } : Jvm.MethodName)) ∈ tb := tb_at 1964 (by decide +kernel) (by decide +kernel)
theorem wd_1965 : (Jvm.Cond.code ({ cls := "SleepersModel", name := "live", desc := "(III)I" } : Jvm.MethodName) prog_14_method_57_code (7 : Nat) (Option.some Jvm.ClassFile.FieldType.int)) ∈ tb := tb_at 1965 (by decide +kernel) (by decide +kernel)
theorem wd_2195 : (Jvm.Cond.methodLink "SleepersLaw" (41 : Nat) ({ cls := "SleepersModel", name := "named", desc := "(I)I" } : Jvm.MethodName)) ∈ tb := tb_at 2195 (by decide +kernel) (by decide +kernel)
theorem wd_2196 : (Jvm.Cond.instanceMethod ({ cls := "SleepersModel", name := "named", desc := "(I)I" } : Jvm.MethodName)) ∈ tb := tb_at 2196 (by decide +kernel) (by decide +kernel)
theorem wd_2197 : (Jvm.Cond.selects "SleepersModel" ({ cls := "SleepersModel", name := "named", desc := "(I)I" } : Jvm.MethodName) ({ cls := "SleepersModel", name := "named", desc := "(I)I" } : Jvm.MethodName)) ∈ tb := tb_at 2197 (by decide +kernel) (by decide +kernel)
theorem wd_2198 : (Jvm.Cond.code ({ cls := "SleepersModel", name := "named", desc := "(I)I" } : Jvm.MethodName) prog_14_method_108_code (3 : Nat) (Option.some Jvm.ClassFile.FieldType.int)) ∈ tb := tb_at 2198 (by decide +kernel) (by decide +kernel)
theorem wd_2199 : (Jvm.Cond.methodLink "SleepersLaw" (47 : Nat) ({ cls := "SleepersModel", name := "routine", desc := "(II)I" } : Jvm.MethodName)) ∈ tb := tb_at 2199 (by decide +kernel) (by decide +kernel)
theorem wd_2200 : (Jvm.Cond.instanceMethod ({ cls := "SleepersModel", name := "routine", desc := "(II)I" } : Jvm.MethodName)) ∈ tb := tb_at 2200 (by decide +kernel) (by decide +kernel)
theorem wd_2201 : (Jvm.Cond.selects "SleepersModel" ({ cls := "SleepersModel", name := "routine", desc := "(II)I" } : Jvm.MethodName) ({ cls := "SleepersModel", name := "routine", desc := "(II)I" } : Jvm.MethodName)) ∈ tb := tb_at 2201 (by decide +kernel) (by decide +kernel)
theorem wd_2202 : (Jvm.Cond.code ({ cls := "SleepersModel", name := "routine", desc := "(II)I" } : Jvm.MethodName) prog_14_method_109_code (4 : Nat) (Option.some Jvm.ClassFile.FieldType.int)) ∈ tb := tb_at 2202 (by decide +kernel) (by decide +kernel)
theorem wd_2207 : (Jvm.Cond.constantLong "SleepersLaw" (25 : Nat) (4294967295 : Int64)) ∈ tb := tb_at 2207 (by decide +kernel) (by decide +kernel)
theorem dL_law_0 : decode cL_law 0 = .ok (.new 8, 3) := by decide +kernel
theorem dL_law_3 : decode cL_law 3 = .ok (.dup, 1) := by decide +kernel
theorem dL_law_4 : decode cL_law 4 = .ok (.invokespecial 21, 3) := by decide +kernel
theorem dL_law_7 : decode cL_law 7 = .ok (.astore_n 1, 1) := by decide +kernel
theorem dL_law_8 : decode cL_law 8 = .ok (.new 22, 3) := by decide +kernel
theorem dL_law_11 : decode cL_law 11 = .ok (.dup, 1) := by decide +kernel
theorem dL_law_12 : decode cL_law 12 = .ok (.invokespecial 24, 3) := by decide +kernel
theorem dL_law_15 : decode cL_law 15 = .ok (.astore_n 2, 1) := by decide +kernel
theorem dL_law_16 : decode cL_law 16 = .ok (.iconst 1, 1) := by decide +kernel
theorem dL_law_17 : decode cL_law 17 = .ok (.newarray .long, 2) := by decide +kernel
theorem dL_law_19 : decode cL_law 19 = .ok (.astore_n 3, 1) := by decide +kernel
theorem dL_law_20 : decode cL_law 20 = .ok (.iconst 0, 1) := by decide +kernel
theorem dL_law_21 : decode cL_law 21 = .ok (.istore 4, 2) := by decide +kernel
theorem dL_law_23 : decode cL_law 23 = .ok (.iload 4, 2) := by decide +kernel
theorem dL_law_25 : decode cL_law 25 = .ok (.aload_n 0, 1) := by decide +kernel
theorem dL_law_26 : decode cL_law 26 = .ok (.arraylength, 1) := by decide +kernel
theorem dL_law_27 : decode cL_law 27 = .ok (.bipush 7, 2) := by decide +kernel
theorem dL_law_29 : decode cL_law 29 = .ok (.isub, 1) := by decide +kernel
theorem dL_law_30 : decode cL_law 30 = .ok (.if_icmp .gt 1007, 3) := by decide +kernel
theorem dL_law_33 : decode cL_law 33 = .ok (.aload_n 0, 1) := by decide +kernel
theorem dL_law_34 : decode cL_law 34 = .ok (.iload 4, 2) := by decide +kernel
theorem dL_law_36 : decode cL_law 36 = .ok (.iaload, 1) := by decide +kernel
theorem dL_law_37 : decode cL_law 37 = .ok (.bipush 31, 2) := by decide +kernel
theorem dL_law_39 : decode cL_law 39 = .ok (.iand, 1) := by decide +kernel
theorem dL_law_40 : decode cL_law 40 = .ok (.tableswitch 991 0 19 #[96, 243, 256, 281, 349, 398, 447, 520, 545, 570, 607, 632, 657, 725, 793, 818, 855, 892, 929, 966], 96) := by decide +kernel
theorem dL_law_136 : decode cL_law 136 = .ok (.aload_n 1, 1) := by decide +kernel
theorem dL_law_137 : decode cL_law 137 = .ok (.aload_n 0, 1) := by decide +kernel
theorem dL_law_138 : decode cL_law 138 = .ok (.iload 4, 2) := by decide +kernel
theorem dL_law_140 : decode cL_law 140 = .ok (.iconst 1, 1) := by decide +kernel
theorem dL_law_141 : decode cL_law 141 = .ok (.iadd, 1) := by decide +kernel
theorem dL_law_142 : decode cL_law 142 = .ok (.iaload, 1) := by decide +kernel
theorem dL_law_143 : decode cL_law 143 = .ok (.i2l, 1) := by decide +kernel
theorem dL_law_144 : decode cL_law 144 = .ok (.bipush 32, 2) := by decide +kernel
theorem dL_law_146 : decode cL_law 146 = .ok (.lshl, 1) := by decide +kernel
theorem dL_law_147 : decode cL_law 147 = .ok (.aload_n 0, 1) := by decide +kernel
theorem dL_law_148 : decode cL_law 148 = .ok (.iload 4, 2) := by decide +kernel
theorem dL_law_150 : decode cL_law 150 = .ok (.iconst 2, 1) := by decide +kernel
theorem dL_law_151 : decode cL_law 151 = .ok (.iadd, 1) := by decide +kernel
theorem dL_law_152 : decode cL_law 152 = .ok (.iaload, 1) := by decide +kernel
theorem dL_law_153 : decode cL_law 153 = .ok (.i2l, 1) := by decide +kernel
theorem dL_law_154 : decode cL_law 154 = .ok (.ldc2_w 25, 3) := by decide +kernel
theorem dL_law_157 : decode cL_law 157 = .ok (.land, 1) := by decide +kernel
theorem dL_law_158 : decode cL_law 158 = .ok (.lor, 1) := by decide +kernel
theorem dL_law_159 : decode cL_law 159 = .ok (.aload_n 0, 1) := by decide +kernel
theorem dL_law_160 : decode cL_law 160 = .ok (.iload 4, 2) := by decide +kernel
theorem dL_law_162 : decode cL_law 162 = .ok (.iconst 3, 1) := by decide +kernel
theorem dL_law_163 : decode cL_law 163 = .ok (.iadd, 1) := by decide +kernel
theorem dL_law_164 : decode cL_law 164 = .ok (.iaload, 1) := by decide +kernel
theorem dL_law_165 : decode cL_law 165 = .ok (.i2l, 1) := by decide +kernel
theorem dL_law_166 : decode cL_law 166 = .ok (.bipush 32, 2) := by decide +kernel
theorem dL_law_168 : decode cL_law 168 = .ok (.lshl, 1) := by decide +kernel
theorem dL_law_169 : decode cL_law 169 = .ok (.aload_n 0, 1) := by decide +kernel
theorem dL_law_170 : decode cL_law 170 = .ok (.iload 4, 2) := by decide +kernel
theorem dL_law_172 : decode cL_law 172 = .ok (.iconst 4, 1) := by decide +kernel
theorem dL_law_173 : decode cL_law 173 = .ok (.iadd, 1) := by decide +kernel
theorem dL_law_174 : decode cL_law 174 = .ok (.iaload, 1) := by decide +kernel
theorem dL_law_175 : decode cL_law 175 = .ok (.i2l, 1) := by decide +kernel
theorem dL_law_176 : decode cL_law 176 = .ok (.ldc2_w 25, 3) := by decide +kernel
theorem dL_law_179 : decode cL_law 179 = .ok (.land, 1) := by decide +kernel
theorem dL_law_180 : decode cL_law 180 = .ok (.lor, 1) := by decide +kernel
theorem dL_law_181 : decode cL_law 181 = .ok (.aload_n 0, 1) := by decide +kernel
theorem dL_law_182 : decode cL_law 182 = .ok (.iload 4, 2) := by decide +kernel
theorem dL_law_184 : decode cL_law 184 = .ok (.iconst 5, 1) := by decide +kernel
theorem dL_law_185 : decode cL_law 185 = .ok (.iadd, 1) := by decide +kernel
theorem dL_law_186 : decode cL_law 186 = .ok (.iaload, 1) := by decide +kernel
theorem dL_law_187 : decode cL_law 187 = .ok (.i2l, 1) := by decide +kernel
theorem dL_law_188 : decode cL_law 188 = .ok (.bipush 32, 2) := by decide +kernel
theorem dL_law_190 : decode cL_law 190 = .ok (.lshl, 1) := by decide +kernel
theorem dL_law_191 : decode cL_law 191 = .ok (.aload_n 0, 1) := by decide +kernel
theorem dL_law_192 : decode cL_law 192 = .ok (.iload 4, 2) := by decide +kernel
theorem dL_law_194 : decode cL_law 194 = .ok (.bipush 6, 2) := by decide +kernel
theorem dL_law_196 : decode cL_law 196 = .ok (.iadd, 1) := by decide +kernel
theorem dL_law_197 : decode cL_law 197 = .ok (.iaload, 1) := by decide +kernel
theorem dL_law_198 : decode cL_law 198 = .ok (.i2l, 1) := by decide +kernel
theorem dL_law_199 : decode cL_law 199 = .ok (.ldc2_w 25, 3) := by decide +kernel
theorem dL_law_202 : decode cL_law 202 = .ok (.land, 1) := by decide +kernel
theorem dL_law_203 : decode cL_law 203 = .ok (.lor, 1) := by decide +kernel
theorem dL_law_204 : decode cL_law 204 = .ok (.invokevirtual 27, 3) := by decide +kernel
theorem dL_law_207 : decode cL_law 207 = .ok (.aload_n 2, 1) := by decide +kernel
theorem dL_law_208 : decode cL_law 208 = .ok (.aload_n 0, 1) := by decide +kernel
theorem dL_law_209 : decode cL_law 209 = .ok (.iload 4, 2) := by decide +kernel
theorem dL_law_211 : decode cL_law 211 = .ok (.iconst 1, 1) := by decide +kernel
theorem dL_law_212 : decode cL_law 212 = .ok (.iadd, 1) := by decide +kernel
theorem dL_law_213 : decode cL_law 213 = .ok (.iaload, 1) := by decide +kernel
theorem dL_law_214 : decode cL_law 214 = .ok (.i2l, 1) := by decide +kernel
theorem dL_law_215 : decode cL_law 215 = .ok (.bipush 32, 2) := by decide +kernel
theorem dL_law_217 : decode cL_law 217 = .ok (.lshl, 1) := by decide +kernel
theorem dL_law_218 : decode cL_law 218 = .ok (.aload_n 0, 1) := by decide +kernel
theorem dL_law_219 : decode cL_law 219 = .ok (.iload 4, 2) := by decide +kernel
theorem dL_law_221 : decode cL_law 221 = .ok (.iconst 2, 1) := by decide +kernel
theorem dL_law_222 : decode cL_law 222 = .ok (.iadd, 1) := by decide +kernel
theorem dL_law_223 : decode cL_law 223 = .ok (.iaload, 1) := by decide +kernel
theorem dL_law_224 : decode cL_law 224 = .ok (.i2l, 1) := by decide +kernel
theorem dL_law_225 : decode cL_law 225 = .ok (.ldc2_w 25, 3) := by decide +kernel
theorem dL_law_228 : decode cL_law 228 = .ok (.land, 1) := by decide +kernel
theorem dL_law_229 : decode cL_law 229 = .ok (.lor, 1) := by decide +kernel
theorem dL_law_230 : decode cL_law 230 = .ok (.aload_n 0, 1) := by decide +kernel
theorem dL_law_231 : decode cL_law 231 = .ok (.iload 4, 2) := by decide +kernel
theorem dL_law_233 : decode cL_law 233 = .ok (.iconst 3, 1) := by decide +kernel
theorem dL_law_234 : decode cL_law 234 = .ok (.iadd, 1) := by decide +kernel
theorem dL_law_235 : decode cL_law 235 = .ok (.iaload, 1) := by decide +kernel
theorem dL_law_236 : decode cL_law 236 = .ok (.i2l, 1) := by decide +kernel
theorem dL_law_237 : decode cL_law 237 = .ok (.bipush 32, 2) := by decide +kernel
theorem dL_law_239 : decode cL_law 239 = .ok (.lshl, 1) := by decide +kernel
theorem dL_law_240 : decode cL_law 240 = .ok (.aload_n 0, 1) := by decide +kernel
theorem dL_law_241 : decode cL_law 241 = .ok (.iload 4, 2) := by decide +kernel
theorem dL_law_243 : decode cL_law 243 = .ok (.iconst 4, 1) := by decide +kernel
theorem dL_law_244 : decode cL_law 244 = .ok (.iadd, 1) := by decide +kernel
theorem dL_law_245 : decode cL_law 245 = .ok (.iaload, 1) := by decide +kernel
theorem dL_law_246 : decode cL_law 246 = .ok (.i2l, 1) := by decide +kernel
theorem dL_law_247 : decode cL_law 247 = .ok (.ldc2_w 25, 3) := by decide +kernel
theorem dL_law_250 : decode cL_law 250 = .ok (.land, 1) := by decide +kernel
theorem dL_law_251 : decode cL_law 251 = .ok (.lor, 1) := by decide +kernel
theorem dL_law_252 : decode cL_law 252 = .ok (.aload_n 0, 1) := by decide +kernel
theorem dL_law_253 : decode cL_law 253 = .ok (.iload 4, 2) := by decide +kernel
theorem dL_law_255 : decode cL_law 255 = .ok (.iconst 5, 1) := by decide +kernel
theorem dL_law_256 : decode cL_law 256 = .ok (.iadd, 1) := by decide +kernel
theorem dL_law_257 : decode cL_law 257 = .ok (.iaload, 1) := by decide +kernel
theorem dL_law_258 : decode cL_law 258 = .ok (.i2l, 1) := by decide +kernel
theorem dL_law_259 : decode cL_law 259 = .ok (.bipush 32, 2) := by decide +kernel
theorem dL_law_261 : decode cL_law 261 = .ok (.lshl, 1) := by decide +kernel
theorem dL_law_262 : decode cL_law 262 = .ok (.aload_n 0, 1) := by decide +kernel
theorem dL_law_263 : decode cL_law 263 = .ok (.iload 4, 2) := by decide +kernel
theorem dL_law_265 : decode cL_law 265 = .ok (.bipush 6, 2) := by decide +kernel
theorem dL_law_267 : decode cL_law 267 = .ok (.iadd, 1) := by decide +kernel
theorem dL_law_268 : decode cL_law 268 = .ok (.iaload, 1) := by decide +kernel
theorem dL_law_269 : decode cL_law 269 = .ok (.i2l, 1) := by decide +kernel
theorem dL_law_270 : decode cL_law 270 = .ok (.ldc2_w 25, 3) := by decide +kernel
theorem dL_law_273 : decode cL_law 273 = .ok (.land, 1) := by decide +kernel
theorem dL_law_274 : decode cL_law 274 = .ok (.lor, 1) := by decide +kernel
theorem dL_law_275 : decode cL_law 275 = .ok (.invokevirtual 31, 3) := by decide +kernel
theorem dL_law_278 : decode cL_law 278 = .ok (.if_icmp .eq 753, 3) := by decide +kernel
theorem dL_law_281 : decode cL_law 281 = .ok (.iconst 0, 1) := by decide +kernel
theorem dL_law_282 : decode cL_law 282 = .ok (.ireturn, 1) := by decide +kernel
theorem dL_law_283 : decode cL_law 283 = .ok (.aload_n 1, 1) := by decide +kernel
theorem dL_law_284 : decode cL_law 284 = .ok (.invokevirtual 32, 3) := by decide +kernel
theorem dL_law_287 : decode cL_law 287 = .ok (.aload_n 2, 1) := by decide +kernel
theorem dL_law_288 : decode cL_law 288 = .ok (.invokevirtual 36, 3) := by decide +kernel
theorem dL_law_291 : decode cL_law 291 = .ok (.if_icmp .eq 740, 3) := by decide +kernel
theorem dL_law_294 : decode cL_law 294 = .ok (.iconst 0, 1) := by decide +kernel
theorem dL_law_295 : decode cL_law 295 = .ok (.ireturn, 1) := by decide +kernel
theorem dL_law_296 : decode cL_law 296 = .ok (.aload_n 1, 1) := by decide +kernel
theorem dL_law_297 : decode cL_law 297 = .ok (.aload_n 0, 1) := by decide +kernel
theorem dL_law_298 : decode cL_law 298 = .ok (.iload 4, 2) := by decide +kernel
theorem dL_law_300 : decode cL_law 300 = .ok (.iconst 1, 1) := by decide +kernel
theorem dL_law_301 : decode cL_law 301 = .ok (.iadd, 1) := by decide +kernel
theorem dL_law_302 : decode cL_law 302 = .ok (.iaload, 1) := by decide +kernel
theorem dL_law_303 : decode cL_law 303 = .ok (.invokevirtual 37, 3) := by decide +kernel
theorem dL_law_306 : decode cL_law 306 = .ok (.aload_n 2, 1) := by decide +kernel
theorem dL_law_307 : decode cL_law 307 = .ok (.aload_n 0, 1) := by decide +kernel
theorem dL_law_308 : decode cL_law 308 = .ok (.iload 4, 2) := by decide +kernel
theorem dL_law_310 : decode cL_law 310 = .ok (.iconst 1, 1) := by decide +kernel
theorem dL_law_311 : decode cL_law 311 = .ok (.iadd, 1) := by decide +kernel
theorem dL_law_312 : decode cL_law 312 = .ok (.iaload, 1) := by decide +kernel
theorem dL_law_313 : decode cL_law 313 = .ok (.invokevirtual 41, 3) := by decide +kernel
theorem dL_law_316 : decode cL_law 316 = .ok (.if_icmp .eq 715, 3) := by decide +kernel
theorem dL_law_319 : decode cL_law 319 = .ok (.iconst 0, 1) := by decide +kernel
theorem dL_law_320 : decode cL_law 320 = .ok (.ireturn, 1) := by decide +kernel
theorem dL_law_321 : decode cL_law 321 = .ok (.aload_n 1, 1) := by decide +kernel
theorem dL_law_322 : decode cL_law 322 = .ok (.aload_n 0, 1) := by decide +kernel
theorem dL_law_323 : decode cL_law 323 = .ok (.iload 4, 2) := by decide +kernel
theorem dL_law_325 : decode cL_law 325 = .ok (.iconst 1, 1) := by decide +kernel
theorem dL_law_326 : decode cL_law 326 = .ok (.iadd, 1) := by decide +kernel
theorem dL_law_327 : decode cL_law 327 = .ok (.iaload, 1) := by decide +kernel
theorem dL_law_328 : decode cL_law 328 = .ok (.aload_n 0, 1) := by decide +kernel
theorem dL_law_329 : decode cL_law 329 = .ok (.iload 4, 2) := by decide +kernel
theorem dL_law_331 : decode cL_law 331 = .ok (.iconst 2, 1) := by decide +kernel
theorem dL_law_332 : decode cL_law 332 = .ok (.iadd, 1) := by decide +kernel
theorem dL_law_333 : decode cL_law 333 = .ok (.iaload, 1) := by decide +kernel
theorem dL_law_334 : decode cL_law 334 = .ok (.aload_n 3, 1) := by decide +kernel
theorem dL_law_335 : decode cL_law 335 = .ok (.invokestatic 42, 3) := by decide +kernel
theorem dL_law_338 : decode cL_law 338 = .ok (.istore 5, 2) := by decide +kernel
theorem dL_law_340 : decode cL_law 340 = .ok (.aload_n 2, 1) := by decide +kernel
theorem dL_law_341 : decode cL_law 341 = .ok (.aload_n 0, 1) := by decide +kernel
theorem dL_law_342 : decode cL_law 342 = .ok (.iload 4, 2) := by decide +kernel
theorem dL_law_344 : decode cL_law 344 = .ok (.iconst 1, 1) := by decide +kernel
theorem dL_law_345 : decode cL_law 345 = .ok (.iadd, 1) := by decide +kernel
theorem dL_law_346 : decode cL_law 346 = .ok (.iaload, 1) := by decide +kernel
theorem dL_law_347 : decode cL_law 347 = .ok (.aload_n 0, 1) := by decide +kernel
theorem dL_law_348 : decode cL_law 348 = .ok (.iload 4, 2) := by decide +kernel
theorem dL_law_350 : decode cL_law 350 = .ok (.iconst 2, 1) := by decide +kernel
theorem dL_law_351 : decode cL_law 351 = .ok (.iadd, 1) := by decide +kernel
theorem dL_law_352 : decode cL_law 352 = .ok (.iaload, 1) := by decide +kernel
theorem dL_law_353 : decode cL_law 353 = .ok (.invokevirtual 47, 3) := by decide +kernel
theorem dL_law_356 : decode cL_law 356 = .ok (.istore 6, 2) := by decide +kernel
theorem dL_law_358 : decode cL_law 358 = .ok (.aload_n 2, 1) := by decide +kernel
theorem dL_law_359 : decode cL_law 359 = .ok (.invokevirtual 48, 3) := by decide +kernel
theorem dL_law_362 : decode cL_law 362 = .ok (.iload 5, 2) := by decide +kernel
theorem dL_law_364 : decode cL_law 364 = .ok (.if_icmp .eq 5, 3) := by decide +kernel
theorem dL_law_367 : decode cL_law 367 = .ok (.iconst 0, 1) := by decide +kernel
theorem dL_law_368 : decode cL_law 368 = .ok (.ireturn, 1) := by decide +kernel
theorem dL_law_369 : decode cL_law 369 = .ok (.iload 5, 2) := by decide +kernel
theorem dL_law_371 : decode cL_law 371 = .ok (.ifCond .ne 15, 3) := by decide +kernel
theorem dL_law_374 : decode cL_law 374 = .ok (.aload_n 3, 1) := by decide +kernel
theorem dL_law_375 : decode cL_law 375 = .ok (.iconst 0, 1) := by decide +kernel
theorem dL_law_376 : decode cL_law 376 = .ok (.laload, 1) := by decide +kernel
theorem dL_law_377 : decode cL_law 377 = .ok (.iload 6, 2) := by decide +kernel
theorem dL_law_379 : decode cL_law 379 = .ok (.i2l, 1) := by decide +kernel
theorem dL_law_380 : decode cL_law 380 = .ok (.lcmp, 1) := by decide +kernel
theorem dL_law_381 : decode cL_law 381 = .ok (.ifCond .eq 5, 3) := by decide +kernel
theorem dL_law_384 : decode cL_law 384 = .ok (.iconst 0, 1) := by decide +kernel
theorem dL_law_385 : decode cL_law 385 = .ok (.ireturn, 1) := by decide +kernel
theorem dL_law_386 : decode cL_law 386 = .ok (.goto 645, 3) := by decide +kernel
theorem dL_law_389 : decode cL_law 389 = .ok (.aload_n 1, 1) := by decide +kernel
theorem dL_law_390 : decode cL_law 390 = .ok (.aload_n 0, 1) := by decide +kernel
theorem dL_law_391 : decode cL_law 391 = .ok (.iload 4, 2) := by decide +kernel
theorem dL_law_393 : decode cL_law 393 = .ok (.iconst 1, 1) := by decide +kernel
theorem dL_law_394 : decode cL_law 394 = .ok (.iadd, 1) := by decide +kernel
theorem dL_law_395 : decode cL_law 395 = .ok (.iaload, 1) := by decide +kernel
theorem dL_law_396 : decode cL_law 396 = .ok (.aload_n 0, 1) := by decide +kernel
theorem dL_law_397 : decode cL_law 397 = .ok (.iload 4, 2) := by decide +kernel
theorem dL_law_399 : decode cL_law 399 = .ok (.iconst 2, 1) := by decide +kernel
theorem dL_law_400 : decode cL_law 400 = .ok (.iadd, 1) := by decide +kernel
theorem dL_law_401 : decode cL_law 401 = .ok (.iaload, 1) := by decide +kernel
theorem dL_law_402 : decode cL_law 402 = .ok (.aload_n 0, 1) := by decide +kernel
theorem dL_law_403 : decode cL_law 403 = .ok (.iload 4, 2) := by decide +kernel
theorem dL_law_405 : decode cL_law 405 = .ok (.iconst 3, 1) := by decide +kernel
theorem dL_law_406 : decode cL_law 406 = .ok (.iadd, 1) := by decide +kernel
theorem dL_law_407 : decode cL_law 407 = .ok (.iaload, 1) := by decide +kernel
theorem dL_law_408 : decode cL_law 408 = .ok (.invokevirtual 51, 3) := by decide +kernel
theorem dL_law_411 : decode cL_law 411 = .ok (.aload_n 2, 1) := by decide +kernel
theorem dL_law_412 : decode cL_law 412 = .ok (.aload_n 0, 1) := by decide +kernel
theorem dL_law_413 : decode cL_law 413 = .ok (.iload 4, 2) := by decide +kernel
theorem dL_law_415 : decode cL_law 415 = .ok (.iconst 1, 1) := by decide +kernel
theorem dL_law_416 : decode cL_law 416 = .ok (.iadd, 1) := by decide +kernel
theorem dL_law_417 : decode cL_law 417 = .ok (.iaload, 1) := by decide +kernel
theorem dL_law_418 : decode cL_law 418 = .ok (.aload_n 0, 1) := by decide +kernel
theorem dL_law_419 : decode cL_law 419 = .ok (.iload 4, 2) := by decide +kernel
theorem dL_law_421 : decode cL_law 421 = .ok (.iconst 2, 1) := by decide +kernel
theorem dL_law_422 : decode cL_law 422 = .ok (.iadd, 1) := by decide +kernel
theorem dL_law_423 : decode cL_law 423 = .ok (.iaload, 1) := by decide +kernel
theorem dL_law_424 : decode cL_law 424 = .ok (.aload_n 0, 1) := by decide +kernel
theorem dL_law_425 : decode cL_law 425 = .ok (.iload 4, 2) := by decide +kernel
theorem dL_law_427 : decode cL_law 427 = .ok (.iconst 3, 1) := by decide +kernel
theorem dL_law_428 : decode cL_law 428 = .ok (.iadd, 1) := by decide +kernel
theorem dL_law_429 : decode cL_law 429 = .ok (.iaload, 1) := by decide +kernel
theorem dL_law_430 : decode cL_law 430 = .ok (.invokevirtual 55, 3) := by decide +kernel
theorem dL_law_433 : decode cL_law 433 = .ok (.if_icmp .eq 598, 3) := by decide +kernel
theorem dL_law_436 : decode cL_law 436 = .ok (.iconst 0, 1) := by decide +kernel
theorem dL_law_437 : decode cL_law 437 = .ok (.ireturn, 1) := by decide +kernel
theorem dL_law_438 : decode cL_law 438 = .ok (.aload_n 1, 1) := by decide +kernel
theorem dL_law_439 : decode cL_law 439 = .ok (.aload_n 0, 1) := by decide +kernel
theorem dL_law_440 : decode cL_law 440 = .ok (.iload 4, 2) := by decide +kernel
theorem dL_law_442 : decode cL_law 442 = .ok (.iconst 1, 1) := by decide +kernel
theorem dL_law_443 : decode cL_law 443 = .ok (.iadd, 1) := by decide +kernel
theorem dL_law_444 : decode cL_law 444 = .ok (.iaload, 1) := by decide +kernel
theorem dL_law_445 : decode cL_law 445 = .ok (.aload_n 0, 1) := by decide +kernel
theorem dL_law_446 : decode cL_law 446 = .ok (.iload 4, 2) := by decide +kernel
theorem dL_law_448 : decode cL_law 448 = .ok (.iconst 2, 1) := by decide +kernel
theorem dL_law_449 : decode cL_law 449 = .ok (.iadd, 1) := by decide +kernel
theorem dL_law_450 : decode cL_law 450 = .ok (.iaload, 1) := by decide +kernel
theorem dL_law_451 : decode cL_law 451 = .ok (.aload_n 0, 1) := by decide +kernel
theorem dL_law_452 : decode cL_law 452 = .ok (.iload 4, 2) := by decide +kernel
theorem dL_law_454 : decode cL_law 454 = .ok (.iconst 3, 1) := by decide +kernel
theorem dL_law_455 : decode cL_law 455 = .ok (.iadd, 1) := by decide +kernel
theorem dL_law_456 : decode cL_law 456 = .ok (.iaload, 1) := by decide +kernel
theorem dL_law_457 : decode cL_law 457 = .ok (.invokevirtual 56, 3) := by decide +kernel
theorem dL_law_460 : decode cL_law 460 = .ok (.aload_n 2, 1) := by decide +kernel
theorem dL_law_461 : decode cL_law 461 = .ok (.aload_n 0, 1) := by decide +kernel
theorem dL_law_462 : decode cL_law 462 = .ok (.iload 4, 2) := by decide +kernel
theorem dL_law_464 : decode cL_law 464 = .ok (.iconst 1, 1) := by decide +kernel
theorem dL_law_465 : decode cL_law 465 = .ok (.iadd, 1) := by decide +kernel
theorem dL_law_466 : decode cL_law 466 = .ok (.iaload, 1) := by decide +kernel
theorem dL_law_467 : decode cL_law 467 = .ok (.aload_n 0, 1) := by decide +kernel
theorem dL_law_468 : decode cL_law 468 = .ok (.iload 4, 2) := by decide +kernel
theorem dL_law_470 : decode cL_law 470 = .ok (.iconst 2, 1) := by decide +kernel
theorem dL_law_471 : decode cL_law 471 = .ok (.iadd, 1) := by decide +kernel
theorem dL_law_472 : decode cL_law 472 = .ok (.iaload, 1) := by decide +kernel
theorem dL_law_473 : decode cL_law 473 = .ok (.aload_n 0, 1) := by decide +kernel
theorem dL_law_474 : decode cL_law 474 = .ok (.iload 4, 2) := by decide +kernel
theorem dL_law_476 : decode cL_law 476 = .ok (.iconst 3, 1) := by decide +kernel
theorem dL_law_477 : decode cL_law 477 = .ok (.iadd, 1) := by decide +kernel
theorem dL_law_478 : decode cL_law 478 = .ok (.iaload, 1) := by decide +kernel
theorem dL_law_479 : decode cL_law 479 = .ok (.invokevirtual 59, 3) := by decide +kernel
theorem dL_law_482 : decode cL_law 482 = .ok (.if_icmp .eq 549, 3) := by decide +kernel
theorem dL_law_485 : decode cL_law 485 = .ok (.iconst 0, 1) := by decide +kernel
theorem dL_law_486 : decode cL_law 486 = .ok (.ireturn, 1) := by decide +kernel
theorem dL_law_487 : decode cL_law 487 = .ok (.aload_n 1, 1) := by decide +kernel
theorem dL_law_488 : decode cL_law 488 = .ok (.aload_n 0, 1) := by decide +kernel
theorem dL_law_489 : decode cL_law 489 = .ok (.iload 4, 2) := by decide +kernel
theorem dL_law_491 : decode cL_law 491 = .ok (.iconst 1, 1) := by decide +kernel
theorem dL_law_492 : decode cL_law 492 = .ok (.iadd, 1) := by decide +kernel
theorem dL_law_493 : decode cL_law 493 = .ok (.iaload, 1) := by decide +kernel
theorem dL_law_494 : decode cL_law 494 = .ok (.aload_n 0, 1) := by decide +kernel
theorem dL_law_495 : decode cL_law 495 = .ok (.iload 4, 2) := by decide +kernel
theorem dL_law_497 : decode cL_law 497 = .ok (.iconst 2, 1) := by decide +kernel
theorem dL_law_498 : decode cL_law 498 = .ok (.iadd, 1) := by decide +kernel
theorem dL_law_499 : decode cL_law 499 = .ok (.iaload, 1) := by decide +kernel
theorem dL_law_500 : decode cL_law 500 = .ok (.aload_n 0, 1) := by decide +kernel
theorem dL_law_501 : decode cL_law 501 = .ok (.iload 4, 2) := by decide +kernel
theorem dL_law_503 : decode cL_law 503 = .ok (.iconst 3, 1) := by decide +kernel
theorem dL_law_504 : decode cL_law 504 = .ok (.iadd, 1) := by decide +kernel
theorem dL_law_505 : decode cL_law 505 = .ok (.iaload, 1) := by decide +kernel
theorem dL_law_506 : decode cL_law 506 = .ok (.aload_n 0, 1) := by decide +kernel
theorem dL_law_507 : decode cL_law 507 = .ok (.iload 4, 2) := by decide +kernel
theorem dL_law_509 : decode cL_law 509 = .ok (.iconst 4, 1) := by decide +kernel
theorem dL_law_510 : decode cL_law 510 = .ok (.iadd, 1) := by decide +kernel
theorem dL_law_511 : decode cL_law 511 = .ok (.iaload, 1) := by decide +kernel
theorem dL_law_512 : decode cL_law 512 = .ok (.aload_n 0, 1) := by decide +kernel
theorem dL_law_513 : decode cL_law 513 = .ok (.iload 4, 2) := by decide +kernel
theorem dL_law_515 : decode cL_law 515 = .ok (.iconst 5, 1) := by decide +kernel
theorem dL_law_516 : decode cL_law 516 = .ok (.iadd, 1) := by decide +kernel
theorem dL_law_517 : decode cL_law 517 = .ok (.iaload, 1) := by decide +kernel
theorem dL_law_518 : decode cL_law 518 = .ok (.invokevirtual 60, 3) := by decide +kernel
theorem dL_law_521 : decode cL_law 521 = .ok (.aload_n 2, 1) := by decide +kernel
theorem dL_law_522 : decode cL_law 522 = .ok (.aload_n 0, 1) := by decide +kernel
theorem dL_law_523 : decode cL_law 523 = .ok (.iload 4, 2) := by decide +kernel
theorem dL_law_525 : decode cL_law 525 = .ok (.iconst 1, 1) := by decide +kernel
theorem dL_law_526 : decode cL_law 526 = .ok (.iadd, 1) := by decide +kernel
theorem dL_law_527 : decode cL_law 527 = .ok (.iaload, 1) := by decide +kernel
theorem dL_law_528 : decode cL_law 528 = .ok (.aload_n 0, 1) := by decide +kernel
theorem dL_law_529 : decode cL_law 529 = .ok (.iload 4, 2) := by decide +kernel
theorem dL_law_531 : decode cL_law 531 = .ok (.iconst 2, 1) := by decide +kernel
theorem dL_law_532 : decode cL_law 532 = .ok (.iadd, 1) := by decide +kernel
theorem dL_law_533 : decode cL_law 533 = .ok (.iaload, 1) := by decide +kernel
theorem dL_law_534 : decode cL_law 534 = .ok (.aload_n 0, 1) := by decide +kernel
theorem dL_law_535 : decode cL_law 535 = .ok (.iload 4, 2) := by decide +kernel
theorem dL_law_537 : decode cL_law 537 = .ok (.iconst 3, 1) := by decide +kernel
theorem dL_law_538 : decode cL_law 538 = .ok (.iadd, 1) := by decide +kernel
theorem dL_law_539 : decode cL_law 539 = .ok (.iaload, 1) := by decide +kernel
theorem dL_law_540 : decode cL_law 540 = .ok (.aload_n 0, 1) := by decide +kernel
theorem dL_law_541 : decode cL_law 541 = .ok (.iload 4, 2) := by decide +kernel
theorem dL_law_543 : decode cL_law 543 = .ok (.iconst 4, 1) := by decide +kernel
theorem dL_law_544 : decode cL_law 544 = .ok (.iadd, 1) := by decide +kernel
theorem dL_law_545 : decode cL_law 545 = .ok (.iaload, 1) := by decide +kernel
theorem dL_law_546 : decode cL_law 546 = .ok (.aload_n 0, 1) := by decide +kernel
theorem dL_law_547 : decode cL_law 547 = .ok (.iload 4, 2) := by decide +kernel
theorem dL_law_549 : decode cL_law 549 = .ok (.iconst 5, 1) := by decide +kernel
theorem dL_law_550 : decode cL_law 550 = .ok (.iadd, 1) := by decide +kernel
theorem dL_law_551 : decode cL_law 551 = .ok (.iaload, 1) := by decide +kernel
theorem dL_law_552 : decode cL_law 552 = .ok (.invokevirtual 64, 3) := by decide +kernel
theorem dL_law_555 : decode cL_law 555 = .ok (.if_icmp .eq 476, 3) := by decide +kernel
theorem dL_law_558 : decode cL_law 558 = .ok (.iconst 0, 1) := by decide +kernel
theorem dL_law_559 : decode cL_law 559 = .ok (.ireturn, 1) := by decide +kernel
theorem dL_law_560 : decode cL_law 560 = .ok (.aload_n 1, 1) := by decide +kernel
theorem dL_law_561 : decode cL_law 561 = .ok (.aload_n 0, 1) := by decide +kernel
theorem dL_law_562 : decode cL_law 562 = .ok (.iload 4, 2) := by decide +kernel
theorem dL_law_564 : decode cL_law 564 = .ok (.iconst 1, 1) := by decide +kernel
theorem dL_law_565 : decode cL_law 565 = .ok (.iadd, 1) := by decide +kernel
theorem dL_law_566 : decode cL_law 566 = .ok (.iaload, 1) := by decide +kernel
theorem dL_law_567 : decode cL_law 567 = .ok (.invokevirtual 65, 3) := by decide +kernel
theorem dL_law_570 : decode cL_law 570 = .ok (.aload_n 2, 1) := by decide +kernel
theorem dL_law_571 : decode cL_law 571 = .ok (.aload_n 0, 1) := by decide +kernel
theorem dL_law_572 : decode cL_law 572 = .ok (.iload 4, 2) := by decide +kernel
theorem dL_law_574 : decode cL_law 574 = .ok (.iconst 1, 1) := by decide +kernel
theorem dL_law_575 : decode cL_law 575 = .ok (.iadd, 1) := by decide +kernel
theorem dL_law_576 : decode cL_law 576 = .ok (.iaload, 1) := by decide +kernel
theorem dL_law_577 : decode cL_law 577 = .ok (.invokevirtual 68, 3) := by decide +kernel
theorem dL_law_580 : decode cL_law 580 = .ok (.if_icmp .eq 451, 3) := by decide +kernel
theorem dL_law_583 : decode cL_law 583 = .ok (.iconst 0, 1) := by decide +kernel
theorem dL_law_584 : decode cL_law 584 = .ok (.ireturn, 1) := by decide +kernel
theorem dL_law_585 : decode cL_law 585 = .ok (.aload_n 1, 1) := by decide +kernel
theorem dL_law_586 : decode cL_law 586 = .ok (.aload_n 0, 1) := by decide +kernel
theorem dL_law_587 : decode cL_law 587 = .ok (.iload 4, 2) := by decide +kernel
theorem dL_law_589 : decode cL_law 589 = .ok (.iconst 1, 1) := by decide +kernel
theorem dL_law_590 : decode cL_law 590 = .ok (.iadd, 1) := by decide +kernel
theorem dL_law_591 : decode cL_law 591 = .ok (.iaload, 1) := by decide +kernel
theorem dL_law_592 : decode cL_law 592 = .ok (.invokevirtual 69, 3) := by decide +kernel
theorem dL_law_595 : decode cL_law 595 = .ok (.aload_n 2, 1) := by decide +kernel
theorem dL_law_596 : decode cL_law 596 = .ok (.aload_n 0, 1) := by decide +kernel
theorem dL_law_597 : decode cL_law 597 = .ok (.iload 4, 2) := by decide +kernel
theorem dL_law_599 : decode cL_law 599 = .ok (.iconst 1, 1) := by decide +kernel
theorem dL_law_600 : decode cL_law 600 = .ok (.iadd, 1) := by decide +kernel
theorem dL_law_601 : decode cL_law 601 = .ok (.iaload, 1) := by decide +kernel
theorem dL_law_602 : decode cL_law 602 = .ok (.invokevirtual 72, 3) := by decide +kernel
theorem dL_law_605 : decode cL_law 605 = .ok (.if_icmp .eq 426, 3) := by decide +kernel
theorem dL_law_608 : decode cL_law 608 = .ok (.iconst 0, 1) := by decide +kernel
theorem dL_law_609 : decode cL_law 609 = .ok (.ireturn, 1) := by decide +kernel
theorem dL_law_610 : decode cL_law 610 = .ok (.aload_n 1, 1) := by decide +kernel
theorem dL_law_611 : decode cL_law 611 = .ok (.aload_n 0, 1) := by decide +kernel
theorem dL_law_612 : decode cL_law 612 = .ok (.iload 4, 2) := by decide +kernel
theorem dL_law_614 : decode cL_law 614 = .ok (.iconst 1, 1) := by decide +kernel
theorem dL_law_615 : decode cL_law 615 = .ok (.iadd, 1) := by decide +kernel
theorem dL_law_616 : decode cL_law 616 = .ok (.iaload, 1) := by decide +kernel
theorem dL_law_617 : decode cL_law 617 = .ok (.aload_n 0, 1) := by decide +kernel
theorem dL_law_618 : decode cL_law 618 = .ok (.iload 4, 2) := by decide +kernel
theorem dL_law_620 : decode cL_law 620 = .ok (.iconst 2, 1) := by decide +kernel
theorem dL_law_621 : decode cL_law 621 = .ok (.iadd, 1) := by decide +kernel
theorem dL_law_622 : decode cL_law 622 = .ok (.iaload, 1) := by decide +kernel
theorem dL_law_623 : decode cL_law 623 = .ok (.invokevirtual 73, 3) := by decide +kernel
theorem dL_law_626 : decode cL_law 626 = .ok (.aload_n 2, 1) := by decide +kernel
theorem dL_law_627 : decode cL_law 627 = .ok (.aload_n 0, 1) := by decide +kernel
theorem dL_law_628 : decode cL_law 628 = .ok (.iload 4, 2) := by decide +kernel
theorem dL_law_630 : decode cL_law 630 = .ok (.iconst 1, 1) := by decide +kernel
theorem dL_law_631 : decode cL_law 631 = .ok (.iadd, 1) := by decide +kernel
theorem dL_law_632 : decode cL_law 632 = .ok (.iaload, 1) := by decide +kernel
theorem dL_law_633 : decode cL_law 633 = .ok (.aload_n 0, 1) := by decide +kernel
theorem dL_law_634 : decode cL_law 634 = .ok (.iload 4, 2) := by decide +kernel
theorem dL_law_636 : decode cL_law 636 = .ok (.iconst 2, 1) := by decide +kernel
theorem dL_law_637 : decode cL_law 637 = .ok (.iadd, 1) := by decide +kernel
theorem dL_law_638 : decode cL_law 638 = .ok (.iaload, 1) := by decide +kernel
theorem dL_law_639 : decode cL_law 639 = .ok (.invokevirtual 76, 3) := by decide +kernel
theorem dL_law_642 : decode cL_law 642 = .ok (.if_icmp .eq 389, 3) := by decide +kernel
theorem dL_law_645 : decode cL_law 645 = .ok (.iconst 0, 1) := by decide +kernel
theorem dL_law_646 : decode cL_law 646 = .ok (.ireturn, 1) := by decide +kernel
theorem dL_law_647 : decode cL_law 647 = .ok (.aload_n 1, 1) := by decide +kernel
theorem dL_law_648 : decode cL_law 648 = .ok (.aload_n 0, 1) := by decide +kernel
theorem dL_law_649 : decode cL_law 649 = .ok (.iload 4, 2) := by decide +kernel
theorem dL_law_651 : decode cL_law 651 = .ok (.iconst 1, 1) := by decide +kernel
theorem dL_law_652 : decode cL_law 652 = .ok (.iadd, 1) := by decide +kernel
theorem dL_law_653 : decode cL_law 653 = .ok (.iaload, 1) := by decide +kernel
theorem dL_law_654 : decode cL_law 654 = .ok (.invokevirtual 77, 3) := by decide +kernel
theorem dL_law_657 : decode cL_law 657 = .ok (.aload_n 2, 1) := by decide +kernel
theorem dL_law_658 : decode cL_law 658 = .ok (.aload_n 0, 1) := by decide +kernel
theorem dL_law_659 : decode cL_law 659 = .ok (.iload 4, 2) := by decide +kernel
theorem dL_law_661 : decode cL_law 661 = .ok (.iconst 1, 1) := by decide +kernel
theorem dL_law_662 : decode cL_law 662 = .ok (.iadd, 1) := by decide +kernel
theorem dL_law_663 : decode cL_law 663 = .ok (.iaload, 1) := by decide +kernel
theorem dL_law_664 : decode cL_law 664 = .ok (.invokevirtual 80, 3) := by decide +kernel
theorem dL_law_667 : decode cL_law 667 = .ok (.if_icmp .eq 364, 3) := by decide +kernel
theorem dL_law_670 : decode cL_law 670 = .ok (.iconst 0, 1) := by decide +kernel
theorem dL_law_671 : decode cL_law 671 = .ok (.ireturn, 1) := by decide +kernel
theorem dL_law_672 : decode cL_law 672 = .ok (.aload_n 1, 1) := by decide +kernel
theorem dL_law_673 : decode cL_law 673 = .ok (.aload_n 0, 1) := by decide +kernel
theorem dL_law_674 : decode cL_law 674 = .ok (.iload 4, 2) := by decide +kernel
theorem dL_law_676 : decode cL_law 676 = .ok (.iconst 1, 1) := by decide +kernel
theorem dL_law_677 : decode cL_law 677 = .ok (.iadd, 1) := by decide +kernel
theorem dL_law_678 : decode cL_law 678 = .ok (.iaload, 1) := by decide +kernel
theorem dL_law_679 : decode cL_law 679 = .ok (.invokevirtual 81, 3) := by decide +kernel
theorem dL_law_682 : decode cL_law 682 = .ok (.aload_n 2, 1) := by decide +kernel
theorem dL_law_683 : decode cL_law 683 = .ok (.aload_n 0, 1) := by decide +kernel
theorem dL_law_684 : decode cL_law 684 = .ok (.iload 4, 2) := by decide +kernel
theorem dL_law_686 : decode cL_law 686 = .ok (.iconst 1, 1) := by decide +kernel
theorem dL_law_687 : decode cL_law 687 = .ok (.iadd, 1) := by decide +kernel
theorem dL_law_688 : decode cL_law 688 = .ok (.iaload, 1) := by decide +kernel
theorem dL_law_689 : decode cL_law 689 = .ok (.invokevirtual 85, 3) := by decide +kernel
theorem dL_law_692 : decode cL_law 692 = .ok (.if_icmp .eq 339, 3) := by decide +kernel
theorem dL_law_695 : decode cL_law 695 = .ok (.iconst 0, 1) := by decide +kernel
theorem dL_law_696 : decode cL_law 696 = .ok (.ireturn, 1) := by decide +kernel
theorem dL_law_697 : decode cL_law 697 = .ok (.aload_n 1, 1) := by decide +kernel
theorem dL_law_698 : decode cL_law 698 = .ok (.aload_n 0, 1) := by decide +kernel
theorem dL_law_699 : decode cL_law 699 = .ok (.iload 4, 2) := by decide +kernel
theorem dL_law_701 : decode cL_law 701 = .ok (.iconst 1, 1) := by decide +kernel
theorem dL_law_702 : decode cL_law 702 = .ok (.iadd, 1) := by decide +kernel
theorem dL_law_703 : decode cL_law 703 = .ok (.iaload, 1) := by decide +kernel
theorem dL_law_704 : decode cL_law 704 = .ok (.aload_n 0, 1) := by decide +kernel
theorem dL_law_705 : decode cL_law 705 = .ok (.iload 4, 2) := by decide +kernel
theorem dL_law_707 : decode cL_law 707 = .ok (.iconst 2, 1) := by decide +kernel
theorem dL_law_708 : decode cL_law 708 = .ok (.iadd, 1) := by decide +kernel
theorem dL_law_709 : decode cL_law 709 = .ok (.iaload, 1) := by decide +kernel
theorem dL_law_710 : decode cL_law 710 = .ok (.aload_n 3, 1) := by decide +kernel
theorem dL_law_711 : decode cL_law 711 = .ok (.invokestatic 86, 3) := by decide +kernel
theorem dL_law_714 : decode cL_law 714 = .ok (.istore 5, 2) := by decide +kernel
theorem dL_law_716 : decode cL_law 716 = .ok (.aload_n 2, 1) := by decide +kernel
theorem dL_law_717 : decode cL_law 717 = .ok (.aload_n 0, 1) := by decide +kernel
theorem dL_law_718 : decode cL_law 718 = .ok (.iload 4, 2) := by decide +kernel
theorem dL_law_720 : decode cL_law 720 = .ok (.iconst 1, 1) := by decide +kernel
theorem dL_law_721 : decode cL_law 721 = .ok (.iadd, 1) := by decide +kernel
theorem dL_law_722 : decode cL_law 722 = .ok (.iaload, 1) := by decide +kernel
theorem dL_law_723 : decode cL_law 723 = .ok (.aload_n 0, 1) := by decide +kernel
theorem dL_law_724 : decode cL_law 724 = .ok (.iload 4, 2) := by decide +kernel
theorem dL_law_726 : decode cL_law 726 = .ok (.iconst 2, 1) := by decide +kernel
theorem dL_law_727 : decode cL_law 727 = .ok (.iadd, 1) := by decide +kernel
theorem dL_law_728 : decode cL_law 728 = .ok (.iaload, 1) := by decide +kernel
theorem dL_law_729 : decode cL_law 729 = .ok (.invokevirtual 88, 3) := by decide +kernel
theorem dL_law_732 : decode cL_law 732 = .ok (.istore 6, 2) := by decide +kernel
theorem dL_law_734 : decode cL_law 734 = .ok (.aload_n 2, 1) := by decide +kernel
theorem dL_law_735 : decode cL_law 735 = .ok (.invokevirtual 48, 3) := by decide +kernel
theorem dL_law_738 : decode cL_law 738 = .ok (.iload 5, 2) := by decide +kernel
theorem dL_law_740 : decode cL_law 740 = .ok (.if_icmp .eq 5, 3) := by decide +kernel
theorem dL_law_743 : decode cL_law 743 = .ok (.iconst 0, 1) := by decide +kernel
theorem dL_law_744 : decode cL_law 744 = .ok (.ireturn, 1) := by decide +kernel
theorem dL_law_745 : decode cL_law 745 = .ok (.iload 5, 2) := by decide +kernel
theorem dL_law_747 : decode cL_law 747 = .ok (.ifCond .ne 15, 3) := by decide +kernel
theorem dL_law_750 : decode cL_law 750 = .ok (.aload_n 3, 1) := by decide +kernel
theorem dL_law_751 : decode cL_law 751 = .ok (.iconst 0, 1) := by decide +kernel
theorem dL_law_752 : decode cL_law 752 = .ok (.laload, 1) := by decide +kernel
theorem dL_law_753 : decode cL_law 753 = .ok (.iload 6, 2) := by decide +kernel
theorem dL_law_755 : decode cL_law 755 = .ok (.i2l, 1) := by decide +kernel
theorem dL_law_756 : decode cL_law 756 = .ok (.lcmp, 1) := by decide +kernel
theorem dL_law_757 : decode cL_law 757 = .ok (.ifCond .eq 5, 3) := by decide +kernel
theorem dL_law_760 : decode cL_law 760 = .ok (.iconst 0, 1) := by decide +kernel
theorem dL_law_761 : decode cL_law 761 = .ok (.ireturn, 1) := by decide +kernel
theorem dL_law_762 : decode cL_law 762 = .ok (.goto 269, 3) := by decide +kernel
theorem dL_law_765 : decode cL_law 765 = .ok (.aload_n 1, 1) := by decide +kernel
theorem dL_law_766 : decode cL_law 766 = .ok (.aload_n 0, 1) := by decide +kernel
theorem dL_law_767 : decode cL_law 767 = .ok (.iload 4, 2) := by decide +kernel
theorem dL_law_769 : decode cL_law 769 = .ok (.iconst 1, 1) := by decide +kernel
theorem dL_law_770 : decode cL_law 770 = .ok (.iadd, 1) := by decide +kernel
theorem dL_law_771 : decode cL_law 771 = .ok (.iaload, 1) := by decide +kernel
theorem dL_law_772 : decode cL_law 772 = .ok (.aload_n 0, 1) := by decide +kernel
theorem dL_law_773 : decode cL_law 773 = .ok (.iload 4, 2) := by decide +kernel
theorem dL_law_775 : decode cL_law 775 = .ok (.iconst 2, 1) := by decide +kernel
theorem dL_law_776 : decode cL_law 776 = .ok (.iadd, 1) := by decide +kernel
theorem dL_law_777 : decode cL_law 777 = .ok (.iaload, 1) := by decide +kernel
theorem dL_law_778 : decode cL_law 778 = .ok (.aload_n 3, 1) := by decide +kernel
theorem dL_law_779 : decode cL_law 779 = .ok (.invokestatic 89, 3) := by decide +kernel
theorem dL_law_782 : decode cL_law 782 = .ok (.istore 5, 2) := by decide +kernel
theorem dL_law_784 : decode cL_law 784 = .ok (.aload_n 2, 1) := by decide +kernel
theorem dL_law_785 : decode cL_law 785 = .ok (.aload_n 0, 1) := by decide +kernel
theorem dL_law_786 : decode cL_law 786 = .ok (.iload 4, 2) := by decide +kernel
theorem dL_law_788 : decode cL_law 788 = .ok (.iconst 1, 1) := by decide +kernel
theorem dL_law_789 : decode cL_law 789 = .ok (.iadd, 1) := by decide +kernel
theorem dL_law_790 : decode cL_law 790 = .ok (.iaload, 1) := by decide +kernel
theorem dL_law_791 : decode cL_law 791 = .ok (.aload_n 0, 1) := by decide +kernel
theorem dL_law_792 : decode cL_law 792 = .ok (.iload 4, 2) := by decide +kernel
theorem dL_law_794 : decode cL_law 794 = .ok (.iconst 2, 1) := by decide +kernel
theorem dL_law_795 : decode cL_law 795 = .ok (.iadd, 1) := by decide +kernel
theorem dL_law_796 : decode cL_law 796 = .ok (.iaload, 1) := by decide +kernel
theorem dL_law_797 : decode cL_law 797 = .ok (.invokevirtual 91, 3) := by decide +kernel
theorem dL_law_800 : decode cL_law 800 = .ok (.istore 6, 2) := by decide +kernel
theorem dL_law_802 : decode cL_law 802 = .ok (.aload_n 2, 1) := by decide +kernel
theorem dL_law_803 : decode cL_law 803 = .ok (.invokevirtual 48, 3) := by decide +kernel
theorem dL_law_806 : decode cL_law 806 = .ok (.iload 5, 2) := by decide +kernel
theorem dL_law_808 : decode cL_law 808 = .ok (.if_icmp .eq 5, 3) := by decide +kernel
theorem dL_law_811 : decode cL_law 811 = .ok (.iconst 0, 1) := by decide +kernel
theorem dL_law_812 : decode cL_law 812 = .ok (.ireturn, 1) := by decide +kernel
theorem dL_law_813 : decode cL_law 813 = .ok (.iload 5, 2) := by decide +kernel
theorem dL_law_815 : decode cL_law 815 = .ok (.ifCond .ne 15, 3) := by decide +kernel
theorem dL_law_818 : decode cL_law 818 = .ok (.aload_n 3, 1) := by decide +kernel
theorem dL_law_819 : decode cL_law 819 = .ok (.iconst 0, 1) := by decide +kernel
theorem dL_law_820 : decode cL_law 820 = .ok (.laload, 1) := by decide +kernel
theorem dL_law_821 : decode cL_law 821 = .ok (.iload 6, 2) := by decide +kernel
theorem dL_law_823 : decode cL_law 823 = .ok (.i2l, 1) := by decide +kernel
theorem dL_law_824 : decode cL_law 824 = .ok (.lcmp, 1) := by decide +kernel
theorem dL_law_825 : decode cL_law 825 = .ok (.ifCond .eq 5, 3) := by decide +kernel
theorem dL_law_828 : decode cL_law 828 = .ok (.iconst 0, 1) := by decide +kernel
theorem dL_law_829 : decode cL_law 829 = .ok (.ireturn, 1) := by decide +kernel
theorem dL_law_830 : decode cL_law 830 = .ok (.goto 201, 3) := by decide +kernel
theorem dL_law_833 : decode cL_law 833 = .ok (.aload_n 1, 1) := by decide +kernel
theorem dL_law_834 : decode cL_law 834 = .ok (.aload_n 0, 1) := by decide +kernel
theorem dL_law_835 : decode cL_law 835 = .ok (.iload 4, 2) := by decide +kernel
theorem dL_law_837 : decode cL_law 837 = .ok (.iconst 1, 1) := by decide +kernel
theorem dL_law_838 : decode cL_law 838 = .ok (.iadd, 1) := by decide +kernel
theorem dL_law_839 : decode cL_law 839 = .ok (.iaload, 1) := by decide +kernel
theorem dL_law_840 : decode cL_law 840 = .ok (.invokevirtual 92, 3) := by decide +kernel
theorem dL_law_843 : decode cL_law 843 = .ok (.aload_n 2, 1) := by decide +kernel
theorem dL_law_844 : decode cL_law 844 = .ok (.aload_n 0, 1) := by decide +kernel
theorem dL_law_845 : decode cL_law 845 = .ok (.iload 4, 2) := by decide +kernel
theorem dL_law_847 : decode cL_law 847 = .ok (.iconst 1, 1) := by decide +kernel
theorem dL_law_848 : decode cL_law 848 = .ok (.iadd, 1) := by decide +kernel
theorem dL_law_849 : decode cL_law 849 = .ok (.iaload, 1) := by decide +kernel
theorem dL_law_850 : decode cL_law 850 = .ok (.invokevirtual 95, 3) := by decide +kernel
theorem dL_law_853 : decode cL_law 853 = .ok (.if_icmp .eq 178, 3) := by decide +kernel
theorem dL_law_856 : decode cL_law 856 = .ok (.iconst 0, 1) := by decide +kernel
theorem dL_law_857 : decode cL_law 857 = .ok (.ireturn, 1) := by decide +kernel
theorem dL_law_858 : decode cL_law 858 = .ok (.aload_n 1, 1) := by decide +kernel
theorem dL_law_859 : decode cL_law 859 = .ok (.aload_n 0, 1) := by decide +kernel
theorem dL_law_860 : decode cL_law 860 = .ok (.iload 4, 2) := by decide +kernel
theorem dL_law_862 : decode cL_law 862 = .ok (.iconst 1, 1) := by decide +kernel
theorem dL_law_863 : decode cL_law 863 = .ok (.iadd, 1) := by decide +kernel
theorem dL_law_864 : decode cL_law 864 = .ok (.iaload, 1) := by decide +kernel
theorem dL_law_865 : decode cL_law 865 = .ok (.aload_n 0, 1) := by decide +kernel
theorem dL_law_866 : decode cL_law 866 = .ok (.iload 4, 2) := by decide +kernel
theorem dL_law_868 : decode cL_law 868 = .ok (.iconst 2, 1) := by decide +kernel
theorem dL_law_869 : decode cL_law 869 = .ok (.iadd, 1) := by decide +kernel
theorem dL_law_870 : decode cL_law 870 = .ok (.iaload, 1) := by decide +kernel
theorem dL_law_871 : decode cL_law 871 = .ok (.invokevirtual 96, 3) := by decide +kernel
theorem dL_law_874 : decode cL_law 874 = .ok (.aload_n 2, 1) := by decide +kernel
theorem dL_law_875 : decode cL_law 875 = .ok (.aload_n 0, 1) := by decide +kernel
theorem dL_law_876 : decode cL_law 876 = .ok (.iload 4, 2) := by decide +kernel
theorem dL_law_878 : decode cL_law 878 = .ok (.iconst 1, 1) := by decide +kernel
theorem dL_law_879 : decode cL_law 879 = .ok (.iadd, 1) := by decide +kernel
theorem dL_law_880 : decode cL_law 880 = .ok (.iaload, 1) := by decide +kernel
theorem dL_law_881 : decode cL_law 881 = .ok (.aload_n 0, 1) := by decide +kernel
theorem dL_law_882 : decode cL_law 882 = .ok (.iload 4, 2) := by decide +kernel
theorem dL_law_884 : decode cL_law 884 = .ok (.iconst 2, 1) := by decide +kernel
theorem dL_law_885 : decode cL_law 885 = .ok (.iadd, 1) := by decide +kernel
theorem dL_law_886 : decode cL_law 886 = .ok (.iaload, 1) := by decide +kernel
theorem dL_law_887 : decode cL_law 887 = .ok (.invokevirtual 99, 3) := by decide +kernel
theorem dL_law_890 : decode cL_law 890 = .ok (.if_icmp .eq 141, 3) := by decide +kernel
theorem dL_law_893 : decode cL_law 893 = .ok (.iconst 0, 1) := by decide +kernel
theorem dL_law_894 : decode cL_law 894 = .ok (.ireturn, 1) := by decide +kernel
theorem dL_law_895 : decode cL_law 895 = .ok (.aload_n 1, 1) := by decide +kernel
theorem dL_law_896 : decode cL_law 896 = .ok (.aload_n 0, 1) := by decide +kernel
theorem dL_law_897 : decode cL_law 897 = .ok (.iload 4, 2) := by decide +kernel
theorem dL_law_899 : decode cL_law 899 = .ok (.iconst 1, 1) := by decide +kernel
theorem dL_law_900 : decode cL_law 900 = .ok (.iadd, 1) := by decide +kernel
theorem dL_law_901 : decode cL_law 901 = .ok (.iaload, 1) := by decide +kernel
theorem dL_law_902 : decode cL_law 902 = .ok (.aload_n 0, 1) := by decide +kernel
theorem dL_law_903 : decode cL_law 903 = .ok (.iload 4, 2) := by decide +kernel
theorem dL_law_905 : decode cL_law 905 = .ok (.iconst 2, 1) := by decide +kernel
theorem dL_law_906 : decode cL_law 906 = .ok (.iadd, 1) := by decide +kernel
theorem dL_law_907 : decode cL_law 907 = .ok (.iaload, 1) := by decide +kernel
theorem dL_law_908 : decode cL_law 908 = .ok (.invokevirtual 100, 3) := by decide +kernel
theorem dL_law_911 : decode cL_law 911 = .ok (.aload_n 2, 1) := by decide +kernel
theorem dL_law_912 : decode cL_law 912 = .ok (.aload_n 0, 1) := by decide +kernel
theorem dL_law_913 : decode cL_law 913 = .ok (.iload 4, 2) := by decide +kernel
theorem dL_law_915 : decode cL_law 915 = .ok (.iconst 1, 1) := by decide +kernel
theorem dL_law_916 : decode cL_law 916 = .ok (.iadd, 1) := by decide +kernel
theorem dL_law_917 : decode cL_law 917 = .ok (.iaload, 1) := by decide +kernel
theorem dL_law_918 : decode cL_law 918 = .ok (.aload_n 0, 1) := by decide +kernel
theorem dL_law_919 : decode cL_law 919 = .ok (.iload 4, 2) := by decide +kernel
theorem dL_law_921 : decode cL_law 921 = .ok (.iconst 2, 1) := by decide +kernel
theorem dL_law_922 : decode cL_law 922 = .ok (.iadd, 1) := by decide +kernel
theorem dL_law_923 : decode cL_law 923 = .ok (.iaload, 1) := by decide +kernel
theorem dL_law_924 : decode cL_law 924 = .ok (.invokevirtual 103, 3) := by decide +kernel
theorem dL_law_927 : decode cL_law 927 = .ok (.if_icmp .eq 104, 3) := by decide +kernel
theorem dL_law_930 : decode cL_law 930 = .ok (.iconst 0, 1) := by decide +kernel
theorem dL_law_931 : decode cL_law 931 = .ok (.ireturn, 1) := by decide +kernel
theorem dL_law_932 : decode cL_law 932 = .ok (.aload_n 1, 1) := by decide +kernel
theorem dL_law_933 : decode cL_law 933 = .ok (.aload_n 0, 1) := by decide +kernel
theorem dL_law_934 : decode cL_law 934 = .ok (.iload 4, 2) := by decide +kernel
theorem dL_law_936 : decode cL_law 936 = .ok (.iconst 1, 1) := by decide +kernel
theorem dL_law_937 : decode cL_law 937 = .ok (.iadd, 1) := by decide +kernel
theorem dL_law_938 : decode cL_law 938 = .ok (.iaload, 1) := by decide +kernel
theorem dL_law_939 : decode cL_law 939 = .ok (.aload_n 0, 1) := by decide +kernel
theorem dL_law_940 : decode cL_law 940 = .ok (.iload 4, 2) := by decide +kernel
theorem dL_law_942 : decode cL_law 942 = .ok (.iconst 2, 1) := by decide +kernel
theorem dL_law_943 : decode cL_law 943 = .ok (.iadd, 1) := by decide +kernel
theorem dL_law_944 : decode cL_law 944 = .ok (.iaload, 1) := by decide +kernel
theorem dL_law_945 : decode cL_law 945 = .ok (.invokevirtual 104, 3) := by decide +kernel
theorem dL_law_948 : decode cL_law 948 = .ok (.aload_n 2, 1) := by decide +kernel
theorem dL_law_949 : decode cL_law 949 = .ok (.aload_n 0, 1) := by decide +kernel
theorem dL_law_950 : decode cL_law 950 = .ok (.iload 4, 2) := by decide +kernel
theorem dL_law_952 : decode cL_law 952 = .ok (.iconst 1, 1) := by decide +kernel
theorem dL_law_953 : decode cL_law 953 = .ok (.iadd, 1) := by decide +kernel
theorem dL_law_954 : decode cL_law 954 = .ok (.iaload, 1) := by decide +kernel
theorem dL_law_955 : decode cL_law 955 = .ok (.aload_n 0, 1) := by decide +kernel
theorem dL_law_956 : decode cL_law 956 = .ok (.iload 4, 2) := by decide +kernel
theorem dL_law_958 : decode cL_law 958 = .ok (.iconst 2, 1) := by decide +kernel
theorem dL_law_959 : decode cL_law 959 = .ok (.iadd, 1) := by decide +kernel
theorem dL_law_960 : decode cL_law 960 = .ok (.iaload, 1) := by decide +kernel
theorem dL_law_961 : decode cL_law 961 = .ok (.invokevirtual 107, 3) := by decide +kernel
theorem dL_law_964 : decode cL_law 964 = .ok (.if_icmp .eq 67, 3) := by decide +kernel
theorem dL_law_967 : decode cL_law 967 = .ok (.iconst 0, 1) := by decide +kernel
theorem dL_law_968 : decode cL_law 968 = .ok (.ireturn, 1) := by decide +kernel
theorem dL_law_969 : decode cL_law 969 = .ok (.aload_n 1, 1) := by decide +kernel
theorem dL_law_970 : decode cL_law 970 = .ok (.aload_n 0, 1) := by decide +kernel
theorem dL_law_971 : decode cL_law 971 = .ok (.iload 4, 2) := by decide +kernel
theorem dL_law_973 : decode cL_law 973 = .ok (.iconst 1, 1) := by decide +kernel
theorem dL_law_974 : decode cL_law 974 = .ok (.iadd, 1) := by decide +kernel
theorem dL_law_975 : decode cL_law 975 = .ok (.iaload, 1) := by decide +kernel
theorem dL_law_976 : decode cL_law 976 = .ok (.aload_n 0, 1) := by decide +kernel
theorem dL_law_977 : decode cL_law 977 = .ok (.iload 4, 2) := by decide +kernel
theorem dL_law_979 : decode cL_law 979 = .ok (.iconst 2, 1) := by decide +kernel
theorem dL_law_980 : decode cL_law 980 = .ok (.iadd, 1) := by decide +kernel
theorem dL_law_981 : decode cL_law 981 = .ok (.iaload, 1) := by decide +kernel
theorem dL_law_982 : decode cL_law 982 = .ok (.invokevirtual 108, 3) := by decide +kernel
theorem dL_law_985 : decode cL_law 985 = .ok (.aload_n 2, 1) := by decide +kernel
theorem dL_law_986 : decode cL_law 986 = .ok (.aload_n 0, 1) := by decide +kernel
theorem dL_law_987 : decode cL_law 987 = .ok (.iload 4, 2) := by decide +kernel
theorem dL_law_989 : decode cL_law 989 = .ok (.iconst 1, 1) := by decide +kernel
theorem dL_law_990 : decode cL_law 990 = .ok (.iadd, 1) := by decide +kernel
theorem dL_law_991 : decode cL_law 991 = .ok (.iaload, 1) := by decide +kernel
theorem dL_law_992 : decode cL_law 992 = .ok (.aload_n 0, 1) := by decide +kernel
theorem dL_law_993 : decode cL_law 993 = .ok (.iload 4, 2) := by decide +kernel
theorem dL_law_995 : decode cL_law 995 = .ok (.iconst 2, 1) := by decide +kernel
theorem dL_law_996 : decode cL_law 996 = .ok (.iadd, 1) := by decide +kernel
theorem dL_law_997 : decode cL_law 997 = .ok (.iaload, 1) := by decide +kernel
theorem dL_law_998 : decode cL_law 998 = .ok (.invokevirtual 111, 3) := by decide +kernel
theorem dL_law_1001 : decode cL_law 1001 = .ok (.if_icmp .eq 30, 3) := by decide +kernel
theorem dL_law_1004 : decode cL_law 1004 = .ok (.iconst 0, 1) := by decide +kernel
theorem dL_law_1005 : decode cL_law 1005 = .ok (.ireturn, 1) := by decide +kernel
theorem dL_law_1006 : decode cL_law 1006 = .ok (.aload_n 1, 1) := by decide +kernel
theorem dL_law_1007 : decode cL_law 1007 = .ok (.aload_n 0, 1) := by decide +kernel
theorem dL_law_1008 : decode cL_law 1008 = .ok (.iload 4, 2) := by decide +kernel
theorem dL_law_1010 : decode cL_law 1010 = .ok (.iconst 1, 1) := by decide +kernel
theorem dL_law_1011 : decode cL_law 1011 = .ok (.iadd, 1) := by decide +kernel
theorem dL_law_1012 : decode cL_law 1012 = .ok (.iaload, 1) := by decide +kernel
theorem dL_law_1013 : decode cL_law 1013 = .ok (.invokevirtual 112, 3) := by decide +kernel
theorem dL_law_1016 : decode cL_law 1016 = .ok (.aload_n 2, 1) := by decide +kernel
theorem dL_law_1017 : decode cL_law 1017 = .ok (.aload_n 0, 1) := by decide +kernel
theorem dL_law_1018 : decode cL_law 1018 = .ok (.iload 4, 2) := by decide +kernel
theorem dL_law_1020 : decode cL_law 1020 = .ok (.iconst 1, 1) := by decide +kernel
theorem dL_law_1021 : decode cL_law 1021 = .ok (.iadd, 1) := by decide +kernel
theorem dL_law_1022 : decode cL_law 1022 = .ok (.iaload, 1) := by decide +kernel
theorem dL_law_1023 : decode cL_law 1023 = .ok (.invokevirtual 115, 3) := by decide +kernel
theorem dL_law_1026 : decode cL_law 1026 = .ok (.if_icmp .eq 5, 3) := by decide +kernel
theorem dL_law_1029 : decode cL_law 1029 = .ok (.iconst 0, 1) := by decide +kernel
theorem dL_law_1030 : decode cL_law 1030 = .ok (.ireturn, 1) := by decide +kernel
theorem dL_law_1031 : decode cL_law 1031 = .ok (.iinc 4 7, 3) := by decide +kernel
theorem dL_law_1034 : decode cL_law 1034 = .ok (.goto (-1011), 3) := by decide +kernel
theorem dL_law_1037 : decode cL_law 1037 = .ok (.iconst 1, 1) := by decide +kernel
theorem dL_law_1038 : decode cL_law 1038 = .ok (.ireturn, 1) := by decide +kernel
set_option maxHeartbeats 4000000 in
set_option maxRecDepth 100000 in
theorem lo_feed {p : Program} {l : Launch} {e : Env} {s : State} {m : MethodId} {below : List Frame} {meth : Method} {c : Code} {dC : Nat → ClassId} {dI : Nat → Nat → Nat} {b : Nat} {xs : Nat → Int32} {A : Nat → Prop} (hl9 : l.stackTraces = false) (C0 : lw_At p s m meth c b 7 xs) (hAeq : A = fun q : Nat => s.heap.size ≤ q) {ha : Nat} {k_tape : ClassId} {kd : Nat} {ks : Nat} {ktp : ClassId} {mo : Nat} {pa : Nat} {pl : Nat} {qm : Nat → Nat} {rs : Nat} {ru : Nat} {sp : Nat} {ta : Nat} {tk : Nat} {to : Nat} {tp : Nat} {va : Nat} {x : Nat} {oq : Nat} {H : Heap} {locs : List Loc} {ls : Array Slot} (hK : va_K (dC, dI) vwCl [(ktp, .char), (k_tape, .int)] s) (hP : va_P (dC, dI) vwCl [(x, .inr (11, [.ref tk, .ref pa, .ref ta, .ref ha, .ref ru, .ref to, .ref sp])), (tk, .inr (10, [.ref kd, .ref pl, .ref va, .int 0, .int 0, .ref tp, .ref rs])), (tp, .inl (ktp, 4000, .inl (fun _ => 0))), (mo, .inr (12, [.int 0, .ref (qm 0), .int 0, .int 0, .ref (qm 1), .ref (qm 2), .ref (qm 3), .int 0, .int 0, .ref ks, .ref (qm 4), .int 0, .int 0, .ref (qm 5), .ref (qm 6), .ref (qm 7), .ref (qm 8), .ref (qm 9), .ref (qm 10), .ref (qm 11), .ref (qm 12), .ref (qm 13), .ref (qm 14), .int 0, .ref (qm 15), .ref (qm 16), .ref (qm 17), .ref (qm 18), .ref (qm 19), .ref (qm 20), .ref (qm 21), .int 0, .ref (qm 22), .ref (qm 23), .ref (qm 24), .int 0, .ref (qm 25), .ref (qm 26), .ref (qm 27), .ref (qm 28), .ref (qm 29), .ref (qm 30), .ref (qm 31), .ref (qm 32), .ref (qm 33), .ref (qm 34), .ref (qm 35), .ref (qm 36), .ref (qm 37), .ref (qm 38), .ref (qm 39), .int 0, .ref (qm 40), .ref (qm 41), .ref (qm 42), .ref (qm 43), .ref (qm 44), .ref (qm 45), .ref (qm 46), .ref (qm 47), .ref (qm 48), .int 0, .int 0, .int 0, .int 0, .int 0, .int 0, .int 0, .int 0, .int 0, .int 1, .ref (qm 49), .ref (qm 50), .int 0, .int 0, .ref (qm 51), .ref (qm 52), .ref (qm 53), .ref (qm 54), .ref (qm 55), .ref (qm 56), .ref (qm 57), .ref (qm 58), .ref (qm 59), .ref (qm 60), .ref (qm 61), .ref (qm 62), .ref (qm 63), .ref (qm 64), .ref (qm 65), .ref (qm 66), .ref (qm 67), .ref (qm 68), .ref (qm 69), .ref (qm 70), .ref (qm 71), .ref (qm 72), .ref (qm 73), .int 0, .int 0, .int 0, .int 0, .int 0, .ref (qm 74), .ref (qm 75), .int 0, .ref (qm 76), .ref (qm 77), .ref (qm 78), .ref (qm 79), .int 0, .ref (qm 80), .ref (qm 81), .ref (qm 82), .ref (qm 83), .ref (qm 84), .ref (qm 85), .ref (qm 86), .ref (qm 87), .int 0, .ref (qm 88), .int 0, .int 0, .int 0, .int 0, .int 0, .int 0, .int 0])), (qm 0, .inl (k_tape, 4000, .inl (fun _ => 0)))] H) (hD : va_D A [(x, .inr (11, [.ref tk, .ref pa, .ref ta, .ref ha, .ref ru, .ref to, .ref sp])), (tk, .inr (10, [.ref kd, .ref pl, .ref va, .int 0, .int 0, .ref tp, .ref rs])), (tp, .inl (ktp, 4000, .inl (fun _ => 0))), (mo, .inr (12, [.int 0, .ref (qm 0), .int 0, .int 0, .ref (qm 1), .ref (qm 2), .ref (qm 3), .int 0, .int 0, .ref ks, .ref (qm 4), .int 0, .int 0, .ref (qm 5), .ref (qm 6), .ref (qm 7), .ref (qm 8), .ref (qm 9), .ref (qm 10), .ref (qm 11), .ref (qm 12), .ref (qm 13), .ref (qm 14), .int 0, .ref (qm 15), .ref (qm 16), .ref (qm 17), .ref (qm 18), .ref (qm 19), .ref (qm 20), .ref (qm 21), .int 0, .ref (qm 22), .ref (qm 23), .ref (qm 24), .int 0, .ref (qm 25), .ref (qm 26), .ref (qm 27), .ref (qm 28), .ref (qm 29), .ref (qm 30), .ref (qm 31), .ref (qm 32), .ref (qm 33), .ref (qm 34), .ref (qm 35), .ref (qm 36), .ref (qm 37), .ref (qm 38), .ref (qm 39), .int 0, .ref (qm 40), .ref (qm 41), .ref (qm 42), .ref (qm 43), .ref (qm 44), .ref (qm 45), .ref (qm 46), .ref (qm 47), .ref (qm 48), .int 0, .int 0, .int 0, .int 0, .int 0, .int 0, .int 0, .int 0, .int 0, .int 1, .ref (qm 49), .ref (qm 50), .int 0, .int 0, .ref (qm 51), .ref (qm 52), .ref (qm 53), .ref (qm 54), .ref (qm 55), .ref (qm 56), .ref (qm 57), .ref (qm 58), .ref (qm 59), .ref (qm 60), .ref (qm 61), .ref (qm 62), .ref (qm 63), .ref (qm 64), .ref (qm 65), .ref (qm 66), .ref (qm 67), .ref (qm 68), .ref (qm 69), .ref (qm 70), .ref (qm 71), .ref (qm 72), .ref (qm 73), .int 0, .int 0, .int 0, .int 0, .int 0, .ref (qm 74), .ref (qm 75), .int 0, .ref (qm 76), .ref (qm 77), .ref (qm 78), .ref (qm 79), .int 0, .ref (qm 80), .ref (qm 81), .ref (qm 82), .ref (qm 83), .ref (qm 84), .ref (qm 85), .ref (qm 86), .ref (qm 87), .int 0, .ref (qm 88), .int 0, .int 0, .int 0, .int 0, .int 0, .int 0, .int 0])), (qm 0, .inl (k_tape, 4000, .inl (fun _ => 0)))]) (hS : va_S A s.heap H locs) (hl : lv_has ls 7 [(4, .int 0), (3, .ref oq), (2, .ref mo), (1, .ref x), (0, .ref b)]) : W p l e room_1 s m #[Value.ref b] below meth c H locs 176 1222853 (lw_Z below #[Value.ref b] s) (F0 m 136 ls []) := by
  obtain ⟨hx, hb, hr, hml, hown, hts0, hX, hbl, hlocks, hgv⟩ := C0
  have hts : ∀ w ∈ tb, w.before _ s = true := fun w h => hts0 w (List.mem_filter.mp h).1
  have hA : ∀ q : Nat, s.heap.size ≤ q → A q := by rw [hAeq]; exact fun _ h => h
  have hbA : ¬ A b := by rw [hAeq]; exact Nat.not_le.mpr hbl
  refine lv_aload_n hx hb dL_law_136 rfl (lv_at hl 3 rfl) ?_
  refine lv_aload_n hx hb dL_law_137 rfl (lv_at hl 4 rfl) ?_
  refine lv_iload hx hb dL_law_138 (lv_at hl 0 rfl) ?_
  refine lv_iconst (v := 1) hx hb dL_law_140 (by decide) ?_
  refine lv_iadd hx hb dL_law_141 ?_
  refine lv_topi (fun z1 ez1 => ?_)
  obtain rfl : z1 = 1 := ez1.trans (by decide)
  refine va_sld hx hb hX hbl hbA hS (px_in 1 7 (by decide +kernel)) dL_law_142 ?_
  refine lv_topi (fun z2 ez2 => ?_)
  replace ez2 : z2 = xs 1 := ez2
  refine lv_i2l hx hb dL_law_143 rfl ?_
  refine lv_topl (fun z3 ez3 => ?_)
  refine lv_bipush (v := 32) hx hb dL_law_144 (by decide) ?_
  refine lv_lshl hx hb dL_law_146 rfl ?_
  refine lv_topl (fun z4 ez4 => ?_)
  refine lv_aload_n hx hb dL_law_147 rfl (lv_at hl 4 rfl) ?_
  refine lv_iload hx hb dL_law_148 (lv_at hl 0 rfl) ?_
  refine lv_iconst (v := 2) hx hb dL_law_150 (by decide) ?_
  refine lv_iadd hx hb dL_law_151 ?_
  refine lv_topi (fun z5 ez5 => ?_)
  obtain rfl : z5 = 2 := ez5.trans (by decide)
  refine va_sld hx hb hX hbl hbA hS (px_in 2 7 (by decide +kernel)) dL_law_152 ?_
  refine lv_topi (fun z6 ez6 => ?_)
  replace ez6 : z6 = xs 2 := ez6
  refine lv_i2l hx hb dL_law_153 rfl ?_
  refine lv_topl (fun z7 ez7 => ?_)
  refine lv_ldc2 (v := 4294967295) hx hb hown (hts _ wd_2207) dL_law_154 ?_
  refine lv_land hx hb dL_law_157 ?_
  refine lv_topl (fun z8 ez8 => ?_)
  refine lv_lor hx hb dL_law_158 ?_
  refine lv_topl (fun z9 ez9 => ?_)
  refine lv_aload_n hx hb dL_law_159 rfl (lv_at hl 4 rfl) ?_
  refine lv_iload hx hb dL_law_160 (lv_at hl 0 rfl) ?_
  refine lv_iconst (v := 3) hx hb dL_law_162 (by decide) ?_
  refine lv_iadd hx hb dL_law_163 ?_
  refine lv_topi (fun z10 ez10 => ?_)
  obtain rfl : z10 = 3 := ez10.trans (by decide)
  refine va_sld hx hb hX hbl hbA hS (px_in 3 7 (by decide +kernel)) dL_law_164 ?_
  refine lv_topi (fun z11 ez11 => ?_)
  replace ez11 : z11 = xs 3 := ez11
  refine lv_i2l hx hb dL_law_165 rfl ?_
  refine lv_topl (fun z12 ez12 => ?_)
  refine lv_bipush (v := 32) hx hb dL_law_166 (by decide) ?_
  refine lv_lshl hx hb dL_law_168 rfl ?_
  refine lv_topl (fun z13 ez13 => ?_)
  refine lv_aload_n hx hb dL_law_169 rfl (lv_at hl 4 rfl) ?_
  refine lv_iload hx hb dL_law_170 (lv_at hl 0 rfl) ?_
  refine lv_iconst (v := 4) hx hb dL_law_172 (by decide) ?_
  refine lv_iadd hx hb dL_law_173 ?_
  refine lv_topi (fun z14 ez14 => ?_)
  obtain rfl : z14 = 4 := ez14.trans (by decide)
  refine va_sld hx hb hX hbl hbA hS (px_in 4 7 (by decide +kernel)) dL_law_174 ?_
  refine lv_topi (fun z15 ez15 => ?_)
  replace ez15 : z15 = xs 4 := ez15
  refine lv_i2l hx hb dL_law_175 rfl ?_
  refine lv_topl (fun z16 ez16 => ?_)
  refine lv_ldc2 (v := 4294967295) hx hb hown (hts _ wd_2207) dL_law_176 ?_
  refine lv_land hx hb dL_law_179 ?_
  refine lv_topl (fun z17 ez17 => ?_)
  refine lv_lor hx hb dL_law_180 ?_
  refine lv_topl (fun z18 ez18 => ?_)
  refine lv_aload_n hx hb dL_law_181 rfl (lv_at hl 4 rfl) ?_
  refine lv_iload hx hb dL_law_182 (lv_at hl 0 rfl) ?_
  refine lv_iconst (v := 5) hx hb dL_law_184 (by decide) ?_
  refine lv_iadd hx hb dL_law_185 ?_
  refine lv_topi (fun z19 ez19 => ?_)
  obtain rfl : z19 = 5 := ez19.trans (by decide)
  refine va_sld hx hb hX hbl hbA hS (px_in 5 7 (by decide +kernel)) dL_law_186 ?_
  refine lv_topi (fun z20 ez20 => ?_)
  replace ez20 : z20 = xs 5 := ez20
  refine lv_i2l hx hb dL_law_187 rfl ?_
  refine lv_topl (fun z21 ez21 => ?_)
  refine lv_bipush (v := 32) hx hb dL_law_188 (by decide) ?_
  refine lv_lshl hx hb dL_law_190 rfl ?_
  refine lv_topl (fun z22 ez22 => ?_)
  refine lv_aload_n hx hb dL_law_191 rfl (lv_at hl 4 rfl) ?_
  refine lv_iload hx hb dL_law_192 (lv_at hl 0 rfl) ?_
  refine lv_bipush (v := 6) hx hb dL_law_194 (by decide) ?_
  refine lv_iadd hx hb dL_law_196 ?_
  refine lv_topi (fun z23 ez23 => ?_)
  obtain rfl : z23 = 6 := ez23.trans (by decide)
  refine va_sld hx hb hX hbl hbA hS (px_in 6 7 (by decide +kernel)) dL_law_197 ?_
  refine lv_topi (fun z24 ez24 => ?_)
  replace ez24 : z24 = xs 6 := ez24
  refine lv_i2l hx hb dL_law_198 rfl ?_
  refine lv_topl (fun z25 ez25 => ?_)
  refine lv_ldc2 (v := 4294967295) hx hb hown (hts _ wd_2207) dL_law_199 ?_
  refine lv_land hx hb dL_law_202 ?_
  refine lv_topl (fun z26 ez26 => ?_)
  refine lv_lor hx hb dL_law_203 ?_
  refine lv_topl (fun z27 ez27 => ?_)
  have hPc := hP.sub (ws' := [(x, .inr (11, [.ref tk, .ref pa, .ref ta, .ref ha, .ref ru, .ref to, .ref sp])), (tk, .inr (10, [.ref kd, .ref pl, .ref va, .int 0, .int 0, .ref tp, .ref rs])), (tp, .inl (ktp, 4000, .inl (fun _ => 0)))]) [0, 1, 2] rfl
  have hDc := hD.sub (ws' := [(x, .inr (11, [.ref tk, .ref pa, .ref ta, .ref ha, .ref ru, .ref to, .ref sp])), (tk, .inr (10, [.ref kd, .ref pl, .ref va, .int 0, .int 0, .ref tp, .ref rs])), (tp, .inl (ktp, 4000, .inl (fun _ => 0)))]) [0, 1, 2] (by decide) rfl
  have hKc := hK.sub (tys' := [(ktp, .char)]) [0] rfl
  have hFc := va_free (wc := [(x, .inr (11, [.ref tk, .ref pa, .ref ta, .ref ha, .ref ru, .ref to, .ref sp])), (tk, .inr (10, [.ref kd, .ref pl, .ref va, .int 0, .int 0, .ref tp, .ref rs])), (tp, .inl (ktp, 4000, .inl (fun _ => 0)))]) hD hS hA [0, 1, 2] rfl
  refine va_calli (va_runV (As := [.long z9, .long z18, .long z27]) (rest := []) ⟨hx, hb, hml, hown, hts⟩ (ct_X11_feed l dC dI x tk pa ta ha ru to sp kd pl va tp rs ktp z9 z18 z27 H.size) (cwV 3 hts (gd_V wd_500 wd_501 wd_502 wd_1 wd_503) rfl rfl rfl (by decide +kernel) ⟨Nat.le_of_ble_eq_true rfl, Nat.le_of_ble_eq_true rfl⟩) ⟨fun a U g mk q => by obtain ⟨q0, q1, qP, qK, qD⟩ := q; exact ⟨q0, q1, qP, va_K.moved (u := U) (U := U.calling g mk a) (Vm.Alike.refl U.vm) qK, qD⟩, va_recv hKc hPc (ci := 11) (q0 := 0) rfl rfl, fun U hU hW => ⟨rfl, by rw [hU], by rw [hU]; exact hPc, va_K.moved hW.alike hKc, hDc.weaken (fun _ _ _ _ => trivial)⟩⟩ rfl rfl hl.1 rfl (lv_room (Nat.le_of_ble_eq_true rfl)) dL_law_204 ⟨Nat.le_of_ble_eq_true rfl, Nat.le_of_ble_eq_true rfl⟩) hS (fun q _ h => hFc q h) hFc (fun r28 u t H1 locs ht hvm hw hB hz1 hk1 hS => ?_)
  obtain ⟨hP1, hK1, hD1⟩ := hB
  rw [ht] at hP1
  have hK1 := va_K.moved hvm.symm hK1
  obtain ⟨hP, hD⟩ := va_join (wr := [(mo, .inr (12, [.int 0, .ref (qm 0), .int 0, .int 0, .ref (qm 1), .ref (qm 2), .ref (qm 3), .int 0, .int 0, .ref ks, .ref (qm 4), .int 0, .int 0, .ref (qm 5), .ref (qm 6), .ref (qm 7), .ref (qm 8), .ref (qm 9), .ref (qm 10), .ref (qm 11), .ref (qm 12), .ref (qm 13), .ref (qm 14), .int 0, .ref (qm 15), .ref (qm 16), .ref (qm 17), .ref (qm 18), .ref (qm 19), .ref (qm 20), .ref (qm 21), .int 0, .ref (qm 22), .ref (qm 23), .ref (qm 24), .int 0, .ref (qm 25), .ref (qm 26), .ref (qm 27), .ref (qm 28), .ref (qm 29), .ref (qm 30), .ref (qm 31), .ref (qm 32), .ref (qm 33), .ref (qm 34), .ref (qm 35), .ref (qm 36), .ref (qm 37), .ref (qm 38), .ref (qm 39), .int 0, .ref (qm 40), .ref (qm 41), .ref (qm 42), .ref (qm 43), .ref (qm 44), .ref (qm 45), .ref (qm 46), .ref (qm 47), .ref (qm 48), .int 0, .int 0, .int 0, .int 0, .int 0, .int 0, .int 0, .int 0, .int 0, .int 1, .ref (qm 49), .ref (qm 50), .int 0, .int 0, .ref (qm 51), .ref (qm 52), .ref (qm 53), .ref (qm 54), .ref (qm 55), .ref (qm 56), .ref (qm 57), .ref (qm 58), .ref (qm 59), .ref (qm 60), .ref (qm 61), .ref (qm 62), .ref (qm 63), .ref (qm 64), .ref (qm 65), .ref (qm 66), .ref (qm 67), .ref (qm 68), .ref (qm 69), .ref (qm 70), .ref (qm 71), .ref (qm 72), .ref (qm 73), .int 0, .int 0, .int 0, .int 0, .int 0, .ref (qm 74), .ref (qm 75), .int 0, .ref (qm 76), .ref (qm 77), .ref (qm 78), .ref (qm 79), .int 0, .ref (qm 80), .ref (qm 81), .ref (qm 82), .ref (qm 83), .ref (qm 84), .ref (qm 85), .ref (qm 86), .ref (qm 87), .int 0, .ref (qm 88), .int 0, .int 0, .int 0, .int 0, .int 0, .int 0, .int 0])), (qm 0, .inl (k_tape, 4000, .inl (fun _ => 0)))]) (w1 := []) hP hD [0, 1, 2] [3, 4] rfl rfl (by decide) (by decide) hk1 hFc hP1 hD1
  have hK := (hK.sub (tys' := [(ktp, .char), (k_tape, .int)]) [0, 1] rfl).app (hK1.sub (tys' := []) [] rfl)
  generalize H1 = H at hP hS ⊢
  have hP : va_P (dC, dI) vwCl [(mo, .inr (12, [.int 0, .ref (qm 0), .int 0, .int 0, .ref (qm 1), .ref (qm 2), .ref (qm 3), .int 0, .int 0, .ref ks, .ref (qm 4), .int 0, .int 0, .ref (qm 5), .ref (qm 6), .ref (qm 7), .ref (qm 8), .ref (qm 9), .ref (qm 10), .ref (qm 11), .ref (qm 12), .ref (qm 13), .ref (qm 14), .int 0, .ref (qm 15), .ref (qm 16), .ref (qm 17), .ref (qm 18), .ref (qm 19), .ref (qm 20), .ref (qm 21), .int 0, .ref (qm 22), .ref (qm 23), .ref (qm 24), .int 0, .ref (qm 25), .ref (qm 26), .ref (qm 27), .ref (qm 28), .ref (qm 29), .ref (qm 30), .ref (qm 31), .ref (qm 32), .ref (qm 33), .ref (qm 34), .ref (qm 35), .ref (qm 36), .ref (qm 37), .ref (qm 38), .ref (qm 39), .int 0, .ref (qm 40), .ref (qm 41), .ref (qm 42), .ref (qm 43), .ref (qm 44), .ref (qm 45), .ref (qm 46), .ref (qm 47), .ref (qm 48), .int 0, .int 0, .int 0, .int 0, .int 0, .int 0, .int 0, .int 0, .int 0, .int 1, .ref (qm 49), .ref (qm 50), .int 0, .int 0, .ref (qm 51), .ref (qm 52), .ref (qm 53), .ref (qm 54), .ref (qm 55), .ref (qm 56), .ref (qm 57), .ref (qm 58), .ref (qm 59), .ref (qm 60), .ref (qm 61), .ref (qm 62), .ref (qm 63), .ref (qm 64), .ref (qm 65), .ref (qm 66), .ref (qm 67), .ref (qm 68), .ref (qm 69), .ref (qm 70), .ref (qm 71), .ref (qm 72), .ref (qm 73), .int 0, .int 0, .int 0, .int 0, .int 0, .ref (qm 74), .ref (qm 75), .int 0, .ref (qm 76), .ref (qm 77), .ref (qm 78), .ref (qm 79), .int 0, .ref (qm 80), .ref (qm 81), .ref (qm 82), .ref (qm 83), .ref (qm 84), .ref (qm 85), .ref (qm 86), .ref (qm 87), .int 0, .ref (qm 88), .int 0, .int 0, .int 0, .int 0, .int 0, .int 0, .int 0])), (qm 0, .inl (k_tape, 4000, .inl (fun _ => 0)))] H := hP
  have hD : va_D A [(mo, .inr (12, [.int 0, .ref (qm 0), .int 0, .int 0, .ref (qm 1), .ref (qm 2), .ref (qm 3), .int 0, .int 0, .ref ks, .ref (qm 4), .int 0, .int 0, .ref (qm 5), .ref (qm 6), .ref (qm 7), .ref (qm 8), .ref (qm 9), .ref (qm 10), .ref (qm 11), .ref (qm 12), .ref (qm 13), .ref (qm 14), .int 0, .ref (qm 15), .ref (qm 16), .ref (qm 17), .ref (qm 18), .ref (qm 19), .ref (qm 20), .ref (qm 21), .int 0, .ref (qm 22), .ref (qm 23), .ref (qm 24), .int 0, .ref (qm 25), .ref (qm 26), .ref (qm 27), .ref (qm 28), .ref (qm 29), .ref (qm 30), .ref (qm 31), .ref (qm 32), .ref (qm 33), .ref (qm 34), .ref (qm 35), .ref (qm 36), .ref (qm 37), .ref (qm 38), .ref (qm 39), .int 0, .ref (qm 40), .ref (qm 41), .ref (qm 42), .ref (qm 43), .ref (qm 44), .ref (qm 45), .ref (qm 46), .ref (qm 47), .ref (qm 48), .int 0, .int 0, .int 0, .int 0, .int 0, .int 0, .int 0, .int 0, .int 0, .int 1, .ref (qm 49), .ref (qm 50), .int 0, .int 0, .ref (qm 51), .ref (qm 52), .ref (qm 53), .ref (qm 54), .ref (qm 55), .ref (qm 56), .ref (qm 57), .ref (qm 58), .ref (qm 59), .ref (qm 60), .ref (qm 61), .ref (qm 62), .ref (qm 63), .ref (qm 64), .ref (qm 65), .ref (qm 66), .ref (qm 67), .ref (qm 68), .ref (qm 69), .ref (qm 70), .ref (qm 71), .ref (qm 72), .ref (qm 73), .int 0, .int 0, .int 0, .int 0, .int 0, .ref (qm 74), .ref (qm 75), .int 0, .ref (qm 76), .ref (qm 77), .ref (qm 78), .ref (qm 79), .int 0, .ref (qm 80), .ref (qm 81), .ref (qm 82), .ref (qm 83), .ref (qm 84), .ref (qm 85), .ref (qm 86), .ref (qm 87), .int 0, .ref (qm 88), .int 0, .int 0, .int 0, .int 0, .int 0, .int 0, .int 0])), (qm 0, .inl (k_tape, 4000, .inl (fun _ => 0)))] := hD
  have hK : va_K (dC, dI) vwCl [(ktp, .char), (k_tape, .int)] s := hK
  obtain rfl := hw
  refine lv_aload_n hx hb dL_law_207 rfl (lv_at hl 2 rfl) ?_
  refine lv_aload_n hx hb dL_law_208 rfl (lv_at hl 4 rfl) ?_
  refine lv_iload hx hb dL_law_209 (lv_at hl 0 rfl) ?_
  refine lv_iconst (v := 1) hx hb dL_law_211 (by decide) ?_
  refine lv_iadd hx hb dL_law_212 ?_
  refine lv_topi (fun z29 ez29 => ?_)
  obtain rfl : z29 = 1 := ez29.trans (by decide)
  refine va_sld hx hb hX hbl hbA hS (px_in 1 7 (by decide +kernel)) dL_law_213 ?_
  refine lv_topi (fun z30 ez30 => ?_)
  replace ez30 : z30 = xs 1 := ez30
  obtain rfl : z30 = z2 := ez30.trans ez2.symm
  refine lv_i2l hx hb dL_law_214 rfl ?_
  refine lv_topl (fun z31 ez31 => ?_)
  obtain rfl : z31 = z3 := ez31.trans ez3.symm
  refine lv_bipush (v := 32) hx hb dL_law_215 (by decide) ?_
  refine lv_lshl hx hb dL_law_217 rfl ?_
  refine lv_topl (fun z32 ez32 => ?_)
  obtain rfl : z32 = z4 := ez32.trans ez4.symm
  refine lv_aload_n hx hb dL_law_218 rfl (lv_at hl 4 rfl) ?_
  refine lv_iload hx hb dL_law_219 (lv_at hl 0 rfl) ?_
  refine lv_iconst (v := 2) hx hb dL_law_221 (by decide) ?_
  refine lv_iadd hx hb dL_law_222 ?_
  refine lv_topi (fun z33 ez33 => ?_)
  obtain rfl : z33 = 2 := ez33.trans (by decide)
  refine va_sld hx hb hX hbl hbA hS (px_in 2 7 (by decide +kernel)) dL_law_223 ?_
  refine lv_topi (fun z34 ez34 => ?_)
  replace ez34 : z34 = xs 2 := ez34
  obtain rfl : z34 = z6 := ez34.trans ez6.symm
  refine lv_i2l hx hb dL_law_224 rfl ?_
  refine lv_topl (fun z35 ez35 => ?_)
  obtain rfl : z35 = z7 := ez35.trans ez7.symm
  refine lv_ldc2 (v := 4294967295) hx hb hown (hts _ wd_2207) dL_law_225 ?_
  refine lv_land hx hb dL_law_228 ?_
  refine lv_topl (fun z36 ez36 => ?_)
  obtain rfl : z36 = z8 := ez36.trans ez8.symm
  refine lv_lor hx hb dL_law_229 ?_
  refine lv_topl (fun z37 ez37 => ?_)
  obtain rfl : z37 = z9 := ez37.trans ez9.symm
  refine lv_aload_n hx hb dL_law_230 rfl (lv_at hl 4 rfl) ?_
  refine lv_iload hx hb dL_law_231 (lv_at hl 0 rfl) ?_
  refine lv_iconst (v := 3) hx hb dL_law_233 (by decide) ?_
  refine lv_iadd hx hb dL_law_234 ?_
  refine lv_topi (fun z38 ez38 => ?_)
  obtain rfl : z38 = 3 := ez38.trans (by decide)
  refine va_sld hx hb hX hbl hbA hS (px_in 3 7 (by decide +kernel)) dL_law_235 ?_
  refine lv_topi (fun z39 ez39 => ?_)
  replace ez39 : z39 = xs 3 := ez39
  obtain rfl : z39 = z11 := ez39.trans ez11.symm
  refine lv_i2l hx hb dL_law_236 rfl ?_
  refine lv_topl (fun z40 ez40 => ?_)
  obtain rfl : z40 = z12 := ez40.trans ez12.symm
  refine lv_bipush (v := 32) hx hb dL_law_237 (by decide) ?_
  refine lv_lshl hx hb dL_law_239 rfl ?_
  refine lv_topl (fun z41 ez41 => ?_)
  obtain rfl : z41 = z13 := ez41.trans ez13.symm
  refine lv_aload_n hx hb dL_law_240 rfl (lv_at hl 4 rfl) ?_
  refine lv_iload hx hb dL_law_241 (lv_at hl 0 rfl) ?_
  refine lv_iconst (v := 4) hx hb dL_law_243 (by decide) ?_
  refine lv_iadd hx hb dL_law_244 ?_
  refine lv_topi (fun z42 ez42 => ?_)
  obtain rfl : z42 = 4 := ez42.trans (by decide)
  refine va_sld hx hb hX hbl hbA hS (px_in 4 7 (by decide +kernel)) dL_law_245 ?_
  refine lv_topi (fun z43 ez43 => ?_)
  replace ez43 : z43 = xs 4 := ez43
  obtain rfl : z43 = z15 := ez43.trans ez15.symm
  refine lv_i2l hx hb dL_law_246 rfl ?_
  refine lv_topl (fun z44 ez44 => ?_)
  obtain rfl : z44 = z16 := ez44.trans ez16.symm
  refine lv_ldc2 (v := 4294967295) hx hb hown (hts _ wd_2207) dL_law_247 ?_
  refine lv_land hx hb dL_law_250 ?_
  refine lv_topl (fun z45 ez45 => ?_)
  obtain rfl : z45 = z17 := ez45.trans ez17.symm
  refine lv_lor hx hb dL_law_251 ?_
  refine lv_topl (fun z46 ez46 => ?_)
  obtain rfl : z46 = z18 := ez46.trans ez18.symm
  refine lv_aload_n hx hb dL_law_252 rfl (lv_at hl 4 rfl) ?_
  refine lv_iload hx hb dL_law_253 (lv_at hl 0 rfl) ?_
  refine lv_iconst (v := 5) hx hb dL_law_255 (by decide) ?_
  refine lv_iadd hx hb dL_law_256 ?_
  refine lv_topi (fun z47 ez47 => ?_)
  obtain rfl : z47 = 5 := ez47.trans (by decide)
  refine va_sld hx hb hX hbl hbA hS (px_in 5 7 (by decide +kernel)) dL_law_257 ?_
  refine lv_topi (fun z48 ez48 => ?_)
  replace ez48 : z48 = xs 5 := ez48
  obtain rfl : z48 = z20 := ez48.trans ez20.symm
  refine lv_i2l hx hb dL_law_258 rfl ?_
  refine lv_topl (fun z49 ez49 => ?_)
  obtain rfl : z49 = z21 := ez49.trans ez21.symm
  refine lv_bipush (v := 32) hx hb dL_law_259 (by decide) ?_
  refine lv_lshl hx hb dL_law_261 rfl ?_
  refine lv_topl (fun z50 ez50 => ?_)
  obtain rfl : z50 = z22 := ez50.trans ez22.symm
  refine lv_aload_n hx hb dL_law_262 rfl (lv_at hl 4 rfl) ?_
  refine lv_iload hx hb dL_law_263 (lv_at hl 0 rfl) ?_
  refine lv_bipush (v := 6) hx hb dL_law_265 (by decide) ?_
  refine lv_iadd hx hb dL_law_267 ?_
  refine lv_topi (fun z51 ez51 => ?_)
  obtain rfl : z51 = 6 := ez51.trans (by decide)
  refine va_sld hx hb hX hbl hbA hS (px_in 6 7 (by decide +kernel)) dL_law_268 ?_
  refine lv_topi (fun z52 ez52 => ?_)
  replace ez52 : z52 = xs 6 := ez52
  obtain rfl : z52 = z24 := ez52.trans ez24.symm
  refine lv_i2l hx hb dL_law_269 rfl ?_
  refine lv_topl (fun z53 ez53 => ?_)
  obtain rfl : z53 = z25 := ez53.trans ez25.symm
  refine lv_ldc2 (v := 4294967295) hx hb hown (hts _ wd_2207) dL_law_270 ?_
  refine lv_land hx hb dL_law_273 ?_
  refine lv_topl (fun z54 ez54 => ?_)
  obtain rfl : z54 = z26 := ez54.trans ez26.symm
  refine lv_lor hx hb dL_law_274 ?_
  refine lv_topl (fun z55 ez55 => ?_)
  obtain rfl : z55 = z27 := ez55.trans ez27.symm
  have hPc := hP.sub (ws' := [(mo, .inr (12, [.int 0, .ref (qm 0), .int 0, .int 0, .ref (qm 1), .ref (qm 2), .ref (qm 3), .int 0, .int 0, .ref ks, .ref (qm 4), .int 0, .int 0, .ref (qm 5), .ref (qm 6), .ref (qm 7), .ref (qm 8), .ref (qm 9), .ref (qm 10), .ref (qm 11), .ref (qm 12), .ref (qm 13), .ref (qm 14), .int 0, .ref (qm 15), .ref (qm 16), .ref (qm 17), .ref (qm 18), .ref (qm 19), .ref (qm 20), .ref (qm 21), .int 0, .ref (qm 22), .ref (qm 23), .ref (qm 24), .int 0, .ref (qm 25), .ref (qm 26), .ref (qm 27), .ref (qm 28), .ref (qm 29), .ref (qm 30), .ref (qm 31), .ref (qm 32), .ref (qm 33), .ref (qm 34), .ref (qm 35), .ref (qm 36), .ref (qm 37), .ref (qm 38), .ref (qm 39), .int 0, .ref (qm 40), .ref (qm 41), .ref (qm 42), .ref (qm 43), .ref (qm 44), .ref (qm 45), .ref (qm 46), .ref (qm 47), .ref (qm 48), .int 0, .int 0, .int 0, .int 0, .int 0, .int 0, .int 0, .int 0, .int 0, .int 1, .ref (qm 49), .ref (qm 50), .int 0, .int 0, .ref (qm 51), .ref (qm 52), .ref (qm 53), .ref (qm 54), .ref (qm 55), .ref (qm 56), .ref (qm 57), .ref (qm 58), .ref (qm 59), .ref (qm 60), .ref (qm 61), .ref (qm 62), .ref (qm 63), .ref (qm 64), .ref (qm 65), .ref (qm 66), .ref (qm 67), .ref (qm 68), .ref (qm 69), .ref (qm 70), .ref (qm 71), .ref (qm 72), .ref (qm 73), .int 0, .int 0, .int 0, .int 0, .int 0, .ref (qm 74), .ref (qm 75), .int 0, .ref (qm 76), .ref (qm 77), .ref (qm 78), .ref (qm 79), .int 0, .ref (qm 80), .ref (qm 81), .ref (qm 82), .ref (qm 83), .ref (qm 84), .ref (qm 85), .ref (qm 86), .ref (qm 87), .int 0, .ref (qm 88), .int 0, .int 0, .int 0, .int 0, .int 0, .int 0, .int 0])), (qm 0, .inl (k_tape, 4000, .inl (fun _ => 0)))]) [0, 1] rfl
  have hDc := hD.sub (ws' := [(mo, .inr (12, [.int 0, .ref (qm 0), .int 0, .int 0, .ref (qm 1), .ref (qm 2), .ref (qm 3), .int 0, .int 0, .ref ks, .ref (qm 4), .int 0, .int 0, .ref (qm 5), .ref (qm 6), .ref (qm 7), .ref (qm 8), .ref (qm 9), .ref (qm 10), .ref (qm 11), .ref (qm 12), .ref (qm 13), .ref (qm 14), .int 0, .ref (qm 15), .ref (qm 16), .ref (qm 17), .ref (qm 18), .ref (qm 19), .ref (qm 20), .ref (qm 21), .int 0, .ref (qm 22), .ref (qm 23), .ref (qm 24), .int 0, .ref (qm 25), .ref (qm 26), .ref (qm 27), .ref (qm 28), .ref (qm 29), .ref (qm 30), .ref (qm 31), .ref (qm 32), .ref (qm 33), .ref (qm 34), .ref (qm 35), .ref (qm 36), .ref (qm 37), .ref (qm 38), .ref (qm 39), .int 0, .ref (qm 40), .ref (qm 41), .ref (qm 42), .ref (qm 43), .ref (qm 44), .ref (qm 45), .ref (qm 46), .ref (qm 47), .ref (qm 48), .int 0, .int 0, .int 0, .int 0, .int 0, .int 0, .int 0, .int 0, .int 0, .int 1, .ref (qm 49), .ref (qm 50), .int 0, .int 0, .ref (qm 51), .ref (qm 52), .ref (qm 53), .ref (qm 54), .ref (qm 55), .ref (qm 56), .ref (qm 57), .ref (qm 58), .ref (qm 59), .ref (qm 60), .ref (qm 61), .ref (qm 62), .ref (qm 63), .ref (qm 64), .ref (qm 65), .ref (qm 66), .ref (qm 67), .ref (qm 68), .ref (qm 69), .ref (qm 70), .ref (qm 71), .ref (qm 72), .ref (qm 73), .int 0, .int 0, .int 0, .int 0, .int 0, .ref (qm 74), .ref (qm 75), .int 0, .ref (qm 76), .ref (qm 77), .ref (qm 78), .ref (qm 79), .int 0, .ref (qm 80), .ref (qm 81), .ref (qm 82), .ref (qm 83), .ref (qm 84), .ref (qm 85), .ref (qm 86), .ref (qm 87), .int 0, .ref (qm 88), .int 0, .int 0, .int 0, .int 0, .int 0, .int 0, .int 0])), (qm 0, .inl (k_tape, 4000, .inl (fun _ => 0)))]) [0, 1] (by decide) rfl
  have hKc := hK.sub (tys' := [(k_tape, .int)]) [1] rfl
  have hFc := va_free (wc := [(mo, .inr (12, [.int 0, .ref (qm 0), .int 0, .int 0, .ref (qm 1), .ref (qm 2), .ref (qm 3), .int 0, .int 0, .ref ks, .ref (qm 4), .int 0, .int 0, .ref (qm 5), .ref (qm 6), .ref (qm 7), .ref (qm 8), .ref (qm 9), .ref (qm 10), .ref (qm 11), .ref (qm 12), .ref (qm 13), .ref (qm 14), .int 0, .ref (qm 15), .ref (qm 16), .ref (qm 17), .ref (qm 18), .ref (qm 19), .ref (qm 20), .ref (qm 21), .int 0, .ref (qm 22), .ref (qm 23), .ref (qm 24), .int 0, .ref (qm 25), .ref (qm 26), .ref (qm 27), .ref (qm 28), .ref (qm 29), .ref (qm 30), .ref (qm 31), .ref (qm 32), .ref (qm 33), .ref (qm 34), .ref (qm 35), .ref (qm 36), .ref (qm 37), .ref (qm 38), .ref (qm 39), .int 0, .ref (qm 40), .ref (qm 41), .ref (qm 42), .ref (qm 43), .ref (qm 44), .ref (qm 45), .ref (qm 46), .ref (qm 47), .ref (qm 48), .int 0, .int 0, .int 0, .int 0, .int 0, .int 0, .int 0, .int 0, .int 0, .int 1, .ref (qm 49), .ref (qm 50), .int 0, .int 0, .ref (qm 51), .ref (qm 52), .ref (qm 53), .ref (qm 54), .ref (qm 55), .ref (qm 56), .ref (qm 57), .ref (qm 58), .ref (qm 59), .ref (qm 60), .ref (qm 61), .ref (qm 62), .ref (qm 63), .ref (qm 64), .ref (qm 65), .ref (qm 66), .ref (qm 67), .ref (qm 68), .ref (qm 69), .ref (qm 70), .ref (qm 71), .ref (qm 72), .ref (qm 73), .int 0, .int 0, .int 0, .int 0, .int 0, .ref (qm 74), .ref (qm 75), .int 0, .ref (qm 76), .ref (qm 77), .ref (qm 78), .ref (qm 79), .int 0, .ref (qm 80), .ref (qm 81), .ref (qm 82), .ref (qm 83), .ref (qm 84), .ref (qm 85), .ref (qm 86), .ref (qm 87), .int 0, .ref (qm 88), .int 0, .int 0, .int 0, .int 0, .int 0, .int 0, .int 0])), (qm 0, .inl (k_tape, 4000, .inl (fun _ => 0)))]) hD hS hA [0, 1] rfl
  refine va_calli (va_runV (As := [.long z9, .long z18, .long z27]) (rest := [.int (nI (0 + fs_n z9 8 + fs_n z18 8 + fs_n z27 8))]) ⟨hx, hb, hml, hown, hts⟩ (ct_X12_feed l dC dI mo qm ks k_tape z9 z18 z27 H.size) (cwV 3 hts (gd_V wd_1379 wd_1380 wd_1381 wd_15 wd_1382) rfl rfl rfl (by decide +kernel) ⟨Nat.le_of_ble_eq_true rfl, Nat.le_of_ble_eq_true rfl⟩) ⟨fun a U g mk q => by obtain ⟨q0, q1, qP, qK, qD⟩ := q; exact ⟨q0, q1, qP, va_K.moved (u := U) (U := U.calling g mk a) (Vm.Alike.refl U.vm) qK, qD⟩, va_recv hKc hPc (ci := 12) (q0 := 0) rfl rfl, fun U hU hW => ⟨rfl, by rw [hU], by rw [hU]; exact hPc, va_K.moved hW.alike hKc, hDc.weaken (fun _ _ _ _ => trivial)⟩⟩ rfl rfl hl.1 rfl (lv_room (Nat.le_of_ble_eq_true rfl)) dL_law_275 ⟨Nat.le_of_ble_eq_true rfl, Nat.le_of_ble_eq_true rfl⟩) hS (fun q _ h => hFc q h) hFc (fun r56 u t H1 locs ht hvm hw hB hz1 hk1 hS => ?_)
  obtain ⟨hP1, hK1, hD1⟩ := hB
  rw [ht] at hP1
  have hK1 := va_K.moved hvm.symm hK1
  obtain ⟨hP, hD⟩ := va_join (wr := []) (w1 := []) hP hD [0, 1] [] rfl rfl (by decide) (by decide) hk1 hFc hP1 hD1
  have hK := (hK.sub (tys' := [(ktp, .char), (k_tape, .int)]) [0, 1] rfl).app (hK1.sub (tys' := []) [] rfl)
  generalize H1 = H at hP hS ⊢
  have hP : va_P (dC, dI) vwCl [] H := hP
  have hD : va_D A [] := hD
  have hK : va_K (dC, dI) vwCl [(ktp, .char), (k_tape, .int)] s := hK
  obtain rfl := hw
  refine lv_icmp_eq (tgt := 1031) hx hb dL_law_278 (by decide) (fun _ => ?_) (fun h => absurd rfl h)
  refine lv_iinc (v := 7) (lv' := [(4, .int 7), (3, .ref oq), (2, .ref mo), (1, .ref x), (0, .ref b)]) hx hb dL_law_1031 hl (k := 0) rfl (by decide) (by decide) rfl (fun ls hl => ?_)
  refine lv_goto (tgt := 23) hx hb dL_law_1034 (by decide) ?_
  refine lv_iload hx hb dL_law_23 (lv_at hl 0 rfl) ?_
  refine lv_aload_n hx hb dL_law_25 rfl (lv_at hl 4 rfl) ?_
  refine va_slen hx hb hX hbl hbA hS dL_law_26 ?_
  refine lv_topi (fun z57 ez57 => ?_)
  obtain rfl : z57 = 7 := ez57.trans (by decide)
  refine lv_bipush (v := 7) hx hb dL_law_27 (by decide) ?_
  refine lv_isub hx hb dL_law_29 ?_
  refine lv_topi (fun z58 ez58 => ?_)
  obtain rfl : z58 = 0 := ez58.trans (by decide)
  refine lv_icmp_gt (tgt := 1037) hx hb dL_law_30 (by decide) (fun _ => ?_) (fun h => absurd (by decide) h)
  refine lv_iconst (v := 1) hx hb dL_law_1037 (by decide) ?_
  refine va_forget (fun q hq => by have h9 := hS.2.2 q hq; rw [hAeq] at h9; exact h9) ?_
  refine W.widen (k := 600002) (n := 7302232) (Nat.le_of_ble_eq_true rfl) (Nat.le_of_ble_eq_true rfl) ?_
  exact lw_ret hx hb hr hlocks dL_law_1038
set_option maxHeartbeats 4000000 in
set_option maxRecDepth 100000 in
theorem lo_program {p : Program} {l : Launch} {e : Env} {s : State} {m : MethodId} {below : List Frame} {meth : Method} {c : Code} {dC : Nat → ClassId} {dI : Nat → Nat → Nat} {b : Nat} {xs : Nat → Int32} {A : Nat → Prop} (hl9 : l.stackTraces = false) (C0 : lw_At p s m meth c b 7 xs) (hAeq : A = fun q : Nat => s.heap.size ≤ q) {al : Nat} {ha : Nat} {k_letters : ClassId} {k_place : ClassId} {k_routines : ClassId} {k_sort : ClassId} {kd : Nat} {kkd : ClassId} {klc : ClassId} {kln : ClassId} {kpl : ClassId} {ks : Nat} {kva : ClassId} {l0 : Nat} {l1 : Nat} {l2 : Nat} {l3 : Nat} {l4 : Nat} {l5 : Nat} {l6 : Nat} {l7 : Nat} {lc : Nat} {le : Nat} {ln : Nat} {lo : Nat} {mo : Nat} {nu : Nat} {pa : Nat} {pl : Nat} {pu : Nat} {qc : Nat → Nat} {ql : Nat → Nat} {qm : Nat → Nat} {qp : Nat → Nat} {qs : Nat → Nat} {qu : Nat → Nat} {rs : Nat} {ru : Nat} {sc : Nat} {sp : Nat} {ta : Nat} {tk : Nat} {to : Nat} {tp : Nat} {va : Nat} {x : Nat} {xg : Nat} {xr : Nat} {xt : Nat} {oq : Nat} {H : Heap} {locs : List Loc} {ls : Array Slot} (hK : va_K (dC, dI) vwCl [(kkd, .int), (kpl, .int), (kva, .long), (klc, .int), (kln, .object RX2), (k_sort, .int), (k_place, .int), (k_routines, .int), (k_letters, .int)] s) (hP : va_P (dC, dI) vwCl [(x, .inr (11, [.ref tk, .ref pa, .ref ta, .ref ha, .ref ru, .ref to, .ref sp])), (tk, .inr (10, [.ref kd, .ref pl, .ref va, .int 0, .int 0, .ref tp, .ref rs])), (kd, .inl (kkd, 4002, .inl (upd (fun _ => 0) (4001 : Int32).toNatClampNeg 4))), (pl, .inl (kpl, 4002, .inl (fun _ => 0))), (va, .inl (kva, 4002, .inr (.inl (fun _ => 0)))), (pa, .inr (3, [.ref tk, .null, .null, .int 0, .int 0, .int 0, .int 0, .int 0, .int 0, .ref (qp 0), .ref (qp 1), .ref (qp 2), .ref (qp 3)])), (sp, .inr (5, [.int 0, .ref (qs 0), .ref (qs 1), .ref (qs 2), .ref sc, .int 0, .ref (qs 3), .ref (qs 4), .ref (qs 5), .ref (qs 6), .ref (qs 7), .ref (qs 8), .ref (qs 9), .ref (qs 10)])), (sc, .inr (7, [.int 0, .ref (qc 0), .ref (qc 1), .ref (qc 2), .ref (qc 3), .ref (qc 4), .ref (qc 5), .ref (qc 6), .int 0, .ref (qc 7), .ref (qc 8), .ref (qc 9)])), (ha, .inr (1, [.ref to, .ref xt, .int 0, .int 0, .ref xr, .int 0, .int 0, .ref le, .ref lc, .ref ln, .ref al, .ref lo, .ref xg, .int 0, .null])), (lc, .inl (klc, 8, .inl (fun _ => 0))), (ln, .inl (kln, 8, .inr (.inr (.inr (.inr (fun i => [l0, l1, l2, l3, l4, l5, l6, l7][i]?)))))), (l0, .inr (2, [.null, .null])), (l1, .inr (2, [.null, .null])), (l2, .inr (2, [.null, .null])), (l3, .inr (2, [.null, .null])), (l4, .inr (2, [.null, .null])), (l5, .inr (2, [.null, .null])), (l6, .inr (2, [.null, .null])), (l7, .inr (2, [.null, .null])), (al, .inr (2, [.null, .null])), (lo, .inr (0, [.int 0, .ref (ql 0), .ref (ql 1)])), (ru, .inr (6, [.int 0, .int 0, .ref pu, .ref ha, .ref nu, .int 0, .int 0, .int 0])), (pu, .inr (0, [.int 0, .ref (qu 0), .ref (qu 1)])), (mo, .inr (12, [.int 0, .ref (qm 0), .int 0, .int 0, .ref (qm 1), .ref (qm 2), .ref (qm 3), .int 0, .int 0, .ref ks, .ref (qm 4), .int 0, .int 0, .ref (qm 5), .ref (qm 6), .ref (qm 7), .ref (qm 8), .ref (qm 9), .ref (qm 10), .ref (qm 11), .ref (qm 12), .ref (qm 13), .ref (qm 14), .int 0, .ref (qm 15), .ref (qm 16), .ref (qm 17), .ref (qm 18), .ref (qm 19), .ref (qm 20), .ref (qm 21), .int 0, .ref (qm 22), .ref (qm 23), .ref (qm 24), .int 0, .ref (qm 25), .ref (qm 26), .ref (qm 27), .ref (qm 28), .ref (qm 29), .ref (qm 30), .ref (qm 31), .ref (qm 32), .ref (qm 33), .ref (qm 34), .ref (qm 35), .ref (qm 36), .ref (qm 37), .ref (qm 38), .ref (qm 39), .int 0, .ref (qm 40), .ref (qm 41), .ref (qm 42), .ref (qm 43), .ref (qm 44), .ref (qm 45), .ref (qm 46), .ref (qm 47), .ref (qm 48), .int 0, .int 0, .int 0, .int 0, .int 0, .int 0, .int 0, .int 0, .int 0, .int 1, .ref (qm 49), .ref (qm 50), .int 0, .int 0, .ref (qm 51), .ref (qm 52), .ref (qm 53), .ref (qm 54), .ref (qm 55), .ref (qm 56), .ref (qm 57), .ref (qm 58), .ref (qm 59), .ref (qm 60), .ref (qm 61), .ref (qm 62), .ref (qm 63), .ref (qm 64), .ref (qm 65), .ref (qm 66), .ref (qm 67), .ref (qm 68), .ref (qm 69), .ref (qm 70), .ref (qm 71), .ref (qm 72), .ref (qm 73), .int 0, .int 0, .int 0, .int 0, .int 0, .ref (qm 74), .ref (qm 75), .int 0, .ref (qm 76), .ref (qm 77), .ref (qm 78), .ref (qm 79), .int 0, .ref (qm 80), .ref (qm 81), .ref (qm 82), .ref (qm 83), .ref (qm 84), .ref (qm 85), .ref (qm 86), .ref (qm 87), .int 0, .ref (qm 88), .int 0, .int 0, .int 0, .int 0, .int 0, .int 0, .int 0])), (qm 1, .inl (k_sort, 4002, .inl (fun _ => 0))), (qm 2, .inl (k_place, 4002, .inl (fun _ => 0))), (qm 5, .inl (k_routines, 2, .inl (fun _ => 0))), (qm 78, .inl (k_letters, 8, .inl (fun _ => 0)))] H) (hD : va_D A [(x, .inr (11, [.ref tk, .ref pa, .ref ta, .ref ha, .ref ru, .ref to, .ref sp])), (tk, .inr (10, [.ref kd, .ref pl, .ref va, .int 0, .int 0, .ref tp, .ref rs])), (kd, .inl (kkd, 4002, .inl (upd (fun _ => 0) (4001 : Int32).toNatClampNeg 4))), (pl, .inl (kpl, 4002, .inl (fun _ => 0))), (va, .inl (kva, 4002, .inr (.inl (fun _ => 0)))), (pa, .inr (3, [.ref tk, .null, .null, .int 0, .int 0, .int 0, .int 0, .int 0, .int 0, .ref (qp 0), .ref (qp 1), .ref (qp 2), .ref (qp 3)])), (sp, .inr (5, [.int 0, .ref (qs 0), .ref (qs 1), .ref (qs 2), .ref sc, .int 0, .ref (qs 3), .ref (qs 4), .ref (qs 5), .ref (qs 6), .ref (qs 7), .ref (qs 8), .ref (qs 9), .ref (qs 10)])), (sc, .inr (7, [.int 0, .ref (qc 0), .ref (qc 1), .ref (qc 2), .ref (qc 3), .ref (qc 4), .ref (qc 5), .ref (qc 6), .int 0, .ref (qc 7), .ref (qc 8), .ref (qc 9)])), (ha, .inr (1, [.ref to, .ref xt, .int 0, .int 0, .ref xr, .int 0, .int 0, .ref le, .ref lc, .ref ln, .ref al, .ref lo, .ref xg, .int 0, .null])), (lc, .inl (klc, 8, .inl (fun _ => 0))), (ln, .inl (kln, 8, .inr (.inr (.inr (.inr (fun i => [l0, l1, l2, l3, l4, l5, l6, l7][i]?)))))), (l0, .inr (2, [.null, .null])), (l1, .inr (2, [.null, .null])), (l2, .inr (2, [.null, .null])), (l3, .inr (2, [.null, .null])), (l4, .inr (2, [.null, .null])), (l5, .inr (2, [.null, .null])), (l6, .inr (2, [.null, .null])), (l7, .inr (2, [.null, .null])), (al, .inr (2, [.null, .null])), (lo, .inr (0, [.int 0, .ref (ql 0), .ref (ql 1)])), (ru, .inr (6, [.int 0, .int 0, .ref pu, .ref ha, .ref nu, .int 0, .int 0, .int 0])), (pu, .inr (0, [.int 0, .ref (qu 0), .ref (qu 1)])), (mo, .inr (12, [.int 0, .ref (qm 0), .int 0, .int 0, .ref (qm 1), .ref (qm 2), .ref (qm 3), .int 0, .int 0, .ref ks, .ref (qm 4), .int 0, .int 0, .ref (qm 5), .ref (qm 6), .ref (qm 7), .ref (qm 8), .ref (qm 9), .ref (qm 10), .ref (qm 11), .ref (qm 12), .ref (qm 13), .ref (qm 14), .int 0, .ref (qm 15), .ref (qm 16), .ref (qm 17), .ref (qm 18), .ref (qm 19), .ref (qm 20), .ref (qm 21), .int 0, .ref (qm 22), .ref (qm 23), .ref (qm 24), .int 0, .ref (qm 25), .ref (qm 26), .ref (qm 27), .ref (qm 28), .ref (qm 29), .ref (qm 30), .ref (qm 31), .ref (qm 32), .ref (qm 33), .ref (qm 34), .ref (qm 35), .ref (qm 36), .ref (qm 37), .ref (qm 38), .ref (qm 39), .int 0, .ref (qm 40), .ref (qm 41), .ref (qm 42), .ref (qm 43), .ref (qm 44), .ref (qm 45), .ref (qm 46), .ref (qm 47), .ref (qm 48), .int 0, .int 0, .int 0, .int 0, .int 0, .int 0, .int 0, .int 0, .int 0, .int 1, .ref (qm 49), .ref (qm 50), .int 0, .int 0, .ref (qm 51), .ref (qm 52), .ref (qm 53), .ref (qm 54), .ref (qm 55), .ref (qm 56), .ref (qm 57), .ref (qm 58), .ref (qm 59), .ref (qm 60), .ref (qm 61), .ref (qm 62), .ref (qm 63), .ref (qm 64), .ref (qm 65), .ref (qm 66), .ref (qm 67), .ref (qm 68), .ref (qm 69), .ref (qm 70), .ref (qm 71), .ref (qm 72), .ref (qm 73), .int 0, .int 0, .int 0, .int 0, .int 0, .ref (qm 74), .ref (qm 75), .int 0, .ref (qm 76), .ref (qm 77), .ref (qm 78), .ref (qm 79), .int 0, .ref (qm 80), .ref (qm 81), .ref (qm 82), .ref (qm 83), .ref (qm 84), .ref (qm 85), .ref (qm 86), .ref (qm 87), .int 0, .ref (qm 88), .int 0, .int 0, .int 0, .int 0, .int 0, .int 0, .int 0])), (qm 1, .inl (k_sort, 4002, .inl (fun _ => 0))), (qm 2, .inl (k_place, 4002, .inl (fun _ => 0))), (qm 5, .inl (k_routines, 2, .inl (fun _ => 0))), (qm 78, .inl (k_letters, 8, .inl (fun _ => 0)))]) (hS : va_S A s.heap H locs) (hl : lv_has ls 7 [(4, .int 0), (3, .ref oq), (2, .ref mo), (1, .ref x), (0, .ref b)]) : W p l e room_1 s m #[Value.ref b] below meth c H locs 176 1222853 (lw_Z below #[Value.ref b] s) (F0 m 283 ls []) := by
  obtain ⟨hx, hb, hr, hml, hown, hts0, hX, hbl, hlocks, hgv⟩ := C0
  have hts : ∀ w ∈ tb, w.before _ s = true := fun w h => hts0 w (List.mem_filter.mp h).1
  have hA : ∀ q : Nat, s.heap.size ≤ q → A q := by rw [hAeq]; exact fun _ h => h
  have hbA : ¬ A b := by rw [hAeq]; exact Nat.not_le.mpr hbl
  refine lv_aload_n hx hb dL_law_283 rfl (lv_at hl 3 rfl) ?_
  have hPc := hP.sub (ws' := [(x, .inr (11, [.ref tk, .ref pa, .ref ta, .ref ha, .ref ru, .ref to, .ref sp])), (tk, .inr (10, [.ref kd, .ref pl, .ref va, .int 0, .int 0, .ref tp, .ref rs])), (kd, .inl (kkd, 4002, .inl (upd (fun _ => 0) (4001 : Int32).toNatClampNeg 4))), (pl, .inl (kpl, 4002, .inl (fun _ => 0))), (va, .inl (kva, 4002, .inr (.inl (fun _ => 0)))), (pa, .inr (3, [.ref tk, .null, .null, .int 0, .int 0, .int 0, .int 0, .int 0, .int 0, .ref (qp 0), .ref (qp 1), .ref (qp 2), .ref (qp 3)])), (sp, .inr (5, [.int 0, .ref (qs 0), .ref (qs 1), .ref (qs 2), .ref sc, .int 0, .ref (qs 3), .ref (qs 4), .ref (qs 5), .ref (qs 6), .ref (qs 7), .ref (qs 8), .ref (qs 9), .ref (qs 10)])), (sc, .inr (7, [.int 0, .ref (qc 0), .ref (qc 1), .ref (qc 2), .ref (qc 3), .ref (qc 4), .ref (qc 5), .ref (qc 6), .int 0, .ref (qc 7), .ref (qc 8), .ref (qc 9)])), (ha, .inr (1, [(.ref to : Value), .ref xt, .int 0, .int 0, .ref xr, .int 0, .int 0, .ref le, .ref lc, .ref ln, .ref al, .ref lo, .ref xg, .int 0, .null])), (lc, .inl (klc, 8, .inl (fun _ => 0))), (ln, .inl (kln, 8, .inr (.inr (.inr (.inr (fun i => [l0, l1, l2, l3, l4, l5, l6, l7][i]?)))))), (l0, .inr (2, [.null, .null])), (l1, .inr (2, [.null, .null])), (l2, .inr (2, [.null, .null])), (l3, .inr (2, [.null, .null])), (l4, .inr (2, [.null, .null])), (l5, .inr (2, [.null, .null])), (l6, .inr (2, [.null, .null])), (l7, .inr (2, [.null, .null])), (al, .inr (2, [.null, .null])), (lo, .inr (0, [.int 0, .ref (ql 0), .ref (ql 1)])), (ru, .inr (6, [.int 0, .int 0, .ref pu, .ref ha, .ref nu, .int 0, .int 0, .int 0])), (pu, .inr (0, [.int 0, .ref (qu 0), .ref (qu 1)]))]) [0, 1, 2, 3, 4, 5, 6, 7, 8, 9, 10, 11, 12, 13, 14, 15, 16, 17, 18, 19, 20, 21, 22] rfl
  have hDc := hD.sub (ws' := [(x, .inr (11, [.ref tk, .ref pa, .ref ta, .ref ha, .ref ru, .ref to, .ref sp])), (tk, .inr (10, [.ref kd, .ref pl, .ref va, .int 0, .int 0, .ref tp, .ref rs])), (kd, .inl (kkd, 4002, .inl (upd (fun _ => 0) (4001 : Int32).toNatClampNeg 4))), (pl, .inl (kpl, 4002, .inl (fun _ => 0))), (va, .inl (kva, 4002, .inr (.inl (fun _ => 0)))), (pa, .inr (3, [.ref tk, .null, .null, .int 0, .int 0, .int 0, .int 0, .int 0, .int 0, .ref (qp 0), .ref (qp 1), .ref (qp 2), .ref (qp 3)])), (sp, .inr (5, [.int 0, .ref (qs 0), .ref (qs 1), .ref (qs 2), .ref sc, .int 0, .ref (qs 3), .ref (qs 4), .ref (qs 5), .ref (qs 6), .ref (qs 7), .ref (qs 8), .ref (qs 9), .ref (qs 10)])), (sc, .inr (7, [.int 0, .ref (qc 0), .ref (qc 1), .ref (qc 2), .ref (qc 3), .ref (qc 4), .ref (qc 5), .ref (qc 6), .int 0, .ref (qc 7), .ref (qc 8), .ref (qc 9)])), (ha, .inr (1, [(.ref to : Value), .ref xt, .int 0, .int 0, .ref xr, .int 0, .int 0, .ref le, .ref lc, .ref ln, .ref al, .ref lo, .ref xg, .int 0, .null])), (lc, .inl (klc, 8, .inl (fun _ => 0))), (ln, .inl (kln, 8, .inr (.inr (.inr (.inr (fun i => [l0, l1, l2, l3, l4, l5, l6, l7][i]?)))))), (l0, .inr (2, [.null, .null])), (l1, .inr (2, [.null, .null])), (l2, .inr (2, [.null, .null])), (l3, .inr (2, [.null, .null])), (l4, .inr (2, [.null, .null])), (l5, .inr (2, [.null, .null])), (l6, .inr (2, [.null, .null])), (l7, .inr (2, [.null, .null])), (al, .inr (2, [.null, .null])), (lo, .inr (0, [.int 0, .ref (ql 0), .ref (ql 1)])), (ru, .inr (6, [.int 0, .int 0, .ref pu, .ref ha, .ref nu, .int 0, .int 0, .int 0])), (pu, .inr (0, [.int 0, .ref (qu 0), .ref (qu 1)]))]) [0, 1, 2, 3, 4, 5, 6, 7, 8, 9, 10, 11, 12, 13, 14, 15, 16, 17, 18, 19, 20, 21, 22] (by decide) rfl
  have hKc := hK.sub (tys' := [(kkd, .int), (kpl, .int), (kva, .long), (klc, .int), (kln, .object RX2)]) [0, 1, 2, 3, 4] rfl
  have hFc := va_free (wc := [(x, .inr (11, [.ref tk, .ref pa, .ref ta, .ref ha, .ref ru, .ref to, .ref sp])), (tk, .inr (10, [.ref kd, .ref pl, .ref va, .int 0, .int 0, .ref tp, .ref rs])), (kd, .inl (kkd, 4002, .inl (upd (fun _ => 0) (4001 : Int32).toNatClampNeg 4))), (pl, .inl (kpl, 4002, .inl (fun _ => 0))), (va, .inl (kva, 4002, .inr (.inl (fun _ => 0)))), (pa, .inr (3, [.ref tk, .null, .null, .int 0, .int 0, .int 0, .int 0, .int 0, .int 0, .ref (qp 0), .ref (qp 1), .ref (qp 2), .ref (qp 3)])), (sp, .inr (5, [.int 0, .ref (qs 0), .ref (qs 1), .ref (qs 2), .ref sc, .int 0, .ref (qs 3), .ref (qs 4), .ref (qs 5), .ref (qs 6), .ref (qs 7), .ref (qs 8), .ref (qs 9), .ref (qs 10)])), (sc, .inr (7, [.int 0, .ref (qc 0), .ref (qc 1), .ref (qc 2), .ref (qc 3), .ref (qc 4), .ref (qc 5), .ref (qc 6), .int 0, .ref (qc 7), .ref (qc 8), .ref (qc 9)])), (ha, .inr (1, [(.ref to : Value), .ref xt, .int 0, .int 0, .ref xr, .int 0, .int 0, .ref le, .ref lc, .ref ln, .ref al, .ref lo, .ref xg, .int 0, .null])), (lc, .inl (klc, 8, .inl (fun _ => 0))), (ln, .inl (kln, 8, .inr (.inr (.inr (.inr (fun i => [l0, l1, l2, l3, l4, l5, l6, l7][i]?)))))), (l0, .inr (2, [.null, .null])), (l1, .inr (2, [.null, .null])), (l2, .inr (2, [.null, .null])), (l3, .inr (2, [.null, .null])), (l4, .inr (2, [.null, .null])), (l5, .inr (2, [.null, .null])), (l6, .inr (2, [.null, .null])), (l7, .inr (2, [.null, .null])), (al, .inr (2, [.null, .null])), (lo, .inr (0, [.int 0, .ref (ql 0), .ref (ql 1)])), (ru, .inr (6, [.int 0, .int 0, .ref pu, .ref ha, .ref nu, .int 0, .int 0, .int 0])), (pu, .inr (0, [.int 0, .ref (qu 0), .ref (qu 1)]))]) hD hS hA [0, 1, 2, 3, 4, 5, 6, 7, 8, 9, 10, 11, 12, 13, 14, 15, 16, 17, 18, 19, 20, 21, 22] rfl
  refine va_calli (va_runV (As := []) (rest := []) ⟨hx, hb, hml, hown, hts⟩ (ct_X11_program l dC dI x tk pa ta ha ru to sp qp (fun _ => 0) 0 qs sc qc kd pl va tp rs kkd kpl kva (.ref to : Value) xt xr le lc ln al lo xg klc kln ql l0 l1 l2 l3 l4 l5 l6 l7 pu nu qu H.size) (cwV 0 hts (gd_V wd_508 wd_509 wd_510 wd_1 wd_511) rfl rfl rfl (by decide +kernel) ⟨Nat.le_of_ble_eq_true rfl, Nat.le_of_ble_eq_true rfl⟩) ⟨fun a U g mk q => by obtain ⟨q0, q1, qP, qK, qD⟩ := q; exact ⟨q0, q1, qP, va_K.moved (u := U) (U := U.calling g mk a) (Vm.Alike.refl U.vm) qK, qD⟩, va_recv hKc hPc (ci := 11) (q0 := 0) rfl rfl, fun U hU hW => ⟨rfl, by rw [hU], by rw [hU]; exact hPc, va_K.moved hW.alike hKc, hDc.weaken (fun _ _ _ _ => trivial)⟩⟩ rfl rfl hl.1 rfl (lv_room (Nat.le_of_ble_eq_true rfl)) dL_law_284 ⟨Nat.le_of_ble_eq_true rfl, Nat.le_of_ble_eq_true rfl⟩) hS (fun q _ h => hFc q h) hFc (fun r1 u t H1 locs ht hvm hw hB hz1 hk1 hS => ?_)
  obtain ⟨hP1, hK1, hD1⟩ := hB
  rw [ht] at hP1
  have hK1 := va_K.moved hvm.symm hK1
  obtain ⟨hP, hD⟩ := va_join (wr := [(mo, .inr (12, [.int 0, .ref (qm 0), .int 0, .int 0, .ref (qm 1), .ref (qm 2), .ref (qm 3), .int 0, .int 0, .ref ks, .ref (qm 4), .int 0, .int 0, .ref (qm 5), .ref (qm 6), .ref (qm 7), .ref (qm 8), .ref (qm 9), .ref (qm 10), .ref (qm 11), .ref (qm 12), .ref (qm 13), .ref (qm 14), .int 0, .ref (qm 15), .ref (qm 16), .ref (qm 17), .ref (qm 18), .ref (qm 19), .ref (qm 20), .ref (qm 21), .int 0, .ref (qm 22), .ref (qm 23), .ref (qm 24), .int 0, .ref (qm 25), .ref (qm 26), .ref (qm 27), .ref (qm 28), .ref (qm 29), .ref (qm 30), .ref (qm 31), .ref (qm 32), .ref (qm 33), .ref (qm 34), .ref (qm 35), .ref (qm 36), .ref (qm 37), .ref (qm 38), .ref (qm 39), .int 0, .ref (qm 40), .ref (qm 41), .ref (qm 42), .ref (qm 43), .ref (qm 44), .ref (qm 45), .ref (qm 46), .ref (qm 47), .ref (qm 48), .int 0, .int 0, .int 0, .int 0, .int 0, .int 0, .int 0, .int 0, .int 0, .int 1, .ref (qm 49), .ref (qm 50), .int 0, .int 0, .ref (qm 51), .ref (qm 52), .ref (qm 53), .ref (qm 54), .ref (qm 55), .ref (qm 56), .ref (qm 57), .ref (qm 58), .ref (qm 59), .ref (qm 60), .ref (qm 61), .ref (qm 62), .ref (qm 63), .ref (qm 64), .ref (qm 65), .ref (qm 66), .ref (qm 67), .ref (qm 68), .ref (qm 69), .ref (qm 70), .ref (qm 71), .ref (qm 72), .ref (qm 73), .int 0, .int 0, .int 0, .int 0, .int 0, .ref (qm 74), .ref (qm 75), .int 0, .ref (qm 76), .ref (qm 77), .ref (qm 78), .ref (qm 79), .int 0, .ref (qm 80), .ref (qm 81), .ref (qm 82), .ref (qm 83), .ref (qm 84), .ref (qm 85), .ref (qm 86), .ref (qm 87), .int 0, .ref (qm 88), .int 0, .int 0, .int 0, .int 0, .int 0, .int 0, .int 0])), (qm 1, .inl (k_sort, 4002, .inl (fun _ => 0))), (qm 2, .inl (k_place, 4002, .inl (fun _ => 0))), (qm 5, .inl (k_routines, 2, .inl (fun _ => 0))), (qm 78, .inl (k_letters, 8, .inl (fun _ => 0)))]) (w1 := []) hP hD [0, 1, 2, 3, 4, 5, 6, 7, 8, 9, 10, 11, 12, 13, 14, 15, 16, 17, 18, 19, 20, 21, 22] [23, 24, 25, 26, 27] rfl rfl (by decide) (by decide) hk1 hFc hP1 hD1
  have hK := (hK.sub (tys' := [(kkd, .int), (kpl, .int), (kva, .long), (klc, .int), (kln, .object RX2), (k_sort, .int), (k_place, .int), (k_routines, .int), (k_letters, .int)]) [0, 1, 2, 3, 4, 5, 6, 7, 8] rfl).app (hK1.sub (tys' := []) [] rfl)
  generalize H1 = H at hP hS ⊢
  have hP : va_P (dC, dI) vwCl [(mo, .inr (12, [.int 0, .ref (qm 0), .int 0, .int 0, .ref (qm 1), .ref (qm 2), .ref (qm 3), .int 0, .int 0, .ref ks, .ref (qm 4), .int 0, .int 0, .ref (qm 5), .ref (qm 6), .ref (qm 7), .ref (qm 8), .ref (qm 9), .ref (qm 10), .ref (qm 11), .ref (qm 12), .ref (qm 13), .ref (qm 14), .int 0, .ref (qm 15), .ref (qm 16), .ref (qm 17), .ref (qm 18), .ref (qm 19), .ref (qm 20), .ref (qm 21), .int 0, .ref (qm 22), .ref (qm 23), .ref (qm 24), .int 0, .ref (qm 25), .ref (qm 26), .ref (qm 27), .ref (qm 28), .ref (qm 29), .ref (qm 30), .ref (qm 31), .ref (qm 32), .ref (qm 33), .ref (qm 34), .ref (qm 35), .ref (qm 36), .ref (qm 37), .ref (qm 38), .ref (qm 39), .int 0, .ref (qm 40), .ref (qm 41), .ref (qm 42), .ref (qm 43), .ref (qm 44), .ref (qm 45), .ref (qm 46), .ref (qm 47), .ref (qm 48), .int 0, .int 0, .int 0, .int 0, .int 0, .int 0, .int 0, .int 0, .int 0, .int 1, .ref (qm 49), .ref (qm 50), .int 0, .int 0, .ref (qm 51), .ref (qm 52), .ref (qm 53), .ref (qm 54), .ref (qm 55), .ref (qm 56), .ref (qm 57), .ref (qm 58), .ref (qm 59), .ref (qm 60), .ref (qm 61), .ref (qm 62), .ref (qm 63), .ref (qm 64), .ref (qm 65), .ref (qm 66), .ref (qm 67), .ref (qm 68), .ref (qm 69), .ref (qm 70), .ref (qm 71), .ref (qm 72), .ref (qm 73), .int 0, .int 0, .int 0, .int 0, .int 0, .ref (qm 74), .ref (qm 75), .int 0, .ref (qm 76), .ref (qm 77), .ref (qm 78), .ref (qm 79), .int 0, .ref (qm 80), .ref (qm 81), .ref (qm 82), .ref (qm 83), .ref (qm 84), .ref (qm 85), .ref (qm 86), .ref (qm 87), .int 0, .ref (qm 88), .int 0, .int 0, .int 0, .int 0, .int 0, .int 0, .int 0])), (qm 1, .inl (k_sort, 4002, .inl (fun _ => 0))), (qm 2, .inl (k_place, 4002, .inl (fun _ => 0))), (qm 5, .inl (k_routines, 2, .inl (fun _ => 0))), (qm 78, .inl (k_letters, 8, .inl (fun _ => 0)))] H := hP
  have hD : va_D A [(mo, .inr (12, [.int 0, .ref (qm 0), .int 0, .int 0, .ref (qm 1), .ref (qm 2), .ref (qm 3), .int 0, .int 0, .ref ks, .ref (qm 4), .int 0, .int 0, .ref (qm 5), .ref (qm 6), .ref (qm 7), .ref (qm 8), .ref (qm 9), .ref (qm 10), .ref (qm 11), .ref (qm 12), .ref (qm 13), .ref (qm 14), .int 0, .ref (qm 15), .ref (qm 16), .ref (qm 17), .ref (qm 18), .ref (qm 19), .ref (qm 20), .ref (qm 21), .int 0, .ref (qm 22), .ref (qm 23), .ref (qm 24), .int 0, .ref (qm 25), .ref (qm 26), .ref (qm 27), .ref (qm 28), .ref (qm 29), .ref (qm 30), .ref (qm 31), .ref (qm 32), .ref (qm 33), .ref (qm 34), .ref (qm 35), .ref (qm 36), .ref (qm 37), .ref (qm 38), .ref (qm 39), .int 0, .ref (qm 40), .ref (qm 41), .ref (qm 42), .ref (qm 43), .ref (qm 44), .ref (qm 45), .ref (qm 46), .ref (qm 47), .ref (qm 48), .int 0, .int 0, .int 0, .int 0, .int 0, .int 0, .int 0, .int 0, .int 0, .int 1, .ref (qm 49), .ref (qm 50), .int 0, .int 0, .ref (qm 51), .ref (qm 52), .ref (qm 53), .ref (qm 54), .ref (qm 55), .ref (qm 56), .ref (qm 57), .ref (qm 58), .ref (qm 59), .ref (qm 60), .ref (qm 61), .ref (qm 62), .ref (qm 63), .ref (qm 64), .ref (qm 65), .ref (qm 66), .ref (qm 67), .ref (qm 68), .ref (qm 69), .ref (qm 70), .ref (qm 71), .ref (qm 72), .ref (qm 73), .int 0, .int 0, .int 0, .int 0, .int 0, .ref (qm 74), .ref (qm 75), .int 0, .ref (qm 76), .ref (qm 77), .ref (qm 78), .ref (qm 79), .int 0, .ref (qm 80), .ref (qm 81), .ref (qm 82), .ref (qm 83), .ref (qm 84), .ref (qm 85), .ref (qm 86), .ref (qm 87), .int 0, .ref (qm 88), .int 0, .int 0, .int 0, .int 0, .int 0, .int 0, .int 0])), (qm 1, .inl (k_sort, 4002, .inl (fun _ => 0))), (qm 2, .inl (k_place, 4002, .inl (fun _ => 0))), (qm 5, .inl (k_routines, 2, .inl (fun _ => 0))), (qm 78, .inl (k_letters, 8, .inl (fun _ => 0)))] := hD
  have hK : va_K (dC, dI) vwCl [(kkd, .int), (kpl, .int), (kva, .long), (klc, .int), (kln, .object RX2), (k_sort, .int), (k_place, .int), (k_routines, .int), (k_letters, .int)] s := hK
  obtain rfl := hw
  refine lv_aload_n hx hb dL_law_287 rfl (lv_at hl 2 rfl) ?_
  have hPc := hP.sub (ws' := [(mo, .inr (12, [.int 0, .ref (qm 0), .int 0, .int 0, .ref (qm 1), .ref (qm 2), .ref (qm 3), .int 0, .int 0, .ref ks, .ref (qm 4), .int 0, .int 0, .ref (qm 5), .ref (qm 6), .ref (qm 7), .ref (qm 8), .ref (qm 9), .ref (qm 10), .ref (qm 11), .ref (qm 12), .ref (qm 13), .ref (qm 14), .int 0, .ref (qm 15), .ref (qm 16), .ref (qm 17), .ref (qm 18), .ref (qm 19), .ref (qm 20), .ref (qm 21), .int 0, .ref (qm 22), .ref (qm 23), .ref (qm 24), .int 0, .ref (qm 25), .ref (qm 26), .ref (qm 27), .ref (qm 28), .ref (qm 29), .ref (qm 30), .ref (qm 31), .ref (qm 32), .ref (qm 33), .ref (qm 34), .ref (qm 35), .ref (qm 36), .ref (qm 37), .ref (qm 38), .ref (qm 39), .int 0, .ref (qm 40), .ref (qm 41), .ref (qm 42), .ref (qm 43), .ref (qm 44), .ref (qm 45), .ref (qm 46), .ref (qm 47), .ref (qm 48), .int 0, .int 0, .int 0, .int 0, .int 0, .int 0, .int 0, .int 0, .int 0, .int 1, .ref (qm 49), .ref (qm 50), .int 0, .int 0, .ref (qm 51), .ref (qm 52), .ref (qm 53), .ref (qm 54), .ref (qm 55), .ref (qm 56), .ref (qm 57), .ref (qm 58), .ref (qm 59), .ref (qm 60), .ref (qm 61), .ref (qm 62), .ref (qm 63), .ref (qm 64), .ref (qm 65), .ref (qm 66), .ref (qm 67), .ref (qm 68), .ref (qm 69), .ref (qm 70), .ref (qm 71), .ref (qm 72), .ref (qm 73), .int 0, .int 0, .int 0, .int 0, .int 0, .ref (qm 74), .ref (qm 75), .int 0, .ref (qm 76), .ref (qm 77), .ref (qm 78), .ref (qm 79), .int 0, .ref (qm 80), .ref (qm 81), .ref (qm 82), .ref (qm 83), .ref (qm 84), .ref (qm 85), .ref (qm 86), .ref (qm 87), .int 0, .ref (qm 88), .int 0, .int 0, .int 0, .int 0, .int 0, .int 0, .int 0])), (qm 1, .inl (k_sort, 4002, .inl (fun _ => 0))), (qm 2, .inl (k_place, 4002, .inl (fun _ => 0))), (qm 5, .inl (k_routines, 2, .inl (fun _ => 0))), (qm 78, .inl (k_letters, 8, .inl (fun _ => 0)))]) [0, 1, 2, 3, 4] rfl
  have hDc := hD.sub (ws' := [(mo, .inr (12, [.int 0, .ref (qm 0), .int 0, .int 0, .ref (qm 1), .ref (qm 2), .ref (qm 3), .int 0, .int 0, .ref ks, .ref (qm 4), .int 0, .int 0, .ref (qm 5), .ref (qm 6), .ref (qm 7), .ref (qm 8), .ref (qm 9), .ref (qm 10), .ref (qm 11), .ref (qm 12), .ref (qm 13), .ref (qm 14), .int 0, .ref (qm 15), .ref (qm 16), .ref (qm 17), .ref (qm 18), .ref (qm 19), .ref (qm 20), .ref (qm 21), .int 0, .ref (qm 22), .ref (qm 23), .ref (qm 24), .int 0, .ref (qm 25), .ref (qm 26), .ref (qm 27), .ref (qm 28), .ref (qm 29), .ref (qm 30), .ref (qm 31), .ref (qm 32), .ref (qm 33), .ref (qm 34), .ref (qm 35), .ref (qm 36), .ref (qm 37), .ref (qm 38), .ref (qm 39), .int 0, .ref (qm 40), .ref (qm 41), .ref (qm 42), .ref (qm 43), .ref (qm 44), .ref (qm 45), .ref (qm 46), .ref (qm 47), .ref (qm 48), .int 0, .int 0, .int 0, .int 0, .int 0, .int 0, .int 0, .int 0, .int 0, .int 1, .ref (qm 49), .ref (qm 50), .int 0, .int 0, .ref (qm 51), .ref (qm 52), .ref (qm 53), .ref (qm 54), .ref (qm 55), .ref (qm 56), .ref (qm 57), .ref (qm 58), .ref (qm 59), .ref (qm 60), .ref (qm 61), .ref (qm 62), .ref (qm 63), .ref (qm 64), .ref (qm 65), .ref (qm 66), .ref (qm 67), .ref (qm 68), .ref (qm 69), .ref (qm 70), .ref (qm 71), .ref (qm 72), .ref (qm 73), .int 0, .int 0, .int 0, .int 0, .int 0, .ref (qm 74), .ref (qm 75), .int 0, .ref (qm 76), .ref (qm 77), .ref (qm 78), .ref (qm 79), .int 0, .ref (qm 80), .ref (qm 81), .ref (qm 82), .ref (qm 83), .ref (qm 84), .ref (qm 85), .ref (qm 86), .ref (qm 87), .int 0, .ref (qm 88), .int 0, .int 0, .int 0, .int 0, .int 0, .int 0, .int 0])), (qm 1, .inl (k_sort, 4002, .inl (fun _ => 0))), (qm 2, .inl (k_place, 4002, .inl (fun _ => 0))), (qm 5, .inl (k_routines, 2, .inl (fun _ => 0))), (qm 78, .inl (k_letters, 8, .inl (fun _ => 0)))]) [0, 1, 2, 3, 4] (by decide) rfl
  have hKc := hK.sub (tys' := [(k_sort, .int), (k_place, .int), (k_routines, .int), (k_letters, .int)]) [5, 6, 7, 8] rfl
  have hFc := va_free (wc := [(mo, .inr (12, [.int 0, .ref (qm 0), .int 0, .int 0, .ref (qm 1), .ref (qm 2), .ref (qm 3), .int 0, .int 0, .ref ks, .ref (qm 4), .int 0, .int 0, .ref (qm 5), .ref (qm 6), .ref (qm 7), .ref (qm 8), .ref (qm 9), .ref (qm 10), .ref (qm 11), .ref (qm 12), .ref (qm 13), .ref (qm 14), .int 0, .ref (qm 15), .ref (qm 16), .ref (qm 17), .ref (qm 18), .ref (qm 19), .ref (qm 20), .ref (qm 21), .int 0, .ref (qm 22), .ref (qm 23), .ref (qm 24), .int 0, .ref (qm 25), .ref (qm 26), .ref (qm 27), .ref (qm 28), .ref (qm 29), .ref (qm 30), .ref (qm 31), .ref (qm 32), .ref (qm 33), .ref (qm 34), .ref (qm 35), .ref (qm 36), .ref (qm 37), .ref (qm 38), .ref (qm 39), .int 0, .ref (qm 40), .ref (qm 41), .ref (qm 42), .ref (qm 43), .ref (qm 44), .ref (qm 45), .ref (qm 46), .ref (qm 47), .ref (qm 48), .int 0, .int 0, .int 0, .int 0, .int 0, .int 0, .int 0, .int 0, .int 0, .int 1, .ref (qm 49), .ref (qm 50), .int 0, .int 0, .ref (qm 51), .ref (qm 52), .ref (qm 53), .ref (qm 54), .ref (qm 55), .ref (qm 56), .ref (qm 57), .ref (qm 58), .ref (qm 59), .ref (qm 60), .ref (qm 61), .ref (qm 62), .ref (qm 63), .ref (qm 64), .ref (qm 65), .ref (qm 66), .ref (qm 67), .ref (qm 68), .ref (qm 69), .ref (qm 70), .ref (qm 71), .ref (qm 72), .ref (qm 73), .int 0, .int 0, .int 0, .int 0, .int 0, .ref (qm 74), .ref (qm 75), .int 0, .ref (qm 76), .ref (qm 77), .ref (qm 78), .ref (qm 79), .int 0, .ref (qm 80), .ref (qm 81), .ref (qm 82), .ref (qm 83), .ref (qm 84), .ref (qm 85), .ref (qm 86), .ref (qm 87), .int 0, .ref (qm 88), .int 0, .int 0, .int 0, .int 0, .int 0, .int 0, .int 0])), (qm 1, .inl (k_sort, 4002, .inl (fun _ => 0))), (qm 2, .inl (k_place, 4002, .inl (fun _ => 0))), (qm 5, .inl (k_routines, 2, .inl (fun _ => 0))), (qm 78, .inl (k_letters, 8, .inl (fun _ => 0)))]) hD hS hA [0, 1, 2, 3, 4] rfl
  refine va_calli (va_runV (As := []) (rest := [.int 0]) ⟨hx, hb, hml, hown, hts⟩ (ct_X12_program l dC dI mo qm ks k_sort k_place k_routines k_letters H.size) (cwV 0 hts (gd_V wd_1790 wd_1791 wd_1792 wd_15 wd_1793) rfl rfl rfl (by decide +kernel) ⟨Nat.le_of_ble_eq_true rfl, Nat.le_of_ble_eq_true rfl⟩) ⟨fun a U g mk q => by obtain ⟨q0, q1, qP, qK, qD⟩ := q; exact ⟨q0, q1, qP, va_K.moved (u := U) (U := U.calling g mk a) (Vm.Alike.refl U.vm) qK, qD⟩, va_recv hKc hPc (ci := 12) (q0 := 0) rfl rfl, fun U hU hW => ⟨rfl, by rw [hU], by rw [hU]; exact hPc, va_K.moved hW.alike hKc, hDc.weaken (fun _ _ _ _ => trivial)⟩⟩ rfl rfl hl.1 rfl (lv_room (Nat.le_of_ble_eq_true rfl)) dL_law_288 ⟨Nat.le_of_ble_eq_true rfl, Nat.le_of_ble_eq_true rfl⟩) hS (fun q _ h => hFc q h) hFc (fun r2 u t H1 locs ht hvm hw hB hz1 hk1 hS => ?_)
  obtain ⟨hP1, hK1, hD1⟩ := hB
  rw [ht] at hP1
  have hK1 := va_K.moved hvm.symm hK1
  obtain ⟨hP, hD⟩ := va_join (wr := []) (w1 := []) hP hD [0, 1, 2, 3, 4] [] rfl rfl (by decide) (by decide) hk1 hFc hP1 hD1
  have hK := (hK.sub (tys' := [(kkd, .int), (kpl, .int), (kva, .long), (klc, .int), (kln, .object RX2), (k_sort, .int), (k_place, .int), (k_routines, .int), (k_letters, .int)]) [0, 1, 2, 3, 4, 5, 6, 7, 8] rfl).app (hK1.sub (tys' := []) [] rfl)
  generalize H1 = H at hP hS ⊢
  have hP : va_P (dC, dI) vwCl [] H := hP
  have hD : va_D A [] := hD
  have hK : va_K (dC, dI) vwCl [(kkd, .int), (kpl, .int), (kva, .long), (klc, .int), (kln, .object RX2), (k_sort, .int), (k_place, .int), (k_routines, .int), (k_letters, .int)] s := hK
  obtain rfl := hw
  refine lv_icmp_eq (tgt := 1031) hx hb dL_law_291 (by decide) (fun _ => ?_) (fun h => absurd (by decide) h)
  refine lv_iinc (v := 7) (lv' := [(4, .int 7), (3, .ref oq), (2, .ref mo), (1, .ref x), (0, .ref b)]) hx hb dL_law_1031 hl (k := 0) rfl (by decide) (by decide) rfl (fun ls hl => ?_)
  refine lv_goto (tgt := 23) hx hb dL_law_1034 (by decide) ?_
  refine lv_iload hx hb dL_law_23 (lv_at hl 0 rfl) ?_
  refine lv_aload_n hx hb dL_law_25 rfl (lv_at hl 4 rfl) ?_
  refine va_slen hx hb hX hbl hbA hS dL_law_26 ?_
  refine lv_topi (fun z3 ez3 => ?_)
  obtain rfl : z3 = 7 := ez3.trans (by decide)
  refine lv_bipush (v := 7) hx hb dL_law_27 (by decide) ?_
  refine lv_isub hx hb dL_law_29 ?_
  refine lv_topi (fun z4 ez4 => ?_)
  obtain rfl : z4 = 0 := ez4.trans (by decide)
  refine lv_icmp_gt (tgt := 1037) hx hb dL_law_30 (by decide) (fun _ => ?_) (fun h => absurd (by decide) h)
  refine lv_iconst (v := 1) hx hb dL_law_1037 (by decide) ?_
  refine va_forget (fun q hq => by have h9 := hS.2.2 q hq; rw [hAeq] at h9; exact h9) ?_
  refine W.widen (k := 600002) (n := 7302232) (Nat.le_of_ble_eq_true rfl) (Nat.le_of_ble_eq_true rfl) ?_
  exact lw_ret hx hb hr hlocks dL_law_1038
set_option maxHeartbeats 4000000 in
set_option maxRecDepth 100000 in
theorem lo_named {p : Program} {l : Launch} {e : Env} {s : State} {m : MethodId} {below : List Frame} {meth : Method} {c : Code} {dC : Nat → ClassId} {dI : Nat → Nat → Nat} {b : Nat} {xs : Nat → Int32} {A : Nat → Prop} (hl9 : l.stackTraces = false) (C0 : lw_At p s m meth c b 7 xs) (hAeq : A = fun q : Nat => s.heap.size ≤ q) {ha : Nat} {k_place : ClassId} {k_sort : ClassId} {kd : Nat} {kkd : ClassId} {kpl : ClassId} {ks : Nat} {kva : ClassId} {mo : Nat} {pa : Nat} {pl : Nat} {qm : Nat → Nat} {rs : Nat} {ru : Nat} {sp : Nat} {ta : Nat} {tk : Nat} {to : Nat} {tp : Nat} {va : Nat} {x : Nat} {oq : Nat} {H : Heap} {locs : List Loc} {ls : Array Slot} (hK : va_K (dC, dI) vwCl [(kkd, .int), (kpl, .int), (kva, .long), (k_sort, .int), (k_place, .int)] s) (hP : va_P (dC, dI) vwCl [(x, .inr (11, [.ref tk, .ref pa, .ref ta, .ref ha, .ref ru, .ref to, .ref sp])), (tk, .inr (10, [.ref kd, .ref pl, .ref va, .int 0, .int 0, .ref tp, .ref rs])), (kd, .inl (kkd, 4002, .inl (upd (fun _ => 0) (4001 : Int32).toNatClampNeg 4))), (pl, .inl (kpl, 4002, .inl (fun _ => 0))), (va, .inl (kva, 4002, .inr (.inl (fun _ => 0)))), (mo, .inr (12, [.int 0, .ref (qm 0), .int 0, .int 0, .ref (qm 1), .ref (qm 2), .ref (qm 3), .int 0, .int 0, .ref ks, .ref (qm 4), .int 0, .int 0, .ref (qm 5), .ref (qm 6), .ref (qm 7), .ref (qm 8), .ref (qm 9), .ref (qm 10), .ref (qm 11), .ref (qm 12), .ref (qm 13), .ref (qm 14), .int 0, .ref (qm 15), .ref (qm 16), .ref (qm 17), .ref (qm 18), .ref (qm 19), .ref (qm 20), .ref (qm 21), .int 0, .ref (qm 22), .ref (qm 23), .ref (qm 24), .int 0, .ref (qm 25), .ref (qm 26), .ref (qm 27), .ref (qm 28), .ref (qm 29), .ref (qm 30), .ref (qm 31), .ref (qm 32), .ref (qm 33), .ref (qm 34), .ref (qm 35), .ref (qm 36), .ref (qm 37), .ref (qm 38), .ref (qm 39), .int 0, .ref (qm 40), .ref (qm 41), .ref (qm 42), .ref (qm 43), .ref (qm 44), .ref (qm 45), .ref (qm 46), .ref (qm 47), .ref (qm 48), .int 0, .int 0, .int 0, .int 0, .int 0, .int 0, .int 0, .int 0, .int 0, .int 1, .ref (qm 49), .ref (qm 50), .int 0, .int 0, .ref (qm 51), .ref (qm 52), .ref (qm 53), .ref (qm 54), .ref (qm 55), .ref (qm 56), .ref (qm 57), .ref (qm 58), .ref (qm 59), .ref (qm 60), .ref (qm 61), .ref (qm 62), .ref (qm 63), .ref (qm 64), .ref (qm 65), .ref (qm 66), .ref (qm 67), .ref (qm 68), .ref (qm 69), .ref (qm 70), .ref (qm 71), .ref (qm 72), .ref (qm 73), .int 0, .int 0, .int 0, .int 0, .int 0, .ref (qm 74), .ref (qm 75), .int 0, .ref (qm 76), .ref (qm 77), .ref (qm 78), .ref (qm 79), .int 0, .ref (qm 80), .ref (qm 81), .ref (qm 82), .ref (qm 83), .ref (qm 84), .ref (qm 85), .ref (qm 86), .ref (qm 87), .int 0, .ref (qm 88), .int 0, .int 0, .int 0, .int 0, .int 0, .int 0, .int 0])), (qm 1, .inl (k_sort, 4002, .inl (fun _ => 0))), (qm 2, .inl (k_place, 4002, .inl (fun _ => 0)))] H) (hD : va_D A [(x, .inr (11, [.ref tk, .ref pa, .ref ta, .ref ha, .ref ru, .ref to, .ref sp])), (tk, .inr (10, [.ref kd, .ref pl, .ref va, .int 0, .int 0, .ref tp, .ref rs])), (kd, .inl (kkd, 4002, .inl (upd (fun _ => 0) (4001 : Int32).toNatClampNeg 4))), (pl, .inl (kpl, 4002, .inl (fun _ => 0))), (va, .inl (kva, 4002, .inr (.inl (fun _ => 0)))), (mo, .inr (12, [.int 0, .ref (qm 0), .int 0, .int 0, .ref (qm 1), .ref (qm 2), .ref (qm 3), .int 0, .int 0, .ref ks, .ref (qm 4), .int 0, .int 0, .ref (qm 5), .ref (qm 6), .ref (qm 7), .ref (qm 8), .ref (qm 9), .ref (qm 10), .ref (qm 11), .ref (qm 12), .ref (qm 13), .ref (qm 14), .int 0, .ref (qm 15), .ref (qm 16), .ref (qm 17), .ref (qm 18), .ref (qm 19), .ref (qm 20), .ref (qm 21), .int 0, .ref (qm 22), .ref (qm 23), .ref (qm 24), .int 0, .ref (qm 25), .ref (qm 26), .ref (qm 27), .ref (qm 28), .ref (qm 29), .ref (qm 30), .ref (qm 31), .ref (qm 32), .ref (qm 33), .ref (qm 34), .ref (qm 35), .ref (qm 36), .ref (qm 37), .ref (qm 38), .ref (qm 39), .int 0, .ref (qm 40), .ref (qm 41), .ref (qm 42), .ref (qm 43), .ref (qm 44), .ref (qm 45), .ref (qm 46), .ref (qm 47), .ref (qm 48), .int 0, .int 0, .int 0, .int 0, .int 0, .int 0, .int 0, .int 0, .int 0, .int 1, .ref (qm 49), .ref (qm 50), .int 0, .int 0, .ref (qm 51), .ref (qm 52), .ref (qm 53), .ref (qm 54), .ref (qm 55), .ref (qm 56), .ref (qm 57), .ref (qm 58), .ref (qm 59), .ref (qm 60), .ref (qm 61), .ref (qm 62), .ref (qm 63), .ref (qm 64), .ref (qm 65), .ref (qm 66), .ref (qm 67), .ref (qm 68), .ref (qm 69), .ref (qm 70), .ref (qm 71), .ref (qm 72), .ref (qm 73), .int 0, .int 0, .int 0, .int 0, .int 0, .ref (qm 74), .ref (qm 75), .int 0, .ref (qm 76), .ref (qm 77), .ref (qm 78), .ref (qm 79), .int 0, .ref (qm 80), .ref (qm 81), .ref (qm 82), .ref (qm 83), .ref (qm 84), .ref (qm 85), .ref (qm 86), .ref (qm 87), .int 0, .ref (qm 88), .int 0, .int 0, .int 0, .int 0, .int 0, .int 0, .int 0])), (qm 1, .inl (k_sort, 4002, .inl (fun _ => 0))), (qm 2, .inl (k_place, 4002, .inl (fun _ => 0)))]) (hS : va_S A s.heap H locs) (hl : lv_has ls 7 [(4, .int 0), (3, .ref oq), (2, .ref mo), (1, .ref x), (0, .ref b)]) : W p l e room_1 s m #[Value.ref b] below meth c H locs 176 1222853 (lw_Z below #[Value.ref b] s) (F0 m 296 ls []) := by
  obtain ⟨hx, hb, hr, hml, hown, hts0, hX, hbl, hlocks, hgv⟩ := C0
  have hts : ∀ w ∈ tb, w.before _ s = true := fun w h => hts0 w (List.mem_filter.mp h).1
  have hA : ∀ q : Nat, s.heap.size ≤ q → A q := by rw [hAeq]; exact fun _ h => h
  have hbA : ¬ A b := by rw [hAeq]; exact Nat.not_le.mpr hbl
  refine lv_aload_n hx hb dL_law_296 rfl (lv_at hl 3 rfl) ?_
  refine lv_aload_n hx hb dL_law_297 rfl (lv_at hl 4 rfl) ?_
  refine lv_iload hx hb dL_law_298 (lv_at hl 0 rfl) ?_
  refine lv_iconst (v := 1) hx hb dL_law_300 (by decide) ?_
  refine lv_iadd hx hb dL_law_301 ?_
  refine lv_topi (fun z1 ez1 => ?_)
  obtain rfl : z1 = 1 := ez1.trans (by decide)
  refine va_sld hx hb hX hbl hbA hS (px_in 1 7 (by decide +kernel)) dL_law_302 ?_
  refine lv_topi (fun z2 ez2 => ?_)
  replace ez2 : z2 = xs 1 := ez2
  have hPc := hP.sub (ws' := [(x, .inr (11, [.ref tk, .ref pa, .ref ta, .ref ha, .ref ru, .ref to, .ref sp])), (tk, .inr (10, [.ref kd, .ref pl, .ref va, .int 0, .int 0, .ref tp, .ref rs])), (kd, .inl (kkd, 4002, .inl (upd (fun _ => 0) (4001 : Int32).toNatClampNeg 4))), (pl, .inl (kpl, 4002, .inl (fun _ => 0))), (va, .inl (kva, 4002, .inr (.inl (fun _ => 0))))]) [0, 1, 2, 3, 4] rfl
  have hDc := hD.sub (ws' := [(x, .inr (11, [.ref tk, .ref pa, .ref ta, .ref ha, .ref ru, .ref to, .ref sp])), (tk, .inr (10, [.ref kd, .ref pl, .ref va, .int 0, .int 0, .ref tp, .ref rs])), (kd, .inl (kkd, 4002, .inl (upd (fun _ => 0) (4001 : Int32).toNatClampNeg 4))), (pl, .inl (kpl, 4002, .inl (fun _ => 0))), (va, .inl (kva, 4002, .inr (.inl (fun _ => 0))))]) [0, 1, 2, 3, 4] (by decide) rfl
  have hKc := hK.sub (tys' := [(kkd, .int), (kpl, .int), (kva, .long)]) [0, 1, 2] rfl
  have hFc := va_free (wc := [(x, .inr (11, [.ref tk, .ref pa, .ref ta, .ref ha, .ref ru, .ref to, .ref sp])), (tk, .inr (10, [.ref kd, .ref pl, .ref va, .int 0, .int 0, .ref tp, .ref rs])), (kd, .inl (kkd, 4002, .inl (upd (fun _ => 0) (4001 : Int32).toNatClampNeg 4))), (pl, .inl (kpl, 4002, .inl (fun _ => 0))), (va, .inl (kva, 4002, .inr (.inl (fun _ => 0))))]) hD hS hA [0, 1, 2, 3, 4] rfl
  refine va_calli (va_runV (As := [.int z2]) (rest := []) ⟨hx, hb, hml, hown, hts⟩ (ct_X11_named l dC dI x tk pa ta ha ru to sp kd pl va tp rs kkd kpl kva z2 H.size) (cwV 1 hts (gd_V wd_776 wd_777 wd_778 wd_1 wd_779) rfl rfl rfl (by decide +kernel) ⟨Nat.le_of_ble_eq_true rfl, Nat.le_of_ble_eq_true rfl⟩) ⟨fun a U g mk q => by obtain ⟨q0, q1, qP, qK, qD⟩ := q; exact ⟨q0, q1, qP, va_K.moved (u := U) (U := U.calling g mk a) (Vm.Alike.refl U.vm) qK, qD⟩, va_recv hKc hPc (ci := 11) (q0 := 0) rfl rfl, fun U hU hW => ⟨rfl, by rw [hU], by rw [hU]; exact hPc, va_K.moved hW.alike hKc, hDc.weaken (fun _ _ _ _ => trivial)⟩⟩ rfl rfl hl.1 rfl (lv_room (Nat.le_of_ble_eq_true rfl)) dL_law_303 ⟨Nat.le_of_ble_eq_true rfl, Nat.le_of_ble_eq_true rfl⟩) hS (fun q _ h => hFc q h) hFc (fun r3 u t H1 locs ht hvm hw hB hz1 hk1 hS => ?_)
  obtain ⟨hP1, hK1, hD1⟩ := hB
  rw [ht] at hP1
  have hK1 := va_K.moved hvm.symm hK1
  obtain ⟨hP, hD⟩ := va_join (wr := [(mo, .inr (12, [.int 0, .ref (qm 0), .int 0, .int 0, .ref (qm 1), .ref (qm 2), .ref (qm 3), .int 0, .int 0, .ref ks, .ref (qm 4), .int 0, .int 0, .ref (qm 5), .ref (qm 6), .ref (qm 7), .ref (qm 8), .ref (qm 9), .ref (qm 10), .ref (qm 11), .ref (qm 12), .ref (qm 13), .ref (qm 14), .int 0, .ref (qm 15), .ref (qm 16), .ref (qm 17), .ref (qm 18), .ref (qm 19), .ref (qm 20), .ref (qm 21), .int 0, .ref (qm 22), .ref (qm 23), .ref (qm 24), .int 0, .ref (qm 25), .ref (qm 26), .ref (qm 27), .ref (qm 28), .ref (qm 29), .ref (qm 30), .ref (qm 31), .ref (qm 32), .ref (qm 33), .ref (qm 34), .ref (qm 35), .ref (qm 36), .ref (qm 37), .ref (qm 38), .ref (qm 39), .int 0, .ref (qm 40), .ref (qm 41), .ref (qm 42), .ref (qm 43), .ref (qm 44), .ref (qm 45), .ref (qm 46), .ref (qm 47), .ref (qm 48), .int 0, .int 0, .int 0, .int 0, .int 0, .int 0, .int 0, .int 0, .int 0, .int 1, .ref (qm 49), .ref (qm 50), .int 0, .int 0, .ref (qm 51), .ref (qm 52), .ref (qm 53), .ref (qm 54), .ref (qm 55), .ref (qm 56), .ref (qm 57), .ref (qm 58), .ref (qm 59), .ref (qm 60), .ref (qm 61), .ref (qm 62), .ref (qm 63), .ref (qm 64), .ref (qm 65), .ref (qm 66), .ref (qm 67), .ref (qm 68), .ref (qm 69), .ref (qm 70), .ref (qm 71), .ref (qm 72), .ref (qm 73), .int 0, .int 0, .int 0, .int 0, .int 0, .ref (qm 74), .ref (qm 75), .int 0, .ref (qm 76), .ref (qm 77), .ref (qm 78), .ref (qm 79), .int 0, .ref (qm 80), .ref (qm 81), .ref (qm 82), .ref (qm 83), .ref (qm 84), .ref (qm 85), .ref (qm 86), .ref (qm 87), .int 0, .ref (qm 88), .int 0, .int 0, .int 0, .int 0, .int 0, .int 0, .int 0])), (qm 1, .inl (k_sort, 4002, .inl (fun _ => 0))), (qm 2, .inl (k_place, 4002, .inl (fun _ => 0)))]) (w1 := []) hP hD [0, 1, 2, 3, 4] [5, 6, 7] rfl rfl (by decide) (by decide) hk1 hFc hP1 hD1
  have hK := (hK.sub (tys' := [(kkd, .int), (kpl, .int), (kva, .long), (k_sort, .int), (k_place, .int)]) [0, 1, 2, 3, 4] rfl).app (hK1.sub (tys' := []) [] rfl)
  generalize H1 = H at hP hS ⊢
  have hP : va_P (dC, dI) vwCl [(mo, .inr (12, [.int 0, .ref (qm 0), .int 0, .int 0, .ref (qm 1), .ref (qm 2), .ref (qm 3), .int 0, .int 0, .ref ks, .ref (qm 4), .int 0, .int 0, .ref (qm 5), .ref (qm 6), .ref (qm 7), .ref (qm 8), .ref (qm 9), .ref (qm 10), .ref (qm 11), .ref (qm 12), .ref (qm 13), .ref (qm 14), .int 0, .ref (qm 15), .ref (qm 16), .ref (qm 17), .ref (qm 18), .ref (qm 19), .ref (qm 20), .ref (qm 21), .int 0, .ref (qm 22), .ref (qm 23), .ref (qm 24), .int 0, .ref (qm 25), .ref (qm 26), .ref (qm 27), .ref (qm 28), .ref (qm 29), .ref (qm 30), .ref (qm 31), .ref (qm 32), .ref (qm 33), .ref (qm 34), .ref (qm 35), .ref (qm 36), .ref (qm 37), .ref (qm 38), .ref (qm 39), .int 0, .ref (qm 40), .ref (qm 41), .ref (qm 42), .ref (qm 43), .ref (qm 44), .ref (qm 45), .ref (qm 46), .ref (qm 47), .ref (qm 48), .int 0, .int 0, .int 0, .int 0, .int 0, .int 0, .int 0, .int 0, .int 0, .int 1, .ref (qm 49), .ref (qm 50), .int 0, .int 0, .ref (qm 51), .ref (qm 52), .ref (qm 53), .ref (qm 54), .ref (qm 55), .ref (qm 56), .ref (qm 57), .ref (qm 58), .ref (qm 59), .ref (qm 60), .ref (qm 61), .ref (qm 62), .ref (qm 63), .ref (qm 64), .ref (qm 65), .ref (qm 66), .ref (qm 67), .ref (qm 68), .ref (qm 69), .ref (qm 70), .ref (qm 71), .ref (qm 72), .ref (qm 73), .int 0, .int 0, .int 0, .int 0, .int 0, .ref (qm 74), .ref (qm 75), .int 0, .ref (qm 76), .ref (qm 77), .ref (qm 78), .ref (qm 79), .int 0, .ref (qm 80), .ref (qm 81), .ref (qm 82), .ref (qm 83), .ref (qm 84), .ref (qm 85), .ref (qm 86), .ref (qm 87), .int 0, .ref (qm 88), .int 0, .int 0, .int 0, .int 0, .int 0, .int 0, .int 0])), (qm 1, .inl (k_sort, 4002, .inl (fun _ => 0))), (qm 2, .inl (k_place, 4002, .inl (fun _ => 0)))] H := hP
  have hD : va_D A [(mo, .inr (12, [.int 0, .ref (qm 0), .int 0, .int 0, .ref (qm 1), .ref (qm 2), .ref (qm 3), .int 0, .int 0, .ref ks, .ref (qm 4), .int 0, .int 0, .ref (qm 5), .ref (qm 6), .ref (qm 7), .ref (qm 8), .ref (qm 9), .ref (qm 10), .ref (qm 11), .ref (qm 12), .ref (qm 13), .ref (qm 14), .int 0, .ref (qm 15), .ref (qm 16), .ref (qm 17), .ref (qm 18), .ref (qm 19), .ref (qm 20), .ref (qm 21), .int 0, .ref (qm 22), .ref (qm 23), .ref (qm 24), .int 0, .ref (qm 25), .ref (qm 26), .ref (qm 27), .ref (qm 28), .ref (qm 29), .ref (qm 30), .ref (qm 31), .ref (qm 32), .ref (qm 33), .ref (qm 34), .ref (qm 35), .ref (qm 36), .ref (qm 37), .ref (qm 38), .ref (qm 39), .int 0, .ref (qm 40), .ref (qm 41), .ref (qm 42), .ref (qm 43), .ref (qm 44), .ref (qm 45), .ref (qm 46), .ref (qm 47), .ref (qm 48), .int 0, .int 0, .int 0, .int 0, .int 0, .int 0, .int 0, .int 0, .int 0, .int 1, .ref (qm 49), .ref (qm 50), .int 0, .int 0, .ref (qm 51), .ref (qm 52), .ref (qm 53), .ref (qm 54), .ref (qm 55), .ref (qm 56), .ref (qm 57), .ref (qm 58), .ref (qm 59), .ref (qm 60), .ref (qm 61), .ref (qm 62), .ref (qm 63), .ref (qm 64), .ref (qm 65), .ref (qm 66), .ref (qm 67), .ref (qm 68), .ref (qm 69), .ref (qm 70), .ref (qm 71), .ref (qm 72), .ref (qm 73), .int 0, .int 0, .int 0, .int 0, .int 0, .ref (qm 74), .ref (qm 75), .int 0, .ref (qm 76), .ref (qm 77), .ref (qm 78), .ref (qm 79), .int 0, .ref (qm 80), .ref (qm 81), .ref (qm 82), .ref (qm 83), .ref (qm 84), .ref (qm 85), .ref (qm 86), .ref (qm 87), .int 0, .ref (qm 88), .int 0, .int 0, .int 0, .int 0, .int 0, .int 0, .int 0])), (qm 1, .inl (k_sort, 4002, .inl (fun _ => 0))), (qm 2, .inl (k_place, 4002, .inl (fun _ => 0)))] := hD
  have hK : va_K (dC, dI) vwCl [(kkd, .int), (kpl, .int), (kva, .long), (k_sort, .int), (k_place, .int)] s := hK
  obtain rfl := hw
  refine lv_aload_n hx hb dL_law_306 rfl (lv_at hl 2 rfl) ?_
  refine lv_aload_n hx hb dL_law_307 rfl (lv_at hl 4 rfl) ?_
  refine lv_iload hx hb dL_law_308 (lv_at hl 0 rfl) ?_
  refine lv_iconst (v := 1) hx hb dL_law_310 (by decide) ?_
  refine lv_iadd hx hb dL_law_311 ?_
  refine lv_topi (fun z4 ez4 => ?_)
  obtain rfl : z4 = 1 := ez4.trans (by decide)
  refine va_sld hx hb hX hbl hbA hS (px_in 1 7 (by decide +kernel)) dL_law_312 ?_
  refine lv_topi (fun z5 ez5 => ?_)
  replace ez5 : z5 = xs 1 := ez5
  obtain rfl : z5 = z2 := ez5.trans ez2.symm
  have hPc := hP.sub (ws' := [(mo, .inr (12, [.int 0, .ref (qm 0), .int 0, .int 0, .ref (qm 1), .ref (qm 2), .ref (qm 3), .int 0, .int 0, .ref ks, .ref (qm 4), .int 0, .int 0, .ref (qm 5), .ref (qm 6), .ref (qm 7), .ref (qm 8), .ref (qm 9), .ref (qm 10), .ref (qm 11), .ref (qm 12), .ref (qm 13), .ref (qm 14), .int 0, .ref (qm 15), .ref (qm 16), .ref (qm 17), .ref (qm 18), .ref (qm 19), .ref (qm 20), .ref (qm 21), .int 0, .ref (qm 22), .ref (qm 23), .ref (qm 24), .int 0, .ref (qm 25), .ref (qm 26), .ref (qm 27), .ref (qm 28), .ref (qm 29), .ref (qm 30), .ref (qm 31), .ref (qm 32), .ref (qm 33), .ref (qm 34), .ref (qm 35), .ref (qm 36), .ref (qm 37), .ref (qm 38), .ref (qm 39), .int 0, .ref (qm 40), .ref (qm 41), .ref (qm 42), .ref (qm 43), .ref (qm 44), .ref (qm 45), .ref (qm 46), .ref (qm 47), .ref (qm 48), .int 0, .int 0, .int 0, .int 0, .int 0, .int 0, .int 0, .int 0, .int 0, .int 1, .ref (qm 49), .ref (qm 50), .int 0, .int 0, .ref (qm 51), .ref (qm 52), .ref (qm 53), .ref (qm 54), .ref (qm 55), .ref (qm 56), .ref (qm 57), .ref (qm 58), .ref (qm 59), .ref (qm 60), .ref (qm 61), .ref (qm 62), .ref (qm 63), .ref (qm 64), .ref (qm 65), .ref (qm 66), .ref (qm 67), .ref (qm 68), .ref (qm 69), .ref (qm 70), .ref (qm 71), .ref (qm 72), .ref (qm 73), .int 0, .int 0, .int 0, .int 0, .int 0, .ref (qm 74), .ref (qm 75), .int 0, .ref (qm 76), .ref (qm 77), .ref (qm 78), .ref (qm 79), .int 0, .ref (qm 80), .ref (qm 81), .ref (qm 82), .ref (qm 83), .ref (qm 84), .ref (qm 85), .ref (qm 86), .ref (qm 87), .int 0, .ref (qm 88), .int 0, .int 0, .int 0, .int 0, .int 0, .int 0, .int 0])), (qm 1, .inl (k_sort, 4002, .inl (fun _ => 0))), (qm 2, .inl (k_place, 4002, .inl (fun _ => 0)))]) [0, 1, 2] rfl
  have hDc := hD.sub (ws' := [(mo, .inr (12, [.int 0, .ref (qm 0), .int 0, .int 0, .ref (qm 1), .ref (qm 2), .ref (qm 3), .int 0, .int 0, .ref ks, .ref (qm 4), .int 0, .int 0, .ref (qm 5), .ref (qm 6), .ref (qm 7), .ref (qm 8), .ref (qm 9), .ref (qm 10), .ref (qm 11), .ref (qm 12), .ref (qm 13), .ref (qm 14), .int 0, .ref (qm 15), .ref (qm 16), .ref (qm 17), .ref (qm 18), .ref (qm 19), .ref (qm 20), .ref (qm 21), .int 0, .ref (qm 22), .ref (qm 23), .ref (qm 24), .int 0, .ref (qm 25), .ref (qm 26), .ref (qm 27), .ref (qm 28), .ref (qm 29), .ref (qm 30), .ref (qm 31), .ref (qm 32), .ref (qm 33), .ref (qm 34), .ref (qm 35), .ref (qm 36), .ref (qm 37), .ref (qm 38), .ref (qm 39), .int 0, .ref (qm 40), .ref (qm 41), .ref (qm 42), .ref (qm 43), .ref (qm 44), .ref (qm 45), .ref (qm 46), .ref (qm 47), .ref (qm 48), .int 0, .int 0, .int 0, .int 0, .int 0, .int 0, .int 0, .int 0, .int 0, .int 1, .ref (qm 49), .ref (qm 50), .int 0, .int 0, .ref (qm 51), .ref (qm 52), .ref (qm 53), .ref (qm 54), .ref (qm 55), .ref (qm 56), .ref (qm 57), .ref (qm 58), .ref (qm 59), .ref (qm 60), .ref (qm 61), .ref (qm 62), .ref (qm 63), .ref (qm 64), .ref (qm 65), .ref (qm 66), .ref (qm 67), .ref (qm 68), .ref (qm 69), .ref (qm 70), .ref (qm 71), .ref (qm 72), .ref (qm 73), .int 0, .int 0, .int 0, .int 0, .int 0, .ref (qm 74), .ref (qm 75), .int 0, .ref (qm 76), .ref (qm 77), .ref (qm 78), .ref (qm 79), .int 0, .ref (qm 80), .ref (qm 81), .ref (qm 82), .ref (qm 83), .ref (qm 84), .ref (qm 85), .ref (qm 86), .ref (qm 87), .int 0, .ref (qm 88), .int 0, .int 0, .int 0, .int 0, .int 0, .int 0, .int 0])), (qm 1, .inl (k_sort, 4002, .inl (fun _ => 0))), (qm 2, .inl (k_place, 4002, .inl (fun _ => 0)))]) [0, 1, 2] (by decide) rfl
  have hKc := hK.sub (tys' := [(k_sort, .int), (k_place, .int)]) [3, 4] rfl
  have hFc := va_free (wc := [(mo, .inr (12, [.int 0, .ref (qm 0), .int 0, .int 0, .ref (qm 1), .ref (qm 2), .ref (qm 3), .int 0, .int 0, .ref ks, .ref (qm 4), .int 0, .int 0, .ref (qm 5), .ref (qm 6), .ref (qm 7), .ref (qm 8), .ref (qm 9), .ref (qm 10), .ref (qm 11), .ref (qm 12), .ref (qm 13), .ref (qm 14), .int 0, .ref (qm 15), .ref (qm 16), .ref (qm 17), .ref (qm 18), .ref (qm 19), .ref (qm 20), .ref (qm 21), .int 0, .ref (qm 22), .ref (qm 23), .ref (qm 24), .int 0, .ref (qm 25), .ref (qm 26), .ref (qm 27), .ref (qm 28), .ref (qm 29), .ref (qm 30), .ref (qm 31), .ref (qm 32), .ref (qm 33), .ref (qm 34), .ref (qm 35), .ref (qm 36), .ref (qm 37), .ref (qm 38), .ref (qm 39), .int 0, .ref (qm 40), .ref (qm 41), .ref (qm 42), .ref (qm 43), .ref (qm 44), .ref (qm 45), .ref (qm 46), .ref (qm 47), .ref (qm 48), .int 0, .int 0, .int 0, .int 0, .int 0, .int 0, .int 0, .int 0, .int 0, .int 1, .ref (qm 49), .ref (qm 50), .int 0, .int 0, .ref (qm 51), .ref (qm 52), .ref (qm 53), .ref (qm 54), .ref (qm 55), .ref (qm 56), .ref (qm 57), .ref (qm 58), .ref (qm 59), .ref (qm 60), .ref (qm 61), .ref (qm 62), .ref (qm 63), .ref (qm 64), .ref (qm 65), .ref (qm 66), .ref (qm 67), .ref (qm 68), .ref (qm 69), .ref (qm 70), .ref (qm 71), .ref (qm 72), .ref (qm 73), .int 0, .int 0, .int 0, .int 0, .int 0, .ref (qm 74), .ref (qm 75), .int 0, .ref (qm 76), .ref (qm 77), .ref (qm 78), .ref (qm 79), .int 0, .ref (qm 80), .ref (qm 81), .ref (qm 82), .ref (qm 83), .ref (qm 84), .ref (qm 85), .ref (qm 86), .ref (qm 87), .int 0, .ref (qm 88), .int 0, .int 0, .int 0, .int 0, .int 0, .int 0, .int 0])), (qm 1, .inl (k_sort, 4002, .inl (fun _ => 0))), (qm 2, .inl (k_place, 4002, .inl (fun _ => 0)))]) hD hS hA [0, 1, 2] rfl
  refine va_calli (va_runV (As := [.int z2]) (rest := [.int (-1)]) ⟨hx, hb, hml, hown, hts⟩ (ct_X12_named l dC dI mo qm ks k_sort k_place z2 H.size) (cwV 1 hts (gd_V wd_2195 wd_2196 wd_2197 wd_15 wd_2198) rfl rfl rfl (by decide +kernel) ⟨Nat.le_of_ble_eq_true rfl, Nat.le_of_ble_eq_true rfl⟩) ⟨fun a U g mk q => by obtain ⟨q0, q1, qP, qK, qD⟩ := q; exact ⟨q0, q1, qP, va_K.moved (u := U) (U := U.calling g mk a) (Vm.Alike.refl U.vm) qK, qD⟩, va_recv hKc hPc (ci := 12) (q0 := 0) rfl rfl, fun U hU hW => ⟨rfl, by rw [hU], by rw [hU]; exact hPc, va_K.moved hW.alike hKc, hDc.weaken (fun _ _ _ _ => trivial)⟩⟩ rfl rfl hl.1 rfl (lv_room (Nat.le_of_ble_eq_true rfl)) dL_law_313 ⟨Nat.le_of_ble_eq_true rfl, Nat.le_of_ble_eq_true rfl⟩) hS (fun q _ h => hFc q h) hFc (fun r6 u t H1 locs ht hvm hw hB hz1 hk1 hS => ?_)
  obtain ⟨hP1, hK1, hD1⟩ := hB
  rw [ht] at hP1
  have hK1 := va_K.moved hvm.symm hK1
  obtain ⟨hP, hD⟩ := va_join (wr := []) (w1 := []) hP hD [0, 1, 2] [] rfl rfl (by decide) (by decide) hk1 hFc hP1 hD1
  have hK := (hK.sub (tys' := [(kkd, .int), (kpl, .int), (kva, .long), (k_sort, .int), (k_place, .int)]) [0, 1, 2, 3, 4] rfl).app (hK1.sub (tys' := []) [] rfl)
  generalize H1 = H at hP hS ⊢
  have hP : va_P (dC, dI) vwCl [] H := hP
  have hD : va_D A [] := hD
  have hK : va_K (dC, dI) vwCl [(kkd, .int), (kpl, .int), (kva, .long), (k_sort, .int), (k_place, .int)] s := hK
  obtain rfl := hw
  refine lv_icmp_eq (tgt := 1031) hx hb dL_law_316 (by decide) (fun _ => ?_) (fun h => absurd (by decide) h)
  refine lv_iinc (v := 7) (lv' := [(4, .int 7), (3, .ref oq), (2, .ref mo), (1, .ref x), (0, .ref b)]) hx hb dL_law_1031 hl (k := 0) rfl (by decide) (by decide) rfl (fun ls hl => ?_)
  refine lv_goto (tgt := 23) hx hb dL_law_1034 (by decide) ?_
  refine lv_iload hx hb dL_law_23 (lv_at hl 0 rfl) ?_
  refine lv_aload_n hx hb dL_law_25 rfl (lv_at hl 4 rfl) ?_
  refine va_slen hx hb hX hbl hbA hS dL_law_26 ?_
  refine lv_topi (fun z7 ez7 => ?_)
  obtain rfl : z7 = 7 := ez7.trans (by decide)
  refine lv_bipush (v := 7) hx hb dL_law_27 (by decide) ?_
  refine lv_isub hx hb dL_law_29 ?_
  refine lv_topi (fun z8 ez8 => ?_)
  obtain rfl : z8 = 0 := ez8.trans (by decide)
  refine lv_icmp_gt (tgt := 1037) hx hb dL_law_30 (by decide) (fun _ => ?_) (fun h => absurd (by decide) h)
  refine lv_iconst (v := 1) hx hb dL_law_1037 (by decide) ?_
  refine va_forget (fun q hq => by have h9 := hS.2.2 q hq; rw [hAeq] at h9; exact h9) ?_
  refine W.widen (k := 600002) (n := 7302232) (Nat.le_of_ble_eq_true rfl) (Nat.le_of_ble_eq_true rfl) ?_
  exact lw_ret hx hb hr hlocks dL_law_1038
set_option maxHeartbeats 4000000 in
set_option maxRecDepth 100000 in
theorem lo_routine {p : Program} {l : Launch} {e : Env} {s : State} {m : MethodId} {below : List Frame} {meth : Method} {c : Code} {dC : Nat → ClassId} {dI : Nat → Nat → Nat} {b : Nat} {xs : Nat → Int32} {A : Nat → Prop} (hl9 : l.stackTraces = false) (C0 : lw_At p s m meth c b 7 xs) (hAeq : A = fun q : Nat => s.heap.size ≤ q) {ha : Nat} {k_routines : ClassId} {ks : Nat} {mo : Nat} {pa : Nat} {qm : Nat → Nat} {qt : Nat → Nat} {ru : Nat} {sp : Nat} {ta : Nat} {tk : Nat} {to : Nat} {ts : Nat} {x : Nat} {sa1 : Nat} {oq : Nat} {H : Heap} {locs : List Loc} {ls : Array Slot} (hK : va_K (dC, dI) vwCl [(k_routines, .int)] s) (hP : va_P (dC, dI) vwCl [(x, .inr (11, [.ref tk, .ref pa, .ref ta, .ref ha, .ref ru, .ref to, .ref sp])), (to, .inr (5, [.int 0, .ref (qt 0), .ref (qt 1), .ref (qt 2), .ref ts, .int 0, .ref (qt 3), .ref (qt 4), .ref (qt 5), .ref (qt 6), .ref (qt 7), .ref (qt 8), .ref (qt 9), .ref (qt 10)])), (mo, .inr (12, [.int 0, .ref (qm 0), .int 0, .int 0, .ref (qm 1), .ref (qm 2), .ref (qm 3), .int 0, .int 0, .ref ks, .ref (qm 4), .int 0, .int 0, .ref (qm 5), .ref (qm 6), .ref (qm 7), .ref (qm 8), .ref (qm 9), .ref (qm 10), .ref (qm 11), .ref (qm 12), .ref (qm 13), .ref (qm 14), .int 0, .ref (qm 15), .ref (qm 16), .ref (qm 17), .ref (qm 18), .ref (qm 19), .ref (qm 20), .ref (qm 21), .int 0, .ref (qm 22), .ref (qm 23), .ref (qm 24), .int 0, .ref (qm 25), .ref (qm 26), .ref (qm 27), .ref (qm 28), .ref (qm 29), .ref (qm 30), .ref (qm 31), .ref (qm 32), .ref (qm 33), .ref (qm 34), .ref (qm 35), .ref (qm 36), .ref (qm 37), .ref (qm 38), .ref (qm 39), .int 0, .ref (qm 40), .ref (qm 41), .ref (qm 42), .ref (qm 43), .ref (qm 44), .ref (qm 45), .ref (qm 46), .ref (qm 47), .ref (qm 48), .int 0, .int 0, .int 0, .int 0, .int 0, .int 0, .int 0, .int 0, .int 0, .int 1, .ref (qm 49), .ref (qm 50), .int 0, .int 0, .ref (qm 51), .ref (qm 52), .ref (qm 53), .ref (qm 54), .ref (qm 55), .ref (qm 56), .ref (qm 57), .ref (qm 58), .ref (qm 59), .ref (qm 60), .ref (qm 61), .ref (qm 62), .ref (qm 63), .ref (qm 64), .ref (qm 65), .ref (qm 66), .ref (qm 67), .ref (qm 68), .ref (qm 69), .ref (qm 70), .ref (qm 71), .ref (qm 72), .ref (qm 73), .int 0, .int 0, .int 0, .int 0, .int 0, .ref (qm 74), .ref (qm 75), .int 0, .ref (qm 76), .ref (qm 77), .ref (qm 78), .ref (qm 79), .int 0, .ref (qm 80), .ref (qm 81), .ref (qm 82), .ref (qm 83), .ref (qm 84), .ref (qm 85), .ref (qm 86), .ref (qm 87), .int 0, .ref (qm 88), .int 0, .int 0, .int 0, .int 0, .int 0, .int 0, .int 0])), (qm 5, .inl (k_routines, 2, .inl (fun _ => 0)))] H) (hD : va_D A [(x, .inr (11, [.ref tk, .ref pa, .ref ta, .ref ha, .ref ru, .ref to, .ref sp])), (to, .inr (5, [.int 0, .ref (qt 0), .ref (qt 1), .ref (qt 2), .ref ts, .int 0, .ref (qt 3), .ref (qt 4), .ref (qt 5), .ref (qt 6), .ref (qt 7), .ref (qt 8), .ref (qt 9), .ref (qt 10)])), (mo, .inr (12, [.int 0, .ref (qm 0), .int 0, .int 0, .ref (qm 1), .ref (qm 2), .ref (qm 3), .int 0, .int 0, .ref ks, .ref (qm 4), .int 0, .int 0, .ref (qm 5), .ref (qm 6), .ref (qm 7), .ref (qm 8), .ref (qm 9), .ref (qm 10), .ref (qm 11), .ref (qm 12), .ref (qm 13), .ref (qm 14), .int 0, .ref (qm 15), .ref (qm 16), .ref (qm 17), .ref (qm 18), .ref (qm 19), .ref (qm 20), .ref (qm 21), .int 0, .ref (qm 22), .ref (qm 23), .ref (qm 24), .int 0, .ref (qm 25), .ref (qm 26), .ref (qm 27), .ref (qm 28), .ref (qm 29), .ref (qm 30), .ref (qm 31), .ref (qm 32), .ref (qm 33), .ref (qm 34), .ref (qm 35), .ref (qm 36), .ref (qm 37), .ref (qm 38), .ref (qm 39), .int 0, .ref (qm 40), .ref (qm 41), .ref (qm 42), .ref (qm 43), .ref (qm 44), .ref (qm 45), .ref (qm 46), .ref (qm 47), .ref (qm 48), .int 0, .int 0, .int 0, .int 0, .int 0, .int 0, .int 0, .int 0, .int 0, .int 1, .ref (qm 49), .ref (qm 50), .int 0, .int 0, .ref (qm 51), .ref (qm 52), .ref (qm 53), .ref (qm 54), .ref (qm 55), .ref (qm 56), .ref (qm 57), .ref (qm 58), .ref (qm 59), .ref (qm 60), .ref (qm 61), .ref (qm 62), .ref (qm 63), .ref (qm 64), .ref (qm 65), .ref (qm 66), .ref (qm 67), .ref (qm 68), .ref (qm 69), .ref (qm 70), .ref (qm 71), .ref (qm 72), .ref (qm 73), .int 0, .int 0, .int 0, .int 0, .int 0, .ref (qm 74), .ref (qm 75), .int 0, .ref (qm 76), .ref (qm 77), .ref (qm 78), .ref (qm 79), .int 0, .ref (qm 80), .ref (qm 81), .ref (qm 82), .ref (qm 83), .ref (qm 84), .ref (qm 85), .ref (qm 86), .ref (qm 87), .int 0, .ref (qm 88), .int 0, .int 0, .int 0, .int 0, .int 0, .int 0, .int 0])), (qm 5, .inl (k_routines, 2, .inl (fun _ => 0)))]) (hS : va_S A s.heap H locs) (hz0 : vk_R RX11 103 "no such routine" sa1 s) (hz1 : va_Nw (.declares ⟨"java/lang/RuntimeException", "<init>", "(Ljava/lang/String;)V"⟩) s) (hz2 : va_Nw (.declares ⟨"java/lang/Exception", "<init>", "(Ljava/lang/String;)V"⟩) s) (hz3 : va_Nw (.declares ⟨"java/lang/Throwable", "<init>", "(Ljava/lang/String;)V"⟩) s) (hz4 : va_Nw (.castable "java/util/NoSuchElementException" "java/util/NoSuchElementException") s) (hz5 : vx_Zq Bundle.tN "UNASSIGNED_STACK" Bundle.steD A s s.heap) (hz6 : vx_Zq Bundle.tN "SUPPRESSED_SENTINEL" Bundle.listD A s s.heap) (hl : lv_has ls 7 [(4, .int 0), (3, .ref oq), (2, .ref mo), (1, .ref x), (0, .ref b)]) : W p l e room_1 s m #[Value.ref b] below meth c H locs 176 1222853 (lw_Z below #[Value.ref b] s) (F0 m 321 ls []) := by
  obtain ⟨hx, hb, hr, hml, hown, hts0, hX, hbl, hlocks, hgv⟩ := C0
  have hts : ∀ w ∈ tb, w.before _ s = true := fun w h => hts0 w (List.mem_filter.mp h).1
  have hA : ∀ q : Nat, s.heap.size ≤ q → A q := by rw [hAeq]; exact fun _ h => h
  have hbA : ¬ A b := by rw [hAeq]; exact Nat.not_le.mpr hbl
  refine lv_aload_n hx hb dL_law_321 rfl (lv_at hl 3 rfl) ?_
  refine lv_aload_n hx hb dL_law_322 rfl (lv_at hl 4 rfl) ?_
  refine lv_iload hx hb dL_law_323 (lv_at hl 0 rfl) ?_
  refine lv_iconst (v := 1) hx hb dL_law_325 (by decide) ?_
  refine lv_iadd hx hb dL_law_326 ?_
  refine lv_topi (fun z1 ez1 => ?_)
  obtain rfl : z1 = 1 := ez1.trans (by decide)
  refine va_sld hx hb hX hbl hbA hS (px_in 1 7 (by decide +kernel)) dL_law_327 ?_
  refine lv_topi (fun z2 ez2 => ?_)
  replace ez2 : z2 = xs 1 := ez2
  refine lv_aload_n hx hb dL_law_328 rfl (lv_at hl 4 rfl) ?_
  refine lv_iload hx hb dL_law_329 (lv_at hl 0 rfl) ?_
  refine lv_iconst (v := 2) hx hb dL_law_331 (by decide) ?_
  refine lv_iadd hx hb dL_law_332 ?_
  refine lv_topi (fun z3 ez3 => ?_)
  obtain rfl : z3 = 2 := ez3.trans (by decide)
  refine va_sld hx hb hX hbl hbA hS (px_in 2 7 (by decide +kernel)) dL_law_333 ?_
  refine lv_topi (fun z4 ez4 => ?_)
  replace ez4 : z4 = xs 2 := ez4
  refine lv_aload_n hx hb dL_law_334 rfl (lv_at hl 1 rfl) ?_
  have hPc := hP.sub (ws' := [(x, .inr (11, [.ref tk, .ref pa, .ref ta, .ref ha, .ref ru, .ref to, .ref sp])), (to, .inr (5, [.int 0, .ref (qt 0), .ref (qt 1), .ref (qt 2), .ref ts, .int 0, .ref (qt 3), .ref (qt 4), .ref (qt 5), .ref (qt 6), .ref (qt 7), .ref (qt 8), .ref (qt 9), .ref (qt 10)]))]) [0, 1] rfl
  have hDc := hD.sub (ws' := [(x, .inr (11, [.ref tk, .ref pa, .ref ta, .ref ha, .ref ru, .ref to, .ref sp])), (to, .inr (5, [.int 0, .ref (qt 0), .ref (qt 1), .ref (qt 2), .ref ts, .int 0, .ref (qt 3), .ref (qt 4), .ref (qt 5), .ref (qt 6), .ref (qt 7), .ref (qt 8), .ref (qt 9), .ref (qt 10)]))]) [0, 1] (by decide) rfl
  have hKc := hK.sub (tys' := []) [] rfl
  have hFc := va_free (wc := [(x, .inr (11, [.ref tk, .ref pa, .ref ta, .ref ha, .ref ru, .ref to, .ref sp])), (to, .inr (5, [.int 0, .ref (qt 0), .ref (qt 1), .ref (qt 2), .ref ts, .int 0, .ref (qt 3), .ref (qt 4), .ref (qt 5), .ref (qt 6), .ref (qt 7), .ref (qt 8), .ref (qt 9), .ref (qt 10)]))]) hD hS hA [0, 1] rfl
  refine va_calli (vx_runSW (As := [.ref x, .int z2, .int z4, .ref oq]) (rest := []) ⟨hx, hb, hml, hown, hts⟩ (ct_L_routine l hl9 dC dI x tk pa ta ha ru to sp qt ts sa1 z2 z4 oq H.size) (vx_cwSW 4 hts (gd_S2 wd_1280 wd_1281 wd_0 wd_1282) rfl rfl rfl (by decide +kernel) ⟨Nat.le_of_ble_eq_true rfl, Nat.le_of_ble_eq_true rfl⟩) ⟨fun a U g mk q => by obtain ⟨q0, q1, qP, qK, qD, qZ0, qZ1, qZ2, qZ3, qZ4, qZ5, qZ6⟩ := q; exact ⟨q0, q1, qP, va_K.moved (u := U) (U := U.calling g mk a) (Vm.Alike.refl U.vm) qK, qD, vk_R.same (u := U) rfl qZ0, va_Nw.same (u := U) rfl rfl qZ1, va_Nw.same (u := U) rfl rfl qZ2, va_Nw.same (u := U) rfl rfl qZ3, va_Nw.same (u := U) rfl rfl qZ4, vx_Zq.moved (u := U) (U := U.calling g mk a) (Vm.Alike.refl U.vm) qZ5, vx_Zq.moved (u := U) (U := U.calling g mk a) (Vm.Alike.refl U.vm) qZ6⟩, fun U hU hW => ⟨rfl, by rw [hU], by rw [hU]; exact hPc, va_K.moved hW.alike hKc, hDc.weaken (fun _ _ _ _ => trivial), vk_R.warm hW hz0, va_Nw.warmD hW hz1, va_Nw.warmD hW hz2, va_Nw.warmD hW hz3, va_Nw.warmC hW hz4, (by rw [hU]; exact vx_Zq.moved hW.alike (vx_Zq.narrow (vx_Zq.kept hz5 hS.2.1) hFc)), (by rw [hU]; exact vx_Zq.moved hW.alike (vx_Zq.narrow (vx_Zq.kept hz6 hS.2.1) hFc))⟩⟩ rfl rfl hl.1 rfl (lv_room (Nat.le_of_ble_eq_true rfl)) dL_law_335 ⟨Nat.le_of_ble_eq_true rfl, Nat.le_of_ble_eq_true rfl⟩) hS (fun q _ h => hFc q h) hFc (fun r5 u t H1 locs ht hvm hw hB hz1 hk1 hS => ?_)
  obtain ⟨hP1, hK1, hD1⟩ := hB
  rw [ht] at hP1
  have hK1 := va_K.moved hvm.symm hK1
  obtain ⟨hP, hD⟩ := va_join (wr := [(mo, .inr (12, [.int 0, .ref (qm 0), .int 0, .int 0, .ref (qm 1), .ref (qm 2), .ref (qm 3), .int 0, .int 0, .ref ks, .ref (qm 4), .int 0, .int 0, .ref (qm 5), .ref (qm 6), .ref (qm 7), .ref (qm 8), .ref (qm 9), .ref (qm 10), .ref (qm 11), .ref (qm 12), .ref (qm 13), .ref (qm 14), .int 0, .ref (qm 15), .ref (qm 16), .ref (qm 17), .ref (qm 18), .ref (qm 19), .ref (qm 20), .ref (qm 21), .int 0, .ref (qm 22), .ref (qm 23), .ref (qm 24), .int 0, .ref (qm 25), .ref (qm 26), .ref (qm 27), .ref (qm 28), .ref (qm 29), .ref (qm 30), .ref (qm 31), .ref (qm 32), .ref (qm 33), .ref (qm 34), .ref (qm 35), .ref (qm 36), .ref (qm 37), .ref (qm 38), .ref (qm 39), .int 0, .ref (qm 40), .ref (qm 41), .ref (qm 42), .ref (qm 43), .ref (qm 44), .ref (qm 45), .ref (qm 46), .ref (qm 47), .ref (qm 48), .int 0, .int 0, .int 0, .int 0, .int 0, .int 0, .int 0, .int 0, .int 0, .int 1, .ref (qm 49), .ref (qm 50), .int 0, .int 0, .ref (qm 51), .ref (qm 52), .ref (qm 53), .ref (qm 54), .ref (qm 55), .ref (qm 56), .ref (qm 57), .ref (qm 58), .ref (qm 59), .ref (qm 60), .ref (qm 61), .ref (qm 62), .ref (qm 63), .ref (qm 64), .ref (qm 65), .ref (qm 66), .ref (qm 67), .ref (qm 68), .ref (qm 69), .ref (qm 70), .ref (qm 71), .ref (qm 72), .ref (qm 73), .int 0, .int 0, .int 0, .int 0, .int 0, .ref (qm 74), .ref (qm 75), .int 0, .ref (qm 76), .ref (qm 77), .ref (qm 78), .ref (qm 79), .int 0, .ref (qm 80), .ref (qm 81), .ref (qm 82), .ref (qm 83), .ref (qm 84), .ref (qm 85), .ref (qm 86), .ref (qm 87), .int 0, .ref (qm 88), .int 0, .int 0, .int 0, .int 0, .int 0, .int 0, .int 0])), (qm 5, .inl (k_routines, 2, .inl (fun _ => 0)))]) (w1 := []) hP hD [0, 1] [2, 3] rfl rfl (by decide) (by decide) hk1 hFc hP1 hD1
  have hK := (hK.sub (tys' := [(k_routines, .int)]) [0] rfl).app (hK1.sub (tys' := []) [] rfl)
  generalize H1 = H at hP hS ⊢
  have hP : va_P (dC, dI) vwCl [(mo, .inr (12, [.int 0, .ref (qm 0), .int 0, .int 0, .ref (qm 1), .ref (qm 2), .ref (qm 3), .int 0, .int 0, .ref ks, .ref (qm 4), .int 0, .int 0, .ref (qm 5), .ref (qm 6), .ref (qm 7), .ref (qm 8), .ref (qm 9), .ref (qm 10), .ref (qm 11), .ref (qm 12), .ref (qm 13), .ref (qm 14), .int 0, .ref (qm 15), .ref (qm 16), .ref (qm 17), .ref (qm 18), .ref (qm 19), .ref (qm 20), .ref (qm 21), .int 0, .ref (qm 22), .ref (qm 23), .ref (qm 24), .int 0, .ref (qm 25), .ref (qm 26), .ref (qm 27), .ref (qm 28), .ref (qm 29), .ref (qm 30), .ref (qm 31), .ref (qm 32), .ref (qm 33), .ref (qm 34), .ref (qm 35), .ref (qm 36), .ref (qm 37), .ref (qm 38), .ref (qm 39), .int 0, .ref (qm 40), .ref (qm 41), .ref (qm 42), .ref (qm 43), .ref (qm 44), .ref (qm 45), .ref (qm 46), .ref (qm 47), .ref (qm 48), .int 0, .int 0, .int 0, .int 0, .int 0, .int 0, .int 0, .int 0, .int 0, .int 1, .ref (qm 49), .ref (qm 50), .int 0, .int 0, .ref (qm 51), .ref (qm 52), .ref (qm 53), .ref (qm 54), .ref (qm 55), .ref (qm 56), .ref (qm 57), .ref (qm 58), .ref (qm 59), .ref (qm 60), .ref (qm 61), .ref (qm 62), .ref (qm 63), .ref (qm 64), .ref (qm 65), .ref (qm 66), .ref (qm 67), .ref (qm 68), .ref (qm 69), .ref (qm 70), .ref (qm 71), .ref (qm 72), .ref (qm 73), .int 0, .int 0, .int 0, .int 0, .int 0, .ref (qm 74), .ref (qm 75), .int 0, .ref (qm 76), .ref (qm 77), .ref (qm 78), .ref (qm 79), .int 0, .ref (qm 80), .ref (qm 81), .ref (qm 82), .ref (qm 83), .ref (qm 84), .ref (qm 85), .ref (qm 86), .ref (qm 87), .int 0, .ref (qm 88), .int 0, .int 0, .int 0, .int 0, .int 0, .int 0, .int 0])), (qm 5, .inl (k_routines, 2, .inl (fun _ => 0)))] H := hP
  have hD : va_D A [(mo, .inr (12, [.int 0, .ref (qm 0), .int 0, .int 0, .ref (qm 1), .ref (qm 2), .ref (qm 3), .int 0, .int 0, .ref ks, .ref (qm 4), .int 0, .int 0, .ref (qm 5), .ref (qm 6), .ref (qm 7), .ref (qm 8), .ref (qm 9), .ref (qm 10), .ref (qm 11), .ref (qm 12), .ref (qm 13), .ref (qm 14), .int 0, .ref (qm 15), .ref (qm 16), .ref (qm 17), .ref (qm 18), .ref (qm 19), .ref (qm 20), .ref (qm 21), .int 0, .ref (qm 22), .ref (qm 23), .ref (qm 24), .int 0, .ref (qm 25), .ref (qm 26), .ref (qm 27), .ref (qm 28), .ref (qm 29), .ref (qm 30), .ref (qm 31), .ref (qm 32), .ref (qm 33), .ref (qm 34), .ref (qm 35), .ref (qm 36), .ref (qm 37), .ref (qm 38), .ref (qm 39), .int 0, .ref (qm 40), .ref (qm 41), .ref (qm 42), .ref (qm 43), .ref (qm 44), .ref (qm 45), .ref (qm 46), .ref (qm 47), .ref (qm 48), .int 0, .int 0, .int 0, .int 0, .int 0, .int 0, .int 0, .int 0, .int 0, .int 1, .ref (qm 49), .ref (qm 50), .int 0, .int 0, .ref (qm 51), .ref (qm 52), .ref (qm 53), .ref (qm 54), .ref (qm 55), .ref (qm 56), .ref (qm 57), .ref (qm 58), .ref (qm 59), .ref (qm 60), .ref (qm 61), .ref (qm 62), .ref (qm 63), .ref (qm 64), .ref (qm 65), .ref (qm 66), .ref (qm 67), .ref (qm 68), .ref (qm 69), .ref (qm 70), .ref (qm 71), .ref (qm 72), .ref (qm 73), .int 0, .int 0, .int 0, .int 0, .int 0, .ref (qm 74), .ref (qm 75), .int 0, .ref (qm 76), .ref (qm 77), .ref (qm 78), .ref (qm 79), .int 0, .ref (qm 80), .ref (qm 81), .ref (qm 82), .ref (qm 83), .ref (qm 84), .ref (qm 85), .ref (qm 86), .ref (qm 87), .int 0, .ref (qm 88), .int 0, .int 0, .int 0, .int 0, .int 0, .int 0, .int 0])), (qm 5, .inl (k_routines, 2, .inl (fun _ => 0)))] := hD
  have hK : va_K (dC, dI) vwCl [(k_routines, .int)] s := hK
  refine W.widen (k := 177) (n := 1222859) (Nat.le_of_ble_eq_true rfl) (Nat.le_of_ble_eq_true rfl) ?_
  obtain rfl := hw
  refine lv_istore (lv' := [(5, .int 1), (4, .int 0), (3, .ref oq), (2, .ref mo), (1, .ref x), (0, .ref b)]) hx hb dL_law_338 hl (by decide) rfl (fun ls hl => ?_)
  refine lv_aload_n hx hb dL_law_340 rfl (lv_at hl 3 rfl) ?_
  refine lv_aload_n hx hb dL_law_341 rfl (lv_at hl 5 rfl) ?_
  refine lv_iload hx hb dL_law_342 (lv_at hl 1 rfl) ?_
  refine lv_iconst (v := 1) hx hb dL_law_344 (by decide) ?_
  refine lv_iadd hx hb dL_law_345 ?_
  refine lv_topi (fun z6 ez6 => ?_)
  obtain rfl : z6 = 1 := ez6.trans (by decide)
  refine va_sld hx hb hX hbl hbA hS (px_in 1 7 (by decide +kernel)) dL_law_346 ?_
  refine lv_topi (fun z7 ez7 => ?_)
  replace ez7 : z7 = xs 1 := ez7
  obtain rfl : z7 = z2 := ez7.trans ez2.symm
  refine lv_aload_n hx hb dL_law_347 rfl (lv_at hl 5 rfl) ?_
  refine lv_iload hx hb dL_law_348 (lv_at hl 1 rfl) ?_
  refine lv_iconst (v := 2) hx hb dL_law_350 (by decide) ?_
  refine lv_iadd hx hb dL_law_351 ?_
  refine lv_topi (fun z8 ez8 => ?_)
  obtain rfl : z8 = 2 := ez8.trans (by decide)
  refine va_sld hx hb hX hbl hbA hS (px_in 2 7 (by decide +kernel)) dL_law_352 ?_
  refine lv_topi (fun z9 ez9 => ?_)
  replace ez9 : z9 = xs 2 := ez9
  obtain rfl : z9 = z4 := ez9.trans ez4.symm
  have hPc := hP.sub (ws' := [(mo, .inr (12, [.int 0, .ref (qm 0), .int 0, .int 0, .ref (qm 1), .ref (qm 2), .ref (qm 3), .int 0, .int 0, .ref ks, .ref (qm 4), .int 0, .int 0, .ref (qm 5), .ref (qm 6), .ref (qm 7), .ref (qm 8), .ref (qm 9), .ref (qm 10), .ref (qm 11), .ref (qm 12), .ref (qm 13), .ref (qm 14), .int 0, .ref (qm 15), .ref (qm 16), .ref (qm 17), .ref (qm 18), .ref (qm 19), .ref (qm 20), .ref (qm 21), .int 0, .ref (qm 22), .ref (qm 23), .ref (qm 24), .int 0, .ref (qm 25), .ref (qm 26), .ref (qm 27), .ref (qm 28), .ref (qm 29), .ref (qm 30), .ref (qm 31), .ref (qm 32), .ref (qm 33), .ref (qm 34), .ref (qm 35), .ref (qm 36), .ref (qm 37), .ref (qm 38), .ref (qm 39), .int 0, .ref (qm 40), .ref (qm 41), .ref (qm 42), .ref (qm 43), .ref (qm 44), .ref (qm 45), .ref (qm 46), .ref (qm 47), .ref (qm 48), .int 0, .int 0, .int 0, .int 0, .int 0, .int 0, .int 0, .int 0, .int 0, .int 1, .ref (qm 49), .ref (qm 50), .int 0, .int 0, .ref (qm 51), .ref (qm 52), .ref (qm 53), .ref (qm 54), .ref (qm 55), .ref (qm 56), .ref (qm 57), .ref (qm 58), .ref (qm 59), .ref (qm 60), .ref (qm 61), .ref (qm 62), .ref (qm 63), .ref (qm 64), .ref (qm 65), .ref (qm 66), .ref (qm 67), .ref (qm 68), .ref (qm 69), .ref (qm 70), .ref (qm 71), .ref (qm 72), .ref (qm 73), .int 0, .int 0, .int 0, .int 0, .int 0, .ref (qm 74), .ref (qm 75), .int 0, .ref (qm 76), .ref (qm 77), .ref (qm 78), .ref (qm 79), .int 0, .ref (qm 80), .ref (qm 81), .ref (qm 82), .ref (qm 83), .ref (qm 84), .ref (qm 85), .ref (qm 86), .ref (qm 87), .int 0, .ref (qm 88), .int 0, .int 0, .int 0, .int 0, .int 0, .int 0, .int 0])), (qm 5, .inl (k_routines, 2, .inl (fun _ => 0)))]) [0, 1] rfl
  have hDc := hD.sub (ws' := [(mo, .inr (12, [.int 0, .ref (qm 0), .int 0, .int 0, .ref (qm 1), .ref (qm 2), .ref (qm 3), .int 0, .int 0, .ref ks, .ref (qm 4), .int 0, .int 0, .ref (qm 5), .ref (qm 6), .ref (qm 7), .ref (qm 8), .ref (qm 9), .ref (qm 10), .ref (qm 11), .ref (qm 12), .ref (qm 13), .ref (qm 14), .int 0, .ref (qm 15), .ref (qm 16), .ref (qm 17), .ref (qm 18), .ref (qm 19), .ref (qm 20), .ref (qm 21), .int 0, .ref (qm 22), .ref (qm 23), .ref (qm 24), .int 0, .ref (qm 25), .ref (qm 26), .ref (qm 27), .ref (qm 28), .ref (qm 29), .ref (qm 30), .ref (qm 31), .ref (qm 32), .ref (qm 33), .ref (qm 34), .ref (qm 35), .ref (qm 36), .ref (qm 37), .ref (qm 38), .ref (qm 39), .int 0, .ref (qm 40), .ref (qm 41), .ref (qm 42), .ref (qm 43), .ref (qm 44), .ref (qm 45), .ref (qm 46), .ref (qm 47), .ref (qm 48), .int 0, .int 0, .int 0, .int 0, .int 0, .int 0, .int 0, .int 0, .int 0, .int 1, .ref (qm 49), .ref (qm 50), .int 0, .int 0, .ref (qm 51), .ref (qm 52), .ref (qm 53), .ref (qm 54), .ref (qm 55), .ref (qm 56), .ref (qm 57), .ref (qm 58), .ref (qm 59), .ref (qm 60), .ref (qm 61), .ref (qm 62), .ref (qm 63), .ref (qm 64), .ref (qm 65), .ref (qm 66), .ref (qm 67), .ref (qm 68), .ref (qm 69), .ref (qm 70), .ref (qm 71), .ref (qm 72), .ref (qm 73), .int 0, .int 0, .int 0, .int 0, .int 0, .ref (qm 74), .ref (qm 75), .int 0, .ref (qm 76), .ref (qm 77), .ref (qm 78), .ref (qm 79), .int 0, .ref (qm 80), .ref (qm 81), .ref (qm 82), .ref (qm 83), .ref (qm 84), .ref (qm 85), .ref (qm 86), .ref (qm 87), .int 0, .ref (qm 88), .int 0, .int 0, .int 0, .int 0, .int 0, .int 0, .int 0])), (qm 5, .inl (k_routines, 2, .inl (fun _ => 0)))]) [0, 1] (by decide) rfl
  have hKc := hK.sub (tys' := [(k_routines, .int)]) [0] rfl
  have hFc := va_free (wc := [(mo, .inr (12, [.int 0, .ref (qm 0), .int 0, .int 0, .ref (qm 1), .ref (qm 2), .ref (qm 3), .int 0, .int 0, .ref ks, .ref (qm 4), .int 0, .int 0, .ref (qm 5), .ref (qm 6), .ref (qm 7), .ref (qm 8), .ref (qm 9), .ref (qm 10), .ref (qm 11), .ref (qm 12), .ref (qm 13), .ref (qm 14), .int 0, .ref (qm 15), .ref (qm 16), .ref (qm 17), .ref (qm 18), .ref (qm 19), .ref (qm 20), .ref (qm 21), .int 0, .ref (qm 22), .ref (qm 23), .ref (qm 24), .int 0, .ref (qm 25), .ref (qm 26), .ref (qm 27), .ref (qm 28), .ref (qm 29), .ref (qm 30), .ref (qm 31), .ref (qm 32), .ref (qm 33), .ref (qm 34), .ref (qm 35), .ref (qm 36), .ref (qm 37), .ref (qm 38), .ref (qm 39), .int 0, .ref (qm 40), .ref (qm 41), .ref (qm 42), .ref (qm 43), .ref (qm 44), .ref (qm 45), .ref (qm 46), .ref (qm 47), .ref (qm 48), .int 0, .int 0, .int 0, .int 0, .int 0, .int 0, .int 0, .int 0, .int 0, .int 1, .ref (qm 49), .ref (qm 50), .int 0, .int 0, .ref (qm 51), .ref (qm 52), .ref (qm 53), .ref (qm 54), .ref (qm 55), .ref (qm 56), .ref (qm 57), .ref (qm 58), .ref (qm 59), .ref (qm 60), .ref (qm 61), .ref (qm 62), .ref (qm 63), .ref (qm 64), .ref (qm 65), .ref (qm 66), .ref (qm 67), .ref (qm 68), .ref (qm 69), .ref (qm 70), .ref (qm 71), .ref (qm 72), .ref (qm 73), .int 0, .int 0, .int 0, .int 0, .int 0, .ref (qm 74), .ref (qm 75), .int 0, .ref (qm 76), .ref (qm 77), .ref (qm 78), .ref (qm 79), .int 0, .ref (qm 80), .ref (qm 81), .ref (qm 82), .ref (qm 83), .ref (qm 84), .ref (qm 85), .ref (qm 86), .ref (qm 87), .int 0, .ref (qm 88), .int 0, .int 0, .int 0, .int 0, .int 0, .int 0, .int 0])), (qm 5, .inl (k_routines, 2, .inl (fun _ => 0)))]) hD hS hA [0, 1] rfl
  refine va_calli (va_runV (As := [.int z2, .int z4]) (rest := []) ⟨hx, hb, hml, hown, hts⟩ (ct_X12_routine l dC dI mo qm ks k_routines z2 z4 H.size) (cwV 2 hts (gd_V wd_2199 wd_2200 wd_2201 wd_15 wd_2202) rfl rfl rfl (by decide +kernel) ⟨Nat.le_of_ble_eq_true rfl, Nat.le_of_ble_eq_true rfl⟩) ⟨fun a U g mk q => by obtain ⟨q0, q1, qP, qK, qD⟩ := q; exact ⟨q0, q1, qP, va_K.moved (u := U) (U := U.calling g mk a) (Vm.Alike.refl U.vm) qK, qD⟩, va_recv hKc hPc (ci := 12) (q0 := 0) rfl rfl, fun U hU hW => ⟨rfl, by rw [hU], by rw [hU]; exact hPc, va_K.moved hW.alike hKc, hDc.weaken (fun _ _ _ _ => trivial)⟩⟩ rfl rfl hl.1 rfl (lv_room (Nat.le_of_ble_eq_true rfl)) dL_law_353 ⟨Nat.le_of_ble_eq_true rfl, Nat.le_of_ble_eq_true rfl⟩) hS (fun q _ h => hFc q h) hFc (fun r10 u t H1 locs ht hvm hw hB hz1 hk1 hS => ?_)
  obtain ⟨hP1, hK1, hD1⟩ := hB
  rw [ht] at hP1
  have hK1 := va_K.moved hvm.symm hK1
  obtain ⟨hP, hD⟩ := va_join (wr := []) (w1 := [(mo, .inr (12, [.int 1, .ref (qm 0), .int 0, .int 0, .ref (qm 1), .ref (qm 2), .ref (qm 3), .int 0, .int 0, .ref ks, .ref (qm 4), .int 0, .int 0, .ref (qm 5), .ref (qm 6), .ref (qm 7), .ref (qm 8), .ref (qm 9), .ref (qm 10), .ref (qm 11), .ref (qm 12), .ref (qm 13), .ref (qm 14), .int 0, .ref (qm 15), .ref (qm 16), .ref (qm 17), .ref (qm 18), .ref (qm 19), .ref (qm 20), .ref (qm 21), .int 0, .ref (qm 22), .ref (qm 23), .ref (qm 24), .int 0, .ref (qm 25), .ref (qm 26), .ref (qm 27), .ref (qm 28), .ref (qm 29), .ref (qm 30), .ref (qm 31), .ref (qm 32), .ref (qm 33), .ref (qm 34), .ref (qm 35), .ref (qm 36), .ref (qm 37), .ref (qm 38), .ref (qm 39), .int 0, .ref (qm 40), .ref (qm 41), .ref (qm 42), .ref (qm 43), .ref (qm 44), .ref (qm 45), .ref (qm 46), .ref (qm 47), .ref (qm 48), .int 0, .int 0, .int 0, .int 0, .int 0, .int 0, .int 0, .int 0, .int 0, .int 1, .ref (qm 49), .ref (qm 50), .int 0, .int 0, .ref (qm 51), .ref (qm 52), .ref (qm 53), .ref (qm 54), .ref (qm 55), .ref (qm 56), .ref (qm 57), .ref (qm 58), .ref (qm 59), .ref (qm 60), .ref (qm 61), .ref (qm 62), .ref (qm 63), .ref (qm 64), .ref (qm 65), .ref (qm 66), .ref (qm 67), .ref (qm 68), .ref (qm 69), .ref (qm 70), .ref (qm 71), .ref (qm 72), .ref (qm 73), .int 0, .int 0, .int 0, .int 0, .int 0, .ref (qm 74), .ref (qm 75), .int 0, .ref (qm 76), .ref (qm 77), .ref (qm 78), .ref (qm 79), .int 0, .ref (qm 80), .ref (qm 81), .ref (qm 82), .ref (qm 83), .ref (qm 84), .ref (qm 85), .ref (qm 86), .ref (qm 87), .int 0, .ref (qm 88), .int 0, .int 0, .int 0, .int 0, .int 0, .int 0, .int 0]))]) hP hD [0, 1] [] rfl rfl (by decide) (by decide) hk1 hFc hP1 hD1
  have hK := (hK.sub (tys' := [(k_routines, .int)]) [0] rfl).app (hK1.sub (tys' := []) [] rfl)
  generalize H1 = H at hP hS ⊢
  have hP : va_P (dC, dI) vwCl [(mo, .inr (12, [.int 1, .ref (qm 0), .int 0, .int 0, .ref (qm 1), .ref (qm 2), .ref (qm 3), .int 0, .int 0, .ref ks, .ref (qm 4), .int 0, .int 0, .ref (qm 5), .ref (qm 6), .ref (qm 7), .ref (qm 8), .ref (qm 9), .ref (qm 10), .ref (qm 11), .ref (qm 12), .ref (qm 13), .ref (qm 14), .int 0, .ref (qm 15), .ref (qm 16), .ref (qm 17), .ref (qm 18), .ref (qm 19), .ref (qm 20), .ref (qm 21), .int 0, .ref (qm 22), .ref (qm 23), .ref (qm 24), .int 0, .ref (qm 25), .ref (qm 26), .ref (qm 27), .ref (qm 28), .ref (qm 29), .ref (qm 30), .ref (qm 31), .ref (qm 32), .ref (qm 33), .ref (qm 34), .ref (qm 35), .ref (qm 36), .ref (qm 37), .ref (qm 38), .ref (qm 39), .int 0, .ref (qm 40), .ref (qm 41), .ref (qm 42), .ref (qm 43), .ref (qm 44), .ref (qm 45), .ref (qm 46), .ref (qm 47), .ref (qm 48), .int 0, .int 0, .int 0, .int 0, .int 0, .int 0, .int 0, .int 0, .int 0, .int 1, .ref (qm 49), .ref (qm 50), .int 0, .int 0, .ref (qm 51), .ref (qm 52), .ref (qm 53), .ref (qm 54), .ref (qm 55), .ref (qm 56), .ref (qm 57), .ref (qm 58), .ref (qm 59), .ref (qm 60), .ref (qm 61), .ref (qm 62), .ref (qm 63), .ref (qm 64), .ref (qm 65), .ref (qm 66), .ref (qm 67), .ref (qm 68), .ref (qm 69), .ref (qm 70), .ref (qm 71), .ref (qm 72), .ref (qm 73), .int 0, .int 0, .int 0, .int 0, .int 0, .ref (qm 74), .ref (qm 75), .int 0, .ref (qm 76), .ref (qm 77), .ref (qm 78), .ref (qm 79), .int 0, .ref (qm 80), .ref (qm 81), .ref (qm 82), .ref (qm 83), .ref (qm 84), .ref (qm 85), .ref (qm 86), .ref (qm 87), .int 0, .ref (qm 88), .int 0, .int 0, .int 0, .int 0, .int 0, .int 0, .int 0]))] H := hP
  have hD : va_D A [(mo, .inr (12, [.int 1, .ref (qm 0), .int 0, .int 0, .ref (qm 1), .ref (qm 2), .ref (qm 3), .int 0, .int 0, .ref ks, .ref (qm 4), .int 0, .int 0, .ref (qm 5), .ref (qm 6), .ref (qm 7), .ref (qm 8), .ref (qm 9), .ref (qm 10), .ref (qm 11), .ref (qm 12), .ref (qm 13), .ref (qm 14), .int 0, .ref (qm 15), .ref (qm 16), .ref (qm 17), .ref (qm 18), .ref (qm 19), .ref (qm 20), .ref (qm 21), .int 0, .ref (qm 22), .ref (qm 23), .ref (qm 24), .int 0, .ref (qm 25), .ref (qm 26), .ref (qm 27), .ref (qm 28), .ref (qm 29), .ref (qm 30), .ref (qm 31), .ref (qm 32), .ref (qm 33), .ref (qm 34), .ref (qm 35), .ref (qm 36), .ref (qm 37), .ref (qm 38), .ref (qm 39), .int 0, .ref (qm 40), .ref (qm 41), .ref (qm 42), .ref (qm 43), .ref (qm 44), .ref (qm 45), .ref (qm 46), .ref (qm 47), .ref (qm 48), .int 0, .int 0, .int 0, .int 0, .int 0, .int 0, .int 0, .int 0, .int 0, .int 1, .ref (qm 49), .ref (qm 50), .int 0, .int 0, .ref (qm 51), .ref (qm 52), .ref (qm 53), .ref (qm 54), .ref (qm 55), .ref (qm 56), .ref (qm 57), .ref (qm 58), .ref (qm 59), .ref (qm 60), .ref (qm 61), .ref (qm 62), .ref (qm 63), .ref (qm 64), .ref (qm 65), .ref (qm 66), .ref (qm 67), .ref (qm 68), .ref (qm 69), .ref (qm 70), .ref (qm 71), .ref (qm 72), .ref (qm 73), .int 0, .int 0, .int 0, .int 0, .int 0, .ref (qm 74), .ref (qm 75), .int 0, .ref (qm 76), .ref (qm 77), .ref (qm 78), .ref (qm 79), .int 0, .ref (qm 80), .ref (qm 81), .ref (qm 82), .ref (qm 83), .ref (qm 84), .ref (qm 85), .ref (qm 86), .ref (qm 87), .int 0, .ref (qm 88), .int 0, .int 0, .int 0, .int 0, .int 0, .int 0, .int 0]))] := hD
  have hK : va_K (dC, dI) vwCl [(k_routines, .int)] s := hK
  obtain rfl := hw
  refine lv_istore (lv' := [(6, .int 0), (5, .int 1), (4, .int 0), (3, .ref oq), (2, .ref mo), (1, .ref x), (0, .ref b)]) hx hb dL_law_356 hl (by decide) rfl (fun ls hl => ?_)
  refine lv_aload_n hx hb dL_law_358 rfl (lv_at hl 4 rfl) ?_
  have hPc := hP.sub (ws' := [(mo, .inr (12, [.int 1, .ref (qm 0), .int 0, .int 0, .ref (qm 1), .ref (qm 2), .ref (qm 3), .int 0, .int 0, .ref ks, .ref (qm 4), .int 0, .int 0, .ref (qm 5), .ref (qm 6), .ref (qm 7), .ref (qm 8), .ref (qm 9), .ref (qm 10), .ref (qm 11), .ref (qm 12), .ref (qm 13), .ref (qm 14), .int 0, .ref (qm 15), .ref (qm 16), .ref (qm 17), .ref (qm 18), .ref (qm 19), .ref (qm 20), .ref (qm 21), .int 0, .ref (qm 22), .ref (qm 23), .ref (qm 24), .int 0, .ref (qm 25), .ref (qm 26), .ref (qm 27), .ref (qm 28), .ref (qm 29), .ref (qm 30), .ref (qm 31), .ref (qm 32), .ref (qm 33), .ref (qm 34), .ref (qm 35), .ref (qm 36), .ref (qm 37), .ref (qm 38), .ref (qm 39), .int 0, .ref (qm 40), .ref (qm 41), .ref (qm 42), .ref (qm 43), .ref (qm 44), .ref (qm 45), .ref (qm 46), .ref (qm 47), .ref (qm 48), .int 0, .int 0, .int 0, .int 0, .int 0, .int 0, .int 0, .int 0, .int 0, .int 1, .ref (qm 49), .ref (qm 50), .int 0, .int 0, .ref (qm 51), .ref (qm 52), .ref (qm 53), .ref (qm 54), .ref (qm 55), .ref (qm 56), .ref (qm 57), .ref (qm 58), .ref (qm 59), .ref (qm 60), .ref (qm 61), .ref (qm 62), .ref (qm 63), .ref (qm 64), .ref (qm 65), .ref (qm 66), .ref (qm 67), .ref (qm 68), .ref (qm 69), .ref (qm 70), .ref (qm 71), .ref (qm 72), .ref (qm 73), .int 0, .int 0, .int 0, .int 0, .int 0, .ref (qm 74), .ref (qm 75), .int 0, .ref (qm 76), .ref (qm 77), .ref (qm 78), .ref (qm 79), .int 0, .ref (qm 80), .ref (qm 81), .ref (qm 82), .ref (qm 83), .ref (qm 84), .ref (qm 85), .ref (qm 86), .ref (qm 87), .int 0, .ref (qm 88), .int 0, .int 0, .int 0, .int 0, .int 0, .int 0, .int 0]))]) [0] rfl
  have hDc := hD.sub (ws' := [(mo, .inr (12, [.int 1, .ref (qm 0), .int 0, .int 0, .ref (qm 1), .ref (qm 2), .ref (qm 3), .int 0, .int 0, .ref ks, .ref (qm 4), .int 0, .int 0, .ref (qm 5), .ref (qm 6), .ref (qm 7), .ref (qm 8), .ref (qm 9), .ref (qm 10), .ref (qm 11), .ref (qm 12), .ref (qm 13), .ref (qm 14), .int 0, .ref (qm 15), .ref (qm 16), .ref (qm 17), .ref (qm 18), .ref (qm 19), .ref (qm 20), .ref (qm 21), .int 0, .ref (qm 22), .ref (qm 23), .ref (qm 24), .int 0, .ref (qm 25), .ref (qm 26), .ref (qm 27), .ref (qm 28), .ref (qm 29), .ref (qm 30), .ref (qm 31), .ref (qm 32), .ref (qm 33), .ref (qm 34), .ref (qm 35), .ref (qm 36), .ref (qm 37), .ref (qm 38), .ref (qm 39), .int 0, .ref (qm 40), .ref (qm 41), .ref (qm 42), .ref (qm 43), .ref (qm 44), .ref (qm 45), .ref (qm 46), .ref (qm 47), .ref (qm 48), .int 0, .int 0, .int 0, .int 0, .int 0, .int 0, .int 0, .int 0, .int 0, .int 1, .ref (qm 49), .ref (qm 50), .int 0, .int 0, .ref (qm 51), .ref (qm 52), .ref (qm 53), .ref (qm 54), .ref (qm 55), .ref (qm 56), .ref (qm 57), .ref (qm 58), .ref (qm 59), .ref (qm 60), .ref (qm 61), .ref (qm 62), .ref (qm 63), .ref (qm 64), .ref (qm 65), .ref (qm 66), .ref (qm 67), .ref (qm 68), .ref (qm 69), .ref (qm 70), .ref (qm 71), .ref (qm 72), .ref (qm 73), .int 0, .int 0, .int 0, .int 0, .int 0, .ref (qm 74), .ref (qm 75), .int 0, .ref (qm 76), .ref (qm 77), .ref (qm 78), .ref (qm 79), .int 0, .ref (qm 80), .ref (qm 81), .ref (qm 82), .ref (qm 83), .ref (qm 84), .ref (qm 85), .ref (qm 86), .ref (qm 87), .int 0, .ref (qm 88), .int 0, .int 0, .int 0, .int 0, .int 0, .int 0, .int 0]))]) [0] (by decide) rfl
  have hKc := hK.sub (tys' := []) [] rfl
  have hFc := va_free (wc := [(mo, .inr (12, [.int 1, .ref (qm 0), .int 0, .int 0, .ref (qm 1), .ref (qm 2), .ref (qm 3), .int 0, .int 0, .ref ks, .ref (qm 4), .int 0, .int 0, .ref (qm 5), .ref (qm 6), .ref (qm 7), .ref (qm 8), .ref (qm 9), .ref (qm 10), .ref (qm 11), .ref (qm 12), .ref (qm 13), .ref (qm 14), .int 0, .ref (qm 15), .ref (qm 16), .ref (qm 17), .ref (qm 18), .ref (qm 19), .ref (qm 20), .ref (qm 21), .int 0, .ref (qm 22), .ref (qm 23), .ref (qm 24), .int 0, .ref (qm 25), .ref (qm 26), .ref (qm 27), .ref (qm 28), .ref (qm 29), .ref (qm 30), .ref (qm 31), .ref (qm 32), .ref (qm 33), .ref (qm 34), .ref (qm 35), .ref (qm 36), .ref (qm 37), .ref (qm 38), .ref (qm 39), .int 0, .ref (qm 40), .ref (qm 41), .ref (qm 42), .ref (qm 43), .ref (qm 44), .ref (qm 45), .ref (qm 46), .ref (qm 47), .ref (qm 48), .int 0, .int 0, .int 0, .int 0, .int 0, .int 0, .int 0, .int 0, .int 0, .int 1, .ref (qm 49), .ref (qm 50), .int 0, .int 0, .ref (qm 51), .ref (qm 52), .ref (qm 53), .ref (qm 54), .ref (qm 55), .ref (qm 56), .ref (qm 57), .ref (qm 58), .ref (qm 59), .ref (qm 60), .ref (qm 61), .ref (qm 62), .ref (qm 63), .ref (qm 64), .ref (qm 65), .ref (qm 66), .ref (qm 67), .ref (qm 68), .ref (qm 69), .ref (qm 70), .ref (qm 71), .ref (qm 72), .ref (qm 73), .int 0, .int 0, .int 0, .int 0, .int 0, .ref (qm 74), .ref (qm 75), .int 0, .ref (qm 76), .ref (qm 77), .ref (qm 78), .ref (qm 79), .int 0, .ref (qm 80), .ref (qm 81), .ref (qm 82), .ref (qm 83), .ref (qm 84), .ref (qm 85), .ref (qm 86), .ref (qm 87), .int 0, .ref (qm 88), .int 0, .int 0, .int 0, .int 0, .int 0, .int 0, .int 0]))]) hD hS hA [0] rfl
  refine va_calli (va_runV (As := []) (rest := []) ⟨hx, hb, hml, hown, hts⟩ (ct_X12_thrown l dC dI mo qm ks 1 H.size) (cwV 0 hts (gd_V wd_1375 wd_1376 wd_1377 wd_15 wd_1378) rfl rfl rfl (by decide +kernel) ⟨Nat.le_of_ble_eq_true rfl, Nat.le_of_ble_eq_true rfl⟩) ⟨fun a U g mk q => by obtain ⟨q0, q1, qP, qK, qD⟩ := q; exact ⟨q0, q1, qP, va_K.moved (u := U) (U := U.calling g mk a) (Vm.Alike.refl U.vm) qK, qD⟩, va_recv hKc hPc (ci := 12) (q0 := 0) rfl rfl, fun U hU hW => ⟨rfl, by rw [hU], by rw [hU]; exact hPc, va_K.moved hW.alike hKc, hDc.weaken (fun _ _ _ _ => trivial)⟩⟩ rfl rfl hl.1 rfl (lv_room (Nat.le_of_ble_eq_true rfl)) dL_law_359 ⟨Nat.le_of_ble_eq_true rfl, Nat.le_of_ble_eq_true rfl⟩) hS (fun q _ h => hFc q h) hFc (fun r11 u t H1 locs ht hvm hw hB hz1 hk1 hS => ?_)
  obtain ⟨hP1, hK1, hD1⟩ := hB
  rw [ht] at hP1
  have hK1 := va_K.moved hvm.symm hK1
  obtain ⟨hP, hD⟩ := va_join (wr := []) (w1 := []) hP hD [0] [] rfl rfl (by decide) (by decide) hk1 hFc hP1 hD1
  have hK := (hK.sub (tys' := [(k_routines, .int)]) [0] rfl).app (hK1.sub (tys' := []) [] rfl)
  generalize H1 = H at hP hS ⊢
  have hP : va_P (dC, dI) vwCl [] H := hP
  have hD : va_D A [] := hD
  have hK : va_K (dC, dI) vwCl [(k_routines, .int)] s := hK
  obtain rfl := hw
  refine lv_iload hx hb dL_law_362 (lv_at hl 1 rfl) ?_
  refine lv_icmp_eq (tgt := 369) hx hb dL_law_364 (by decide) (fun _ => ?_) (fun h => absurd rfl h)
  refine lv_iload hx hb dL_law_369 (lv_at hl 1 rfl) ?_
  refine lv_if_ne (tgt := 386) hx hb dL_law_371 (by decide) (fun _ => ?_) (fun h => absurd h (by decide))
  refine lv_goto (tgt := 1031) hx hb dL_law_386 (by decide) ?_
  refine lv_iinc (v := 7) (lv' := [(4, .int 7), (6, .int 0), (5, .int 1), (3, .ref oq), (2, .ref mo), (1, .ref x), (0, .ref b)]) hx hb dL_law_1031 hl (k := 2) rfl (by decide) (by decide) rfl (fun ls hl => ?_)
  refine lv_goto (tgt := 23) hx hb dL_law_1034 (by decide) ?_
  refine lv_iload hx hb dL_law_23 (lv_at hl 0 rfl) ?_
  refine lv_aload_n hx hb dL_law_25 rfl (lv_at hl 6 rfl) ?_
  refine va_slen hx hb hX hbl hbA hS dL_law_26 ?_
  refine lv_topi (fun z12 ez12 => ?_)
  obtain rfl : z12 = 7 := ez12.trans (by decide)
  refine lv_bipush (v := 7) hx hb dL_law_27 (by decide) ?_
  refine lv_isub hx hb dL_law_29 ?_
  refine lv_topi (fun z13 ez13 => ?_)
  obtain rfl : z13 = 0 := ez13.trans (by decide)
  refine lv_icmp_gt (tgt := 1037) hx hb dL_law_30 (by decide) (fun _ => ?_) (fun h => absurd (by decide) h)
  refine lv_iconst (v := 1) hx hb dL_law_1037 (by decide) ?_
  refine va_forget (fun q hq => by have h9 := hS.2.2 q hq; rw [hAeq] at h9; exact h9) ?_
  refine W.widen (k := 600002) (n := 7302232) (Nat.le_of_ble_eq_true rfl) (Nat.le_of_ble_eq_true rfl) ?_
  exact lw_ret hx hb hr hlocks dL_law_1038
set_option maxHeartbeats 4000000 in
set_option maxRecDepth 100000 in
theorem lo_live {p : Program} {l : Launch} {e : Env} {s : State} {m : MethodId} {below : List Frame} {meth : Method} {c : Code} {dC : Nat → ClassId} {dI : Nat → Nat → Nat} {b : Nat} {xs : Nat → Int32} {A : Nat → Prop} (hl9 : l.stackTraces = false) (C0 : lw_At p s m meth c b 7 xs) (hAeq : A = fun q : Nat => s.heap.size ≤ q) {ha : Nat} {k_routines : ClassId} {ks : Nat} {mo : Nat} {pa : Nat} {qm : Nat → Nat} {qt : Nat → Nat} {ru : Nat} {sp : Nat} {ta : Nat} {tk : Nat} {to : Nat} {ts : Nat} {x : Nat} {oq : Nat} {H : Heap} {locs : List Loc} {ls : Array Slot} (hK : va_K (dC, dI) vwCl [(k_routines, .int)] s) (hP : va_P (dC, dI) vwCl [(x, .inr (11, [.ref tk, .ref pa, .ref ta, .ref ha, .ref ru, .ref to, .ref sp])), (to, .inr (5, [.int 0, .ref (qt 0), .ref (qt 1), .ref (qt 2), .ref ts, .int 0, .ref (qt 3), .ref (qt 4), .ref (qt 5), .ref (qt 6), .ref (qt 7), .ref (qt 8), .ref (qt 9), .ref (qt 10)])), (mo, .inr (12, [.int 0, .ref (qm 0), .int 0, .int 0, .ref (qm 1), .ref (qm 2), .ref (qm 3), .int 0, .int 0, .ref ks, .ref (qm 4), .int 0, .int 0, .ref (qm 5), .ref (qm 6), .ref (qm 7), .ref (qm 8), .ref (qm 9), .ref (qm 10), .ref (qm 11), .ref (qm 12), .ref (qm 13), .ref (qm 14), .int 0, .ref (qm 15), .ref (qm 16), .ref (qm 17), .ref (qm 18), .ref (qm 19), .ref (qm 20), .ref (qm 21), .int 0, .ref (qm 22), .ref (qm 23), .ref (qm 24), .int 0, .ref (qm 25), .ref (qm 26), .ref (qm 27), .ref (qm 28), .ref (qm 29), .ref (qm 30), .ref (qm 31), .ref (qm 32), .ref (qm 33), .ref (qm 34), .ref (qm 35), .ref (qm 36), .ref (qm 37), .ref (qm 38), .ref (qm 39), .int 0, .ref (qm 40), .ref (qm 41), .ref (qm 42), .ref (qm 43), .ref (qm 44), .ref (qm 45), .ref (qm 46), .ref (qm 47), .ref (qm 48), .int 0, .int 0, .int 0, .int 0, .int 0, .int 0, .int 0, .int 0, .int 0, .int 1, .ref (qm 49), .ref (qm 50), .int 0, .int 0, .ref (qm 51), .ref (qm 52), .ref (qm 53), .ref (qm 54), .ref (qm 55), .ref (qm 56), .ref (qm 57), .ref (qm 58), .ref (qm 59), .ref (qm 60), .ref (qm 61), .ref (qm 62), .ref (qm 63), .ref (qm 64), .ref (qm 65), .ref (qm 66), .ref (qm 67), .ref (qm 68), .ref (qm 69), .ref (qm 70), .ref (qm 71), .ref (qm 72), .ref (qm 73), .int 0, .int 0, .int 0, .int 0, .int 0, .ref (qm 74), .ref (qm 75), .int 0, .ref (qm 76), .ref (qm 77), .ref (qm 78), .ref (qm 79), .int 0, .ref (qm 80), .ref (qm 81), .ref (qm 82), .ref (qm 83), .ref (qm 84), .ref (qm 85), .ref (qm 86), .ref (qm 87), .int 0, .ref (qm 88), .int 0, .int 0, .int 0, .int 0, .int 0, .int 0, .int 0])), (qm 5, .inl (k_routines, 2, .inl (fun _ => 0)))] H) (hD : va_D A [(x, .inr (11, [.ref tk, .ref pa, .ref ta, .ref ha, .ref ru, .ref to, .ref sp])), (to, .inr (5, [.int 0, .ref (qt 0), .ref (qt 1), .ref (qt 2), .ref ts, .int 0, .ref (qt 3), .ref (qt 4), .ref (qt 5), .ref (qt 6), .ref (qt 7), .ref (qt 8), .ref (qt 9), .ref (qt 10)])), (mo, .inr (12, [.int 0, .ref (qm 0), .int 0, .int 0, .ref (qm 1), .ref (qm 2), .ref (qm 3), .int 0, .int 0, .ref ks, .ref (qm 4), .int 0, .int 0, .ref (qm 5), .ref (qm 6), .ref (qm 7), .ref (qm 8), .ref (qm 9), .ref (qm 10), .ref (qm 11), .ref (qm 12), .ref (qm 13), .ref (qm 14), .int 0, .ref (qm 15), .ref (qm 16), .ref (qm 17), .ref (qm 18), .ref (qm 19), .ref (qm 20), .ref (qm 21), .int 0, .ref (qm 22), .ref (qm 23), .ref (qm 24), .int 0, .ref (qm 25), .ref (qm 26), .ref (qm 27), .ref (qm 28), .ref (qm 29), .ref (qm 30), .ref (qm 31), .ref (qm 32), .ref (qm 33), .ref (qm 34), .ref (qm 35), .ref (qm 36), .ref (qm 37), .ref (qm 38), .ref (qm 39), .int 0, .ref (qm 40), .ref (qm 41), .ref (qm 42), .ref (qm 43), .ref (qm 44), .ref (qm 45), .ref (qm 46), .ref (qm 47), .ref (qm 48), .int 0, .int 0, .int 0, .int 0, .int 0, .int 0, .int 0, .int 0, .int 0, .int 1, .ref (qm 49), .ref (qm 50), .int 0, .int 0, .ref (qm 51), .ref (qm 52), .ref (qm 53), .ref (qm 54), .ref (qm 55), .ref (qm 56), .ref (qm 57), .ref (qm 58), .ref (qm 59), .ref (qm 60), .ref (qm 61), .ref (qm 62), .ref (qm 63), .ref (qm 64), .ref (qm 65), .ref (qm 66), .ref (qm 67), .ref (qm 68), .ref (qm 69), .ref (qm 70), .ref (qm 71), .ref (qm 72), .ref (qm 73), .int 0, .int 0, .int 0, .int 0, .int 0, .ref (qm 74), .ref (qm 75), .int 0, .ref (qm 76), .ref (qm 77), .ref (qm 78), .ref (qm 79), .int 0, .ref (qm 80), .ref (qm 81), .ref (qm 82), .ref (qm 83), .ref (qm 84), .ref (qm 85), .ref (qm 86), .ref (qm 87), .int 0, .ref (qm 88), .int 0, .int 0, .int 0, .int 0, .int 0, .int 0, .int 0])), (qm 5, .inl (k_routines, 2, .inl (fun _ => 0)))]) (hS : va_S A s.heap H locs) (hl : lv_has ls 7 [(4, .int 0), (3, .ref oq), (2, .ref mo), (1, .ref x), (0, .ref b)]) : W p l e room_1 s m #[Value.ref b] below meth c H locs 176 1222853 (lw_Z below #[Value.ref b] s) (F0 m 389 ls []) := by
  obtain ⟨hx, hb, hr, hml, hown, hts0, hX, hbl, hlocks, hgv⟩ := C0
  have hts : ∀ w ∈ tb, w.before _ s = true := fun w h => hts0 w (List.mem_filter.mp h).1
  have hA : ∀ q : Nat, s.heap.size ≤ q → A q := by rw [hAeq]; exact fun _ h => h
  have hbA : ¬ A b := by rw [hAeq]; exact Nat.not_le.mpr hbl
  refine lv_aload_n hx hb dL_law_389 rfl (lv_at hl 3 rfl) ?_
  refine lv_aload_n hx hb dL_law_390 rfl (lv_at hl 4 rfl) ?_
  refine lv_iload hx hb dL_law_391 (lv_at hl 0 rfl) ?_
  refine lv_iconst (v := 1) hx hb dL_law_393 (by decide) ?_
  refine lv_iadd hx hb dL_law_394 ?_
  refine lv_topi (fun z1 ez1 => ?_)
  obtain rfl : z1 = 1 := ez1.trans (by decide)
  refine va_sld hx hb hX hbl hbA hS (px_in 1 7 (by decide +kernel)) dL_law_395 ?_
  refine lv_topi (fun z2 ez2 => ?_)
  replace ez2 : z2 = xs 1 := ez2
  refine lv_aload_n hx hb dL_law_396 rfl (lv_at hl 4 rfl) ?_
  refine lv_iload hx hb dL_law_397 (lv_at hl 0 rfl) ?_
  refine lv_iconst (v := 2) hx hb dL_law_399 (by decide) ?_
  refine lv_iadd hx hb dL_law_400 ?_
  refine lv_topi (fun z3 ez3 => ?_)
  obtain rfl : z3 = 2 := ez3.trans (by decide)
  refine va_sld hx hb hX hbl hbA hS (px_in 2 7 (by decide +kernel)) dL_law_401 ?_
  refine lv_topi (fun z4 ez4 => ?_)
  replace ez4 : z4 = xs 2 := ez4
  refine lv_aload_n hx hb dL_law_402 rfl (lv_at hl 4 rfl) ?_
  refine lv_iload hx hb dL_law_403 (lv_at hl 0 rfl) ?_
  refine lv_iconst (v := 3) hx hb dL_law_405 (by decide) ?_
  refine lv_iadd hx hb dL_law_406 ?_
  refine lv_topi (fun z5 ez5 => ?_)
  obtain rfl : z5 = 3 := ez5.trans (by decide)
  refine va_sld hx hb hX hbl hbA hS (px_in 3 7 (by decide +kernel)) dL_law_407 ?_
  refine lv_topi (fun z6 ez6 => ?_)
  replace ez6 : z6 = xs 3 := ez6
  have hPc := hP.sub (ws' := [(x, .inr (11, [.ref tk, .ref pa, .ref ta, .ref ha, .ref ru, .ref to, .ref sp])), (to, .inr (5, [.int 0, .ref (qt 0), .ref (qt 1), .ref (qt 2), .ref ts, .int 0, .ref (qt 3), .ref (qt 4), .ref (qt 5), .ref (qt 6), .ref (qt 7), .ref (qt 8), .ref (qt 9), .ref (qt 10)]))]) [0, 1] rfl
  have hDc := hD.sub (ws' := [(x, .inr (11, [.ref tk, .ref pa, .ref ta, .ref ha, .ref ru, .ref to, .ref sp])), (to, .inr (5, [.int 0, .ref (qt 0), .ref (qt 1), .ref (qt 2), .ref ts, .int 0, .ref (qt 3), .ref (qt 4), .ref (qt 5), .ref (qt 6), .ref (qt 7), .ref (qt 8), .ref (qt 9), .ref (qt 10)]))]) [0, 1] (by decide) rfl
  have hKc := hK.sub (tys' := []) [] rfl
  have hFc := va_free (wc := [(x, .inr (11, [.ref tk, .ref pa, .ref ta, .ref ha, .ref ru, .ref to, .ref sp])), (to, .inr (5, [.int 0, .ref (qt 0), .ref (qt 1), .ref (qt 2), .ref ts, .int 0, .ref (qt 3), .ref (qt 4), .ref (qt 5), .ref (qt 6), .ref (qt 7), .ref (qt 8), .ref (qt 9), .ref (qt 10)]))]) hD hS hA [0, 1] rfl
  refine va_calli (va_runV (As := [.int z2, .int z4, .int z6]) (rest := []) ⟨hx, hb, hml, hown, hts⟩ (ct_X11_live l dC dI x tk pa ta ha ru to sp qt ts z2 z4 z6 H.size) (cwV 3 hts (gd_V wd_786 wd_787 wd_788 wd_1 wd_789) rfl rfl rfl (by decide +kernel) ⟨Nat.le_of_ble_eq_true rfl, Nat.le_of_ble_eq_true rfl⟩) ⟨fun a U g mk q => by obtain ⟨q0, q1, qP, qK, qD⟩ := q; exact ⟨q0, q1, qP, va_K.moved (u := U) (U := U.calling g mk a) (Vm.Alike.refl U.vm) qK, qD⟩, va_recv hKc hPc (ci := 11) (q0 := 0) rfl rfl, fun U hU hW => ⟨rfl, by rw [hU], by rw [hU]; exact hPc, va_K.moved hW.alike hKc, hDc.weaken (fun _ _ _ _ => trivial)⟩⟩ rfl rfl hl.1 rfl (lv_room (Nat.le_of_ble_eq_true rfl)) dL_law_408 ⟨Nat.le_of_ble_eq_true rfl, Nat.le_of_ble_eq_true rfl⟩) hS (fun q _ h => hFc q h) hFc (fun r7 u t H1 locs ht hvm hw hB hz1 hk1 hS => ?_)
  obtain ⟨hP1, hK1, hD1⟩ := hB
  rw [ht] at hP1
  have hK1 := va_K.moved hvm.symm hK1
  obtain ⟨hP, hD⟩ := va_join (wr := [(mo, .inr (12, [.int 0, .ref (qm 0), .int 0, .int 0, .ref (qm 1), .ref (qm 2), .ref (qm 3), .int 0, .int 0, .ref ks, .ref (qm 4), .int 0, .int 0, .ref (qm 5), .ref (qm 6), .ref (qm 7), .ref (qm 8), .ref (qm 9), .ref (qm 10), .ref (qm 11), .ref (qm 12), .ref (qm 13), .ref (qm 14), .int 0, .ref (qm 15), .ref (qm 16), .ref (qm 17), .ref (qm 18), .ref (qm 19), .ref (qm 20), .ref (qm 21), .int 0, .ref (qm 22), .ref (qm 23), .ref (qm 24), .int 0, .ref (qm 25), .ref (qm 26), .ref (qm 27), .ref (qm 28), .ref (qm 29), .ref (qm 30), .ref (qm 31), .ref (qm 32), .ref (qm 33), .ref (qm 34), .ref (qm 35), .ref (qm 36), .ref (qm 37), .ref (qm 38), .ref (qm 39), .int 0, .ref (qm 40), .ref (qm 41), .ref (qm 42), .ref (qm 43), .ref (qm 44), .ref (qm 45), .ref (qm 46), .ref (qm 47), .ref (qm 48), .int 0, .int 0, .int 0, .int 0, .int 0, .int 0, .int 0, .int 0, .int 0, .int 1, .ref (qm 49), .ref (qm 50), .int 0, .int 0, .ref (qm 51), .ref (qm 52), .ref (qm 53), .ref (qm 54), .ref (qm 55), .ref (qm 56), .ref (qm 57), .ref (qm 58), .ref (qm 59), .ref (qm 60), .ref (qm 61), .ref (qm 62), .ref (qm 63), .ref (qm 64), .ref (qm 65), .ref (qm 66), .ref (qm 67), .ref (qm 68), .ref (qm 69), .ref (qm 70), .ref (qm 71), .ref (qm 72), .ref (qm 73), .int 0, .int 0, .int 0, .int 0, .int 0, .ref (qm 74), .ref (qm 75), .int 0, .ref (qm 76), .ref (qm 77), .ref (qm 78), .ref (qm 79), .int 0, .ref (qm 80), .ref (qm 81), .ref (qm 82), .ref (qm 83), .ref (qm 84), .ref (qm 85), .ref (qm 86), .ref (qm 87), .int 0, .ref (qm 88), .int 0, .int 0, .int 0, .int 0, .int 0, .int 0, .int 0])), (qm 5, .inl (k_routines, 2, .inl (fun _ => 0)))]) (w1 := []) hP hD [0, 1] [2, 3] rfl rfl (by decide) (by decide) hk1 hFc hP1 hD1
  have hK := (hK.sub (tys' := [(k_routines, .int)]) [0] rfl).app (hK1.sub (tys' := []) [] rfl)
  generalize H1 = H at hP hS ⊢
  have hP : va_P (dC, dI) vwCl [(mo, .inr (12, [.int 0, .ref (qm 0), .int 0, .int 0, .ref (qm 1), .ref (qm 2), .ref (qm 3), .int 0, .int 0, .ref ks, .ref (qm 4), .int 0, .int 0, .ref (qm 5), .ref (qm 6), .ref (qm 7), .ref (qm 8), .ref (qm 9), .ref (qm 10), .ref (qm 11), .ref (qm 12), .ref (qm 13), .ref (qm 14), .int 0, .ref (qm 15), .ref (qm 16), .ref (qm 17), .ref (qm 18), .ref (qm 19), .ref (qm 20), .ref (qm 21), .int 0, .ref (qm 22), .ref (qm 23), .ref (qm 24), .int 0, .ref (qm 25), .ref (qm 26), .ref (qm 27), .ref (qm 28), .ref (qm 29), .ref (qm 30), .ref (qm 31), .ref (qm 32), .ref (qm 33), .ref (qm 34), .ref (qm 35), .ref (qm 36), .ref (qm 37), .ref (qm 38), .ref (qm 39), .int 0, .ref (qm 40), .ref (qm 41), .ref (qm 42), .ref (qm 43), .ref (qm 44), .ref (qm 45), .ref (qm 46), .ref (qm 47), .ref (qm 48), .int 0, .int 0, .int 0, .int 0, .int 0, .int 0, .int 0, .int 0, .int 0, .int 1, .ref (qm 49), .ref (qm 50), .int 0, .int 0, .ref (qm 51), .ref (qm 52), .ref (qm 53), .ref (qm 54), .ref (qm 55), .ref (qm 56), .ref (qm 57), .ref (qm 58), .ref (qm 59), .ref (qm 60), .ref (qm 61), .ref (qm 62), .ref (qm 63), .ref (qm 64), .ref (qm 65), .ref (qm 66), .ref (qm 67), .ref (qm 68), .ref (qm 69), .ref (qm 70), .ref (qm 71), .ref (qm 72), .ref (qm 73), .int 0, .int 0, .int 0, .int 0, .int 0, .ref (qm 74), .ref (qm 75), .int 0, .ref (qm 76), .ref (qm 77), .ref (qm 78), .ref (qm 79), .int 0, .ref (qm 80), .ref (qm 81), .ref (qm 82), .ref (qm 83), .ref (qm 84), .ref (qm 85), .ref (qm 86), .ref (qm 87), .int 0, .ref (qm 88), .int 0, .int 0, .int 0, .int 0, .int 0, .int 0, .int 0])), (qm 5, .inl (k_routines, 2, .inl (fun _ => 0)))] H := hP
  have hD : va_D A [(mo, .inr (12, [.int 0, .ref (qm 0), .int 0, .int 0, .ref (qm 1), .ref (qm 2), .ref (qm 3), .int 0, .int 0, .ref ks, .ref (qm 4), .int 0, .int 0, .ref (qm 5), .ref (qm 6), .ref (qm 7), .ref (qm 8), .ref (qm 9), .ref (qm 10), .ref (qm 11), .ref (qm 12), .ref (qm 13), .ref (qm 14), .int 0, .ref (qm 15), .ref (qm 16), .ref (qm 17), .ref (qm 18), .ref (qm 19), .ref (qm 20), .ref (qm 21), .int 0, .ref (qm 22), .ref (qm 23), .ref (qm 24), .int 0, .ref (qm 25), .ref (qm 26), .ref (qm 27), .ref (qm 28), .ref (qm 29), .ref (qm 30), .ref (qm 31), .ref (qm 32), .ref (qm 33), .ref (qm 34), .ref (qm 35), .ref (qm 36), .ref (qm 37), .ref (qm 38), .ref (qm 39), .int 0, .ref (qm 40), .ref (qm 41), .ref (qm 42), .ref (qm 43), .ref (qm 44), .ref (qm 45), .ref (qm 46), .ref (qm 47), .ref (qm 48), .int 0, .int 0, .int 0, .int 0, .int 0, .int 0, .int 0, .int 0, .int 0, .int 1, .ref (qm 49), .ref (qm 50), .int 0, .int 0, .ref (qm 51), .ref (qm 52), .ref (qm 53), .ref (qm 54), .ref (qm 55), .ref (qm 56), .ref (qm 57), .ref (qm 58), .ref (qm 59), .ref (qm 60), .ref (qm 61), .ref (qm 62), .ref (qm 63), .ref (qm 64), .ref (qm 65), .ref (qm 66), .ref (qm 67), .ref (qm 68), .ref (qm 69), .ref (qm 70), .ref (qm 71), .ref (qm 72), .ref (qm 73), .int 0, .int 0, .int 0, .int 0, .int 0, .ref (qm 74), .ref (qm 75), .int 0, .ref (qm 76), .ref (qm 77), .ref (qm 78), .ref (qm 79), .int 0, .ref (qm 80), .ref (qm 81), .ref (qm 82), .ref (qm 83), .ref (qm 84), .ref (qm 85), .ref (qm 86), .ref (qm 87), .int 0, .ref (qm 88), .int 0, .int 0, .int 0, .int 0, .int 0, .int 0, .int 0])), (qm 5, .inl (k_routines, 2, .inl (fun _ => 0)))] := hD
  have hK : va_K (dC, dI) vwCl [(k_routines, .int)] s := hK
  obtain rfl := hw
  refine lv_aload_n hx hb dL_law_411 rfl (lv_at hl 2 rfl) ?_
  refine lv_aload_n hx hb dL_law_412 rfl (lv_at hl 4 rfl) ?_
  refine lv_iload hx hb dL_law_413 (lv_at hl 0 rfl) ?_
  refine lv_iconst (v := 1) hx hb dL_law_415 (by decide) ?_
  refine lv_iadd hx hb dL_law_416 ?_
  refine lv_topi (fun z8 ez8 => ?_)
  obtain rfl : z8 = 1 := ez8.trans (by decide)
  refine va_sld hx hb hX hbl hbA hS (px_in 1 7 (by decide +kernel)) dL_law_417 ?_
  refine lv_topi (fun z9 ez9 => ?_)
  replace ez9 : z9 = xs 1 := ez9
  obtain rfl : z9 = z2 := ez9.trans ez2.symm
  refine lv_aload_n hx hb dL_law_418 rfl (lv_at hl 4 rfl) ?_
  refine lv_iload hx hb dL_law_419 (lv_at hl 0 rfl) ?_
  refine lv_iconst (v := 2) hx hb dL_law_421 (by decide) ?_
  refine lv_iadd hx hb dL_law_422 ?_
  refine lv_topi (fun z10 ez10 => ?_)
  obtain rfl : z10 = 2 := ez10.trans (by decide)
  refine va_sld hx hb hX hbl hbA hS (px_in 2 7 (by decide +kernel)) dL_law_423 ?_
  refine lv_topi (fun z11 ez11 => ?_)
  replace ez11 : z11 = xs 2 := ez11
  obtain rfl : z11 = z4 := ez11.trans ez4.symm
  refine lv_aload_n hx hb dL_law_424 rfl (lv_at hl 4 rfl) ?_
  refine lv_iload hx hb dL_law_425 (lv_at hl 0 rfl) ?_
  refine lv_iconst (v := 3) hx hb dL_law_427 (by decide) ?_
  refine lv_iadd hx hb dL_law_428 ?_
  refine lv_topi (fun z12 ez12 => ?_)
  obtain rfl : z12 = 3 := ez12.trans (by decide)
  refine va_sld hx hb hX hbl hbA hS (px_in 3 7 (by decide +kernel)) dL_law_429 ?_
  refine lv_topi (fun z13 ez13 => ?_)
  replace ez13 : z13 = xs 3 := ez13
  obtain rfl : z13 = z6 := ez13.trans ez6.symm
  have hPc := hP.sub (ws' := [(mo, .inr (12, [.int 0, .ref (qm 0), .int 0, .int 0, .ref (qm 1), .ref (qm 2), .ref (qm 3), .int 0, .int 0, .ref ks, .ref (qm 4), .int 0, .int 0, .ref (qm 5), .ref (qm 6), .ref (qm 7), .ref (qm 8), .ref (qm 9), .ref (qm 10), .ref (qm 11), .ref (qm 12), .ref (qm 13), .ref (qm 14), .int 0, .ref (qm 15), .ref (qm 16), .ref (qm 17), .ref (qm 18), .ref (qm 19), .ref (qm 20), .ref (qm 21), .int 0, .ref (qm 22), .ref (qm 23), .ref (qm 24), .int 0, .ref (qm 25), .ref (qm 26), .ref (qm 27), .ref (qm 28), .ref (qm 29), .ref (qm 30), .ref (qm 31), .ref (qm 32), .ref (qm 33), .ref (qm 34), .ref (qm 35), .ref (qm 36), .ref (qm 37), .ref (qm 38), .ref (qm 39), .int 0, .ref (qm 40), .ref (qm 41), .ref (qm 42), .ref (qm 43), .ref (qm 44), .ref (qm 45), .ref (qm 46), .ref (qm 47), .ref (qm 48), .int 0, .int 0, .int 0, .int 0, .int 0, .int 0, .int 0, .int 0, .int 0, .int 1, .ref (qm 49), .ref (qm 50), .int 0, .int 0, .ref (qm 51), .ref (qm 52), .ref (qm 53), .ref (qm 54), .ref (qm 55), .ref (qm 56), .ref (qm 57), .ref (qm 58), .ref (qm 59), .ref (qm 60), .ref (qm 61), .ref (qm 62), .ref (qm 63), .ref (qm 64), .ref (qm 65), .ref (qm 66), .ref (qm 67), .ref (qm 68), .ref (qm 69), .ref (qm 70), .ref (qm 71), .ref (qm 72), .ref (qm 73), .int 0, .int 0, .int 0, .int 0, .int 0, .ref (qm 74), .ref (qm 75), .int 0, .ref (qm 76), .ref (qm 77), .ref (qm 78), .ref (qm 79), .int 0, .ref (qm 80), .ref (qm 81), .ref (qm 82), .ref (qm 83), .ref (qm 84), .ref (qm 85), .ref (qm 86), .ref (qm 87), .int 0, .ref (qm 88), .int 0, .int 0, .int 0, .int 0, .int 0, .int 0, .int 0])), (qm 5, .inl (k_routines, 2, .inl (fun _ => 0)))]) [0, 1] rfl
  have hDc := hD.sub (ws' := [(mo, .inr (12, [.int 0, .ref (qm 0), .int 0, .int 0, .ref (qm 1), .ref (qm 2), .ref (qm 3), .int 0, .int 0, .ref ks, .ref (qm 4), .int 0, .int 0, .ref (qm 5), .ref (qm 6), .ref (qm 7), .ref (qm 8), .ref (qm 9), .ref (qm 10), .ref (qm 11), .ref (qm 12), .ref (qm 13), .ref (qm 14), .int 0, .ref (qm 15), .ref (qm 16), .ref (qm 17), .ref (qm 18), .ref (qm 19), .ref (qm 20), .ref (qm 21), .int 0, .ref (qm 22), .ref (qm 23), .ref (qm 24), .int 0, .ref (qm 25), .ref (qm 26), .ref (qm 27), .ref (qm 28), .ref (qm 29), .ref (qm 30), .ref (qm 31), .ref (qm 32), .ref (qm 33), .ref (qm 34), .ref (qm 35), .ref (qm 36), .ref (qm 37), .ref (qm 38), .ref (qm 39), .int 0, .ref (qm 40), .ref (qm 41), .ref (qm 42), .ref (qm 43), .ref (qm 44), .ref (qm 45), .ref (qm 46), .ref (qm 47), .ref (qm 48), .int 0, .int 0, .int 0, .int 0, .int 0, .int 0, .int 0, .int 0, .int 0, .int 1, .ref (qm 49), .ref (qm 50), .int 0, .int 0, .ref (qm 51), .ref (qm 52), .ref (qm 53), .ref (qm 54), .ref (qm 55), .ref (qm 56), .ref (qm 57), .ref (qm 58), .ref (qm 59), .ref (qm 60), .ref (qm 61), .ref (qm 62), .ref (qm 63), .ref (qm 64), .ref (qm 65), .ref (qm 66), .ref (qm 67), .ref (qm 68), .ref (qm 69), .ref (qm 70), .ref (qm 71), .ref (qm 72), .ref (qm 73), .int 0, .int 0, .int 0, .int 0, .int 0, .ref (qm 74), .ref (qm 75), .int 0, .ref (qm 76), .ref (qm 77), .ref (qm 78), .ref (qm 79), .int 0, .ref (qm 80), .ref (qm 81), .ref (qm 82), .ref (qm 83), .ref (qm 84), .ref (qm 85), .ref (qm 86), .ref (qm 87), .int 0, .ref (qm 88), .int 0, .int 0, .int 0, .int 0, .int 0, .int 0, .int 0])), (qm 5, .inl (k_routines, 2, .inl (fun _ => 0)))]) [0, 1] (by decide) rfl
  have hKc := hK.sub (tys' := [(k_routines, .int)]) [0] rfl
  have hFc := va_free (wc := [(mo, .inr (12, [.int 0, .ref (qm 0), .int 0, .int 0, .ref (qm 1), .ref (qm 2), .ref (qm 3), .int 0, .int 0, .ref ks, .ref (qm 4), .int 0, .int 0, .ref (qm 5), .ref (qm 6), .ref (qm 7), .ref (qm 8), .ref (qm 9), .ref (qm 10), .ref (qm 11), .ref (qm 12), .ref (qm 13), .ref (qm 14), .int 0, .ref (qm 15), .ref (qm 16), .ref (qm 17), .ref (qm 18), .ref (qm 19), .ref (qm 20), .ref (qm 21), .int 0, .ref (qm 22), .ref (qm 23), .ref (qm 24), .int 0, .ref (qm 25), .ref (qm 26), .ref (qm 27), .ref (qm 28), .ref (qm 29), .ref (qm 30), .ref (qm 31), .ref (qm 32), .ref (qm 33), .ref (qm 34), .ref (qm 35), .ref (qm 36), .ref (qm 37), .ref (qm 38), .ref (qm 39), .int 0, .ref (qm 40), .ref (qm 41), .ref (qm 42), .ref (qm 43), .ref (qm 44), .ref (qm 45), .ref (qm 46), .ref (qm 47), .ref (qm 48), .int 0, .int 0, .int 0, .int 0, .int 0, .int 0, .int 0, .int 0, .int 0, .int 1, .ref (qm 49), .ref (qm 50), .int 0, .int 0, .ref (qm 51), .ref (qm 52), .ref (qm 53), .ref (qm 54), .ref (qm 55), .ref (qm 56), .ref (qm 57), .ref (qm 58), .ref (qm 59), .ref (qm 60), .ref (qm 61), .ref (qm 62), .ref (qm 63), .ref (qm 64), .ref (qm 65), .ref (qm 66), .ref (qm 67), .ref (qm 68), .ref (qm 69), .ref (qm 70), .ref (qm 71), .ref (qm 72), .ref (qm 73), .int 0, .int 0, .int 0, .int 0, .int 0, .ref (qm 74), .ref (qm 75), .int 0, .ref (qm 76), .ref (qm 77), .ref (qm 78), .ref (qm 79), .int 0, .ref (qm 80), .ref (qm 81), .ref (qm 82), .ref (qm 83), .ref (qm 84), .ref (qm 85), .ref (qm 86), .ref (qm 87), .int 0, .ref (qm 88), .int 0, .int 0, .int 0, .int 0, .int 0, .int 0, .int 0])), (qm 5, .inl (k_routines, 2, .inl (fun _ => 0)))]) hD hS hA [0, 1] rfl
  refine va_calli (va_runV (As := [.int z2, .int z4, .int z6]) (rest := [.int (-1)]) ⟨hx, hb, hml, hown, hts⟩ (ct_X12_live l dC dI mo qm ks k_routines z2 z4 z6 H.size) (cwV 3 hts (gd_V wd_1962 wd_1963 wd_1964 wd_15 wd_1965) rfl rfl rfl (by decide +kernel) ⟨Nat.le_of_ble_eq_true rfl, Nat.le_of_ble_eq_true rfl⟩) ⟨fun a U g mk q => by obtain ⟨q0, q1, qP, qK, qD⟩ := q; exact ⟨q0, q1, qP, va_K.moved (u := U) (U := U.calling g mk a) (Vm.Alike.refl U.vm) qK, qD⟩, va_recv hKc hPc (ci := 12) (q0 := 0) rfl rfl, fun U hU hW => ⟨rfl, by rw [hU], by rw [hU]; exact hPc, va_K.moved hW.alike hKc, hDc.weaken (fun _ _ _ _ => trivial)⟩⟩ rfl rfl hl.1 rfl (lv_room (Nat.le_of_ble_eq_true rfl)) dL_law_430 ⟨Nat.le_of_ble_eq_true rfl, Nat.le_of_ble_eq_true rfl⟩) hS (fun q _ h => hFc q h) hFc (fun r14 u t H1 locs ht hvm hw hB hz1 hk1 hS => ?_)
  obtain ⟨hP1, hK1, hD1⟩ := hB
  rw [ht] at hP1
  have hK1 := va_K.moved hvm.symm hK1
  obtain ⟨hP, hD⟩ := va_join (wr := []) (w1 := []) hP hD [0, 1] [] rfl rfl (by decide) (by decide) hk1 hFc hP1 hD1
  have hK := (hK.sub (tys' := [(k_routines, .int)]) [0] rfl).app (hK1.sub (tys' := []) [] rfl)
  generalize H1 = H at hP hS ⊢
  have hP : va_P (dC, dI) vwCl [] H := hP
  have hD : va_D A [] := hD
  have hK : va_K (dC, dI) vwCl [(k_routines, .int)] s := hK
  obtain rfl := hw
  refine lv_icmp_eq (tgt := 1031) hx hb dL_law_433 (by decide) (fun _ => ?_) (fun h => absurd (by decide) h)
  refine lv_iinc (v := 7) (lv' := [(4, .int 7), (3, .ref oq), (2, .ref mo), (1, .ref x), (0, .ref b)]) hx hb dL_law_1031 hl (k := 0) rfl (by decide) (by decide) rfl (fun ls hl => ?_)
  refine lv_goto (tgt := 23) hx hb dL_law_1034 (by decide) ?_
  refine lv_iload hx hb dL_law_23 (lv_at hl 0 rfl) ?_
  refine lv_aload_n hx hb dL_law_25 rfl (lv_at hl 4 rfl) ?_
  refine va_slen hx hb hX hbl hbA hS dL_law_26 ?_
  refine lv_topi (fun z15 ez15 => ?_)
  obtain rfl : z15 = 7 := ez15.trans (by decide)
  refine lv_bipush (v := 7) hx hb dL_law_27 (by decide) ?_
  refine lv_isub hx hb dL_law_29 ?_
  refine lv_topi (fun z16 ez16 => ?_)
  obtain rfl : z16 = 0 := ez16.trans (by decide)
  refine lv_icmp_gt (tgt := 1037) hx hb dL_law_30 (by decide) (fun _ => ?_) (fun h => absurd (by decide) h)
  refine lv_iconst (v := 1) hx hb dL_law_1037 (by decide) ?_
  refine va_forget (fun q hq => by have h9 := hS.2.2 q hq; rw [hAeq] at h9; exact h9) ?_
  refine W.widen (k := 600002) (n := 7302232) (Nat.le_of_ble_eq_true rfl) (Nat.le_of_ble_eq_true rfl) ?_
  exact lw_ret hx hb hr hlocks dL_law_1038
