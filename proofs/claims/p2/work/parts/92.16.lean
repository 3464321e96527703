theorem wd_22 : (Jvm.Cond.initialized "Sleepers$Task") ∈ tb := tb_at 22 (by decide +kernel) (by decide +kernel)
theorem wd_246 : (Jvm.Cond.fieldLink "Sleepers$Runner" (142 : Nat) "Sleepers$Hall" "clock" "I") ∈ tb := tb_at 246 (by decide +kernel) (by decide +kernel)
theorem wd_301 : (Jvm.Cond.fieldLink "Sleepers$Runner" (132 : Nat) "Sleepers$Runner" "allSteps" "I") ∈ tb := tb_at 301 (by decide +kernel) (by decide +kernel)
theorem wd_303 : (Jvm.Cond.fieldLink "Sleepers$Runner" (32 : Nat) "Sleepers$Runner" "turnSteps" "I") ∈ tb := tb_at 303 (by decide +kernel) (by decide +kernel)
theorem wd_404 : (Jvm.Cond.fieldLink "Sleepers$Runner" (136 : Nat) "Sleepers$Program" "arg" "[I") ∈ tb := tb_at 404 (by decide +kernel) (by decide +kernel)
theorem wd_862 : (Jvm.Cond.fieldLink "Sleepers$Runner" (63 : Nat) "Sleepers$Task" "number" "I") ∈ tb := tb_at 862 (by decide +kernel) (by decide +kernel)
theorem wd_954 : (Jvm.Cond.instanceMethod ({ cls := "Sleepers$Task", name := "set", desc := "(II)V" } : Jvm.MethodName)) ∈ tb := tb_at 954 (by decide +kernel) (by decide +kernel)
theorem wd_955 : (Jvm.Cond.selects "Sleepers$Task" ({ cls := "Sleepers$Task", name := "set", desc := "(II)V" } : Jvm.MethodName) ({ cls := "Sleepers$Task", name := "set", desc := "(II)V" } : Jvm.MethodName)) ∈ tb := tb_at 955 (by decide +kernel) (by decide +kernel)
theorem wd_956 : (Jvm.Cond.code ({ cls := "Sleepers$Task", name := "set", desc := "(II)V" } : Jvm.MethodName) prog_11_method_3_code (3 : Nat) (Option.none : Option Jvm.ClassFile.FieldType)) ∈ tb := tb_at 956 (by decide +kernel) (by decide +kernel)
theorem wd_978 : (Jvm.Cond.methodLink "Sleepers$Runner" (98 : Nat) ({ cls := "Sleepers$Runner", name := "push", desc := "(I)V" } : Jvm.MethodName)) ∈ tb := tb_at 978 (by decide +kernel) (by decide +kernel)
theorem wd_980 : (Jvm.Cond.instanceMethod ({ cls := "Sleepers$Runner", name := "push", desc := "(I)V" } : Jvm.MethodName)) ∈ tb := tb_at 980 (by decide +kernel) (by decide +kernel)
theorem wd_981 : (Jvm.Cond.code ({ cls := "Sleepers$Runner", name := "push", desc := "(I)V" } : Jvm.MethodName) prog_8_method_6_code (2 : Nat) (Option.none : Option Jvm.ClassFile.FieldType)) ∈ tb := tb_at 981 (by decide +kernel) (by decide +kernel)
theorem wd_1004 : (Jvm.Cond.constant "Sleepers$Runner" (135 : Nat) (100000 : Int32)) ∈ tb := tb_at 1004 (by decide +kernel) (by decide +kernel)
theorem wd_1009 : (Jvm.Cond.methodLink "Sleepers$Runner" (139 : Nat) ({ cls := "Sleepers$Task", name := "look", desc := "(I)I" } : Jvm.MethodName)) ∈ tb := tb_at 1009 (by decide +kernel) (by decide +kernel)
theorem wd_1010 : (Jvm.Cond.instanceMethod ({ cls := "Sleepers$Task", name := "look", desc := "(I)I" } : Jvm.MethodName)) ∈ tb := tb_at 1010 (by decide +kernel) (by decide +kernel)
theorem wd_1011 : (Jvm.Cond.selects "Sleepers$Task" ({ cls := "Sleepers$Task", name := "look", desc := "(I)I" } : Jvm.MethodName) ({ cls := "Sleepers$Task", name := "look", desc := "(I)I" } : Jvm.MethodName)) ∈ tb := tb_at 1011 (by decide +kernel) (by decide +kernel)
theorem wd_1012 : (Jvm.Cond.code ({ cls := "Sleepers$Task", name := "look", desc := "(I)I" } : Jvm.MethodName) prog_11_method_2_code (2 : Nat) (Option.some Jvm.ClassFile.FieldType.int)) ∈ tb := tb_at 1012 (by decide +kernel) (by decide +kernel)
theorem wd_1013 : (Jvm.Cond.methodLink "Sleepers$Runner" (145 : Nat) ({ cls := "Sleepers$Runner", name := "pop", desc := "()I" } : Jvm.MethodName)) ∈ tb := tb_at 1013 (by decide +kernel) (by decide +kernel)
theorem wd_1015 : (Jvm.Cond.instanceMethod ({ cls := "Sleepers$Runner", name := "pop", desc := "()I" } : Jvm.MethodName)) ∈ tb := tb_at 1015 (by decide +kernel) (by decide +kernel)
theorem wd_1016 : (Jvm.Cond.code ({ cls := "Sleepers$Runner", name := "pop", desc := "()I" } : Jvm.MethodName) prog_8_method_7_code (1 : Nat) (Option.some Jvm.ClassFile.FieldType.int)) ∈ tb := tb_at 1016 (by decide +kernel) (by decide +kernel)
theorem wd_1017 : (Jvm.Cond.methodLink "Sleepers$Runner" (149 : Nat) ({ cls := "Sleepers$Runner", name := "join", desc := "(LSleepers$Task;II)V" } : Jvm.MethodName)) ∈ tb := tb_at 1017 (by decide +kernel) (by decide +kernel)
theorem wd_1019 : (Jvm.Cond.instanceMethod ({ cls := "Sleepers$Runner", name := "join", desc := "(LSleepers$Task;II)V" } : Jvm.MethodName)) ∈ tb := tb_at 1019 (by decide +kernel) (by decide +kernel)
theorem wd_1020 : (Jvm.Cond.code ({ cls := "Sleepers$Runner", name := "join", desc := "(LSleepers$Task;II)V" } : Jvm.MethodName) prog_8_method_9_code (6 : Nat) (Option.none : Option Jvm.ClassFile.FieldType)) ∈ tb := tb_at 1020 (by decide +kernel) (by decide +kernel)
theorem wd_1021 : (Jvm.Cond.methodLink "Sleepers$Runner" (152 : Nat) ({ cls := "Sleepers$Runner", name := "fail", desc := "(LSleepers$Task;II)V" } : Jvm.MethodName)) ∈ tb := tb_at 1021 (by decide +kernel) (by decide +kernel)
theorem wd_1023 : (Jvm.Cond.instanceMethod ({ cls := "Sleepers$Runner", name := "fail", desc := "(LSleepers$Task;II)V" } : Jvm.MethodName)) ∈ tb := tb_at 1023 (by decide +kernel) (by decide +kernel)
theorem wd_1024 : (Jvm.Cond.code ({ cls := "Sleepers$Runner", name := "fail", desc := "(LSleepers$Task;II)V" } : Jvm.MethodName) prog_8_method_12_code (4 : Nat) (Option.none : Option Jvm.ClassFile.FieldType)) ∈ tb := tb_at 1024 (by decide +kernel) (by decide +kernel)
theorem wd_1029 : (Jvm.Cond.methodLink "Sleepers$Runner" (159 : Nat) ({ cls := "Sleepers$Task", name := "set", desc := "(II)V" } : Jvm.MethodName)) ∈ tb := tb_at 1029 (by decide +kernel) (by decide +kernel)
theorem wd_1030 : (Jvm.Cond.methodLink "Sleepers$Runner" (163 : Nat) ({ cls := "Sleepers$Book", name := "note", desc := "(II)V" } : Jvm.MethodName)) ∈ tb := tb_at 1030 (by decide +kernel) (by decide +kernel)
theorem wd_1034 : (Jvm.Cond.methodLink "Sleepers$Runner" (187 : Nat) ({ cls := "Sleepers$Runner", name := "finishEnd", desc := "(LSleepers$Task;I)V" } : Jvm.MethodName)) ∈ tb := tb_at 1034 (by decide +kernel) (by decide +kernel)
theorem wd_1036 : (Jvm.Cond.instanceMethod ({ cls := "Sleepers$Runner", name := "finishEnd", desc := "(LSleepers$Task;I)V" } : Jvm.MethodName)) ∈ tb := tb_at 1036 (by decide +kernel) (by decide +kernel)
theorem wd_1037 : (Jvm.Cond.code ({ cls := "Sleepers$Runner", name := "finishEnd", desc := "(LSleepers$Task;I)V" } : Jvm.MethodName) prog_8_method_11_code (5 : Nat) (Option.none : Option Jvm.ClassFile.FieldType)) ∈ tb := tb_at 1037 (by decide +kernel) (by decide +kernel)
theorem sl_X6_fail : Cond.selects RX6 yX6_fail yX6_fail ∈ tb := sl_of (y := ⟨"Sleepers$Runner", "fail", "(LSleepers$Task;II)V"⟩) (n := 8) (by decide +kernel) (by decide +kernel)
theorem sl_X6_finishEnd : Cond.selects RX6 yX6_finishEnd yX6_finishEnd ∈ tb := sl_of (y := ⟨"Sleepers$Runner", "finishEnd", "(LSleepers$Task;I)V"⟩) (n := 8) (by decide +kernel) (by decide +kernel)
theorem sl_X6_join : Cond.selects RX6 yX6_join yX6_join ∈ tb := sl_of (y := ⟨"Sleepers$Runner", "join", "(LSleepers$Task;II)V"⟩) (n := 8) (by decide +kernel) (by decide +kernel)
theorem sl_X6_pop : Cond.selects RX6 yX6_pop yX6_pop ∈ tb := sl_of (y := ⟨"Sleepers$Runner", "pop", "()I"⟩) (n := 8) (by decide +kernel) (by decide +kernel)
theorem sl_X6_push : Cond.selects RX6 yX6_push yX6_push ∈ tb := sl_of (y := ⟨"Sleepers$Runner", "push", "(I)V"⟩) (n := 8) (by decide +kernel) (by decide +kernel)
theorem dX6_flow_0 : decode cX6_flow 0 = .ok (.aload_n 0, 1) := by decide +kernel
theorem dX6_flow_1 : decode cX6_flow 1 = .ok (.getfield 22, 3) := by decide +kernel
theorem dX6_flow_4 : decode cX6_flow 4 = .ok (.getfield 82, 3) := by decide +kernel
theorem dX6_flow_7 : decode cX6_flow 7 = .ok (.astore 4, 2) := by decide +kernel
theorem dX6_flow_9 : decode cX6_flow 9 = .ok (.aload 4, 2) := by decide +kernel
theorem dX6_flow_11 : decode cX6_flow 11 = .ok (.getfield 155, 3) := by decide +kernel
theorem dX6_flow_14 : decode cX6_flow 14 = .ok (.astore 5, 2) := by decide +kernel
theorem dX6_flow_16 : decode cX6_flow 16 = .ok (.aload 4, 2) := by decide +kernel
theorem dX6_flow_18 : decode cX6_flow 18 = .ok (.getfield 136, 3) := by decide +kernel
theorem dX6_flow_21 : decode cX6_flow 21 = .ok (.iload_n 3, 1) := by decide +kernel
theorem dX6_flow_22 : decode cX6_flow 22 = .ok (.iaload, 1) := by decide +kernel
theorem dX6_flow_23 : decode cX6_flow 23 = .ok (.istore 6, 2) := by decide +kernel
theorem dX6_flow_25 : decode cX6_flow 25 = .ok (.iload_n 2, 1) := by decide +kernel
theorem dX6_flow_26 : decode cX6_flow 26 = .ok (.tableswitch 265 13 23 #[58, 71, 89, 111, 120, 138, 156, 176, 187, 242, 255], 58) := by decide +kernel
theorem dX6_flow_84 : decode cX6_flow 84 = .ok (.aload_n 1, 1) := by decide +kernel
theorem dX6_flow_85 : decode cX6_flow 85 = .ok (.iload 6, 2) := by decide +kernel
theorem dX6_flow_87 : decode cX6_flow 87 = .ok (.aload_n 0, 1) := by decide +kernel
theorem dX6_flow_88 : decode cX6_flow 88 = .ok (.invokevirtual 145, 3) := by decide +kernel
theorem dX6_flow_91 : decode cX6_flow 91 = .ok (.invokevirtual 159, 3) := by decide +kernel
theorem dX6_flow_94 : decode cX6_flow 94 = .ok (.goto 204, 3) := by decide +kernel
theorem dX6_flow_97 : decode cX6_flow 97 = .ok (.aload_n 0, 1) := by decide +kernel
theorem dX6_flow_98 : decode cX6_flow 98 = .ok (.getfield 12, 3) := by decide +kernel
theorem dX6_flow_101 : decode cX6_flow 101 = .ok (.aload_n 1, 1) := by decide +kernel
theorem dX6_flow_102 : decode cX6_flow 102 = .ok (.getfield 63, 3) := by decide +kernel
theorem dX6_flow_105 : decode cX6_flow 105 = .ok (.aload_n 0, 1) := by decide +kernel
theorem dX6_flow_106 : decode cX6_flow 106 = .ok (.invokevirtual 145, 3) := by decide +kernel
theorem dX6_flow_109 : decode cX6_flow 109 = .ok (.invokevirtual 163, 3) := by decide +kernel
theorem dX6_flow_112 : decode cX6_flow 112 = .ok (.goto 186, 3) := by decide +kernel
theorem dX6_flow_115 : decode cX6_flow 115 = .ok (.aload_n 1, 1) := by decide +kernel
theorem dX6_flow_116 : decode cX6_flow 116 = .ok (.aload_n 0, 1) := by decide +kernel
theorem dX6_flow_117 : decode cX6_flow 117 = .ok (.invokevirtual 145, 3) := by decide +kernel
theorem dX6_flow_120 : decode cX6_flow 120 = .ok (.ifCond .ne 8, 3) := by decide +kernel
theorem dX6_flow_123 : decode cX6_flow 123 = .ok (.iload 6, 2) := by decide +kernel
theorem dX6_flow_125 : decode cX6_flow 125 = .ok (.goto 6, 3) := by decide +kernel
theorem dX6_flow_128 : decode cX6_flow 128 = .ok (.iload_n 3, 1) := by decide +kernel
theorem dX6_flow_129 : decode cX6_flow 129 = .ok (.iconst 1, 1) := by decide +kernel
theorem dX6_flow_130 : decode cX6_flow 130 = .ok (.iadd, 1) := by decide +kernel
theorem dX6_flow_131 : decode cX6_flow 131 = .ok (.putfield 86, 3) := by decide +kernel
theorem dX6_flow_134 : decode cX6_flow 134 = .ok (.goto 164, 3) := by decide +kernel
theorem dX6_flow_137 : decode cX6_flow 137 = .ok (.aload_n 1, 1) := by decide +kernel
theorem dX6_flow_138 : decode cX6_flow 138 = .ok (.iload 6, 2) := by decide +kernel
theorem dX6_flow_140 : decode cX6_flow 140 = .ok (.putfield 86, 3) := by decide +kernel
theorem dX6_flow_143 : decode cX6_flow 143 = .ok (.goto 155, 3) := by decide +kernel
theorem dX6_flow_146 : decode cX6_flow 146 = .ok (.aload_n 0, 1) := by decide +kernel
theorem dX6_flow_147 : decode cX6_flow 147 = .ok (.aload_n 1, 1) := by decide +kernel
theorem dX6_flow_148 : decode cX6_flow 148 = .ok (.iconst 1, 1) := by decide +kernel
theorem dX6_flow_149 : decode cX6_flow 149 = .ok (.iload 6, 2) := by decide +kernel
theorem dX6_flow_151 : decode cX6_flow 151 = .ok (.aload 4, 2) := by decide +kernel
theorem dX6_flow_153 : decode cX6_flow 153 = .ok (.getfield 166, 3) := by decide +kernel
theorem dX6_flow_156 : decode cX6_flow 156 = .ok (.iload_n 3, 1) := by decide +kernel
theorem dX6_flow_157 : decode cX6_flow 157 = .ok (.iaload, 1) := by decide +kernel
theorem dX6_flow_158 : decode cX6_flow 158 = .ok (.invokevirtual 102, 3) := by decide +kernel
theorem dX6_flow_161 : decode cX6_flow 161 = .ok (.goto 137, 3) := by decide +kernel
theorem dX6_flow_164 : decode cX6_flow 164 = .ok (.aload_n 0, 1) := by decide +kernel
theorem dX6_flow_165 : decode cX6_flow 165 = .ok (.aload_n 1, 1) := by decide +kernel
theorem dX6_flow_166 : decode cX6_flow 166 = .ok (.iconst 2, 1) := by decide +kernel
theorem dX6_flow_167 : decode cX6_flow 167 = .ok (.iload 6, 2) := by decide +kernel
theorem dX6_flow_169 : decode cX6_flow 169 = .ok (.aload 4, 2) := by decide +kernel
theorem dX6_flow_171 : decode cX6_flow 171 = .ok (.getfield 166, 3) := by decide +kernel
theorem dX6_flow_174 : decode cX6_flow 174 = .ok (.iload_n 3, 1) := by decide +kernel
theorem dX6_flow_175 : decode cX6_flow 175 = .ok (.iaload, 1) := by decide +kernel
theorem dX6_flow_176 : decode cX6_flow 176 = .ok (.invokevirtual 102, 3) := by decide +kernel
theorem dX6_flow_179 : decode cX6_flow 179 = .ok (.goto 119, 3) := by decide +kernel
theorem dX6_flow_182 : decode cX6_flow 182 = .ok (.aload_n 0, 1) := by decide +kernel
theorem dX6_flow_183 : decode cX6_flow 183 = .ok (.aload_n 1, 1) := by decide +kernel
theorem dX6_flow_184 : decode cX6_flow 184 = .ok (.iconst 3, 1) := by decide +kernel
theorem dX6_flow_185 : decode cX6_flow 185 = .ok (.aload_n 0, 1) := by decide +kernel
theorem dX6_flow_186 : decode cX6_flow 186 = .ok (.invokevirtual 145, 3) := by decide +kernel
theorem dX6_flow_189 : decode cX6_flow 189 = .ok (.aload 4, 2) := by decide +kernel
theorem dX6_flow_191 : decode cX6_flow 191 = .ok (.getfield 166, 3) := by decide +kernel
theorem dX6_flow_194 : decode cX6_flow 194 = .ok (.iload_n 3, 1) := by decide +kernel
theorem dX6_flow_195 : decode cX6_flow 195 = .ok (.iaload, 1) := by decide +kernel
theorem dX6_flow_196 : decode cX6_flow 196 = .ok (.invokevirtual 102, 3) := by decide +kernel
theorem dX6_flow_199 : decode cX6_flow 199 = .ok (.goto 99, 3) := by decide +kernel
theorem dX6_flow_202 : decode cX6_flow 202 = .ok (.aload_n 0, 1) := by decide +kernel
theorem dX6_flow_203 : decode cX6_flow 203 = .ok (.aload_n 1, 1) := by decide +kernel
theorem dX6_flow_204 : decode cX6_flow 204 = .ok (.iload 6, 2) := by decide +kernel
theorem dX6_flow_206 : decode cX6_flow 206 = .ok (.iload_n 3, 1) := by decide +kernel
theorem dX6_flow_207 : decode cX6_flow 207 = .ok (.invokevirtual 152, 3) := by decide +kernel
theorem dX6_flow_210 : decode cX6_flow 210 = .ok (.goto 88, 3) := by decide +kernel
theorem dX6_flow_213 : decode cX6_flow 213 = .ok (.aload 5, 2) := by decide +kernel
theorem dX6_flow_215 : decode cX6_flow 215 = .ok (.iload 6, 2) := by decide +kernel
theorem dX6_flow_217 : decode cX6_flow 217 = .ok (.iconst 2, 1) := by decide +kernel
theorem dX6_flow_218 : decode cX6_flow 218 = .ok (.invokevirtual 171, 3) := by decide +kernel
theorem dX6_flow_221 : decode cX6_flow 221 = .ok (.ifCond .eq 32, 3) := by decide +kernel
theorem dX6_flow_224 : decode cX6_flow 224 = .ok (.aload_n 1, 1) := by decide +kernel
theorem dX6_flow_225 : decode cX6_flow 225 = .ok (.getfield 175, 3) := by decide +kernel
theorem dX6_flow_228 : decode cX6_flow 228 = .ok (.aload 5, 2) := by decide +kernel
theorem dX6_flow_230 : decode cX6_flow 230 = .ok (.getfield 178, 3) := by decide +kernel
theorem dX6_flow_233 : decode cX6_flow 233 = .ok (.iload 6, 2) := by decide +kernel
theorem dX6_flow_235 : decode cX6_flow 235 = .ok (.iaload, 1) := by decide +kernel
theorem dX6_flow_236 : decode cX6_flow 236 = .ok (.iconst 0, 1) := by decide +kernel
theorem dX6_flow_237 : decode cX6_flow 237 = .ok (.iastore, 1) := by decide +kernel
theorem dX6_flow_238 : decode cX6_flow 238 = .ok (.aload_n 1, 1) := by decide +kernel
theorem dX6_flow_239 : decode cX6_flow 239 = .ok (.aload 5, 2) := by decide +kernel
theorem dX6_flow_241 : decode cX6_flow 241 = .ok (.getfield 181, 3) := by decide +kernel
theorem dX6_flow_244 : decode cX6_flow 244 = .ok (.iload 6, 2) := by decide +kernel
theorem dX6_flow_246 : decode cX6_flow 246 = .ok (.iaload, 1) := by decide +kernel
theorem dX6_flow_247 : decode cX6_flow 247 = .ok (.putfield 86, 3) := by decide +kernel
theorem dX6_flow_250 : decode cX6_flow 250 = .ok (.goto 48, 3) := by decide +kernel
theorem dX6_flow_253 : decode cX6_flow 253 = .ok (.aload_n 1, 1) := by decide +kernel
theorem dX6_flow_254 : decode cX6_flow 254 = .ok (.aload 5, 2) := by decide +kernel
theorem dX6_flow_256 : decode cX6_flow 256 = .ok (.getfield 184, 3) := by decide +kernel
theorem dX6_flow_259 : decode cX6_flow 259 = .ok (.iload 6, 2) := by decide +kernel
theorem dX6_flow_261 : decode cX6_flow 261 = .ok (.iaload, 1) := by decide +kernel
theorem dX6_flow_262 : decode cX6_flow 262 = .ok (.putfield 86, 3) := by decide +kernel
theorem dX6_flow_265 : decode cX6_flow 265 = .ok (.goto 33, 3) := by decide +kernel
theorem dX6_flow_268 : decode cX6_flow 268 = .ok (.aload_n 1, 1) := by decide +kernel
theorem dX6_flow_269 : decode cX6_flow 269 = .ok (.iload 6, 2) := by decide +kernel
theorem dX6_flow_271 : decode cX6_flow 271 = .ok (.aload_n 0, 1) := by decide +kernel
theorem dX6_flow_272 : decode cX6_flow 272 = .ok (.getfield 53, 3) := by decide +kernel
theorem dX6_flow_275 : decode cX6_flow 275 = .ok (.invokevirtual 159, 3) := by decide +kernel
theorem dX6_flow_278 : decode cX6_flow 278 = .ok (.goto 20, 3) := by decide +kernel
theorem dX6_flow_281 : decode cX6_flow 281 = .ok (.aload_n 0, 1) := by decide +kernel
theorem dX6_flow_282 : decode cX6_flow 282 = .ok (.aload_n 1, 1) := by decide +kernel
theorem dX6_flow_283 : decode cX6_flow 283 = .ok (.iload 6, 2) := by decide +kernel
theorem dX6_flow_285 : decode cX6_flow 285 = .ok (.invokevirtual 187, 3) := by decide +kernel
theorem dX6_flow_288 : decode cX6_flow 288 = .ok (.goto 10, 3) := by decide +kernel
theorem dX6_flow_291 : decode cX6_flow 291 = .ok (.aload_n 0, 1) := by decide +kernel
theorem dX6_flow_292 : decode cX6_flow 292 = .ok (.aload_n 1, 1) := by decide +kernel
theorem dX6_flow_293 : decode cX6_flow 293 = .ok (.iconst 0, 1) := by decide +kernel
theorem dX6_flow_294 : decode cX6_flow 294 = .ok (.iconst 0, 1) := by decide +kernel
theorem dX6_flow_295 : decode cX6_flow 295 = .ok (.invokevirtual 109, 3) := by decide +kernel
theorem dX6_flow_298 : decode cX6_flow 298 = .ok (.return_, 1) := by decide +kernel
theorem dX6_join_0 : decode cX6_join 0 = .ok (.aload_n 0, 1) := by decide +kernel
theorem dX6_join_1 : decode cX6_join 1 = .ok (.invokevirtual 145, 3) := by decide +kernel
theorem dX6_join_4 : decode cX6_join 4 = .ok (.istore 4, 2) := by decide +kernel
theorem dX6_join_6 : decode cX6_join 6 = .ok (.aload_n 0, 1) := by decide +kernel
theorem dX6_join_7 : decode cX6_join 7 = .ok (.invokevirtual 145, 3) := by decide +kernel
theorem dX6_join_10 : decode cX6_join 10 = .ok (.istore 5, 2) := by decide +kernel
theorem dX6_join_12 : decode cX6_join 12 = .ok (.iload_n 2, 1) := by decide +kernel
theorem dX6_join_13 : decode cX6_join 13 = .ok (.tableswitch 117 6 12 #[43, 55, 67, 117, 117, 79, 98], 43) := by decide +kernel
theorem dX6_join_56 : decode cX6_join 56 = .ok (.aload_n 0, 1) := by decide +kernel
theorem dX6_join_57 : decode cX6_join 57 = .ok (.iload 5, 2) := by decide +kernel
theorem dX6_join_59 : decode cX6_join 59 = .ok (.iload 4, 2) := by decide +kernel
theorem dX6_join_61 : decode cX6_join 61 = .ok (.iadd, 1) := by decide +kernel
theorem dX6_join_62 : decode cX6_join 62 = .ok (.invokevirtual 98, 3) := by decide +kernel
theorem dX6_join_65 : decode cX6_join 65 = .ok (.goto 104, 3) := by decide +kernel
theorem dX6_join_68 : decode cX6_join 68 = .ok (.aload_n 0, 1) := by decide +kernel
theorem dX6_join_69 : decode cX6_join 69 = .ok (.iload 5, 2) := by decide +kernel
theorem dX6_join_71 : decode cX6_join 71 = .ok (.iload 4, 2) := by decide +kernel
theorem dX6_join_73 : decode cX6_join 73 = .ok (.isub, 1) := by decide +kernel
theorem dX6_join_74 : decode cX6_join 74 = .ok (.invokevirtual 98, 3) := by decide +kernel
theorem dX6_join_77 : decode cX6_join 77 = .ok (.goto 92, 3) := by decide +kernel
theorem dX6_join_80 : decode cX6_join 80 = .ok (.aload_n 0, 1) := by decide +kernel
theorem dX6_join_81 : decode cX6_join 81 = .ok (.iload 5, 2) := by decide +kernel
theorem dX6_join_83 : decode cX6_join 83 = .ok (.iload 4, 2) := by decide +kernel
theorem dX6_join_85 : decode cX6_join 85 = .ok (.imul, 1) := by decide +kernel
theorem dX6_join_86 : decode cX6_join 86 = .ok (.invokevirtual 98, 3) := by decide +kernel
theorem dX6_join_89 : decode cX6_join 89 = .ok (.goto 80, 3) := by decide +kernel
theorem dX6_join_92 : decode cX6_join 92 = .ok (.aload_n 0, 1) := by decide +kernel
theorem dX6_join_93 : decode cX6_join 93 = .ok (.iload 5, 2) := by decide +kernel
theorem dX6_join_95 : decode cX6_join 95 = .ok (.iload 4, 2) := by decide +kernel
theorem dX6_join_97 : decode cX6_join 97 = .ok (.if_icmp .ge 7, 3) := by decide +kernel
theorem dX6_join_100 : decode cX6_join 100 = .ok (.iconst 1, 1) := by decide +kernel
theorem dX6_join_101 : decode cX6_join 101 = .ok (.goto 4, 3) := by decide +kernel
theorem dX6_join_104 : decode cX6_join 104 = .ok (.iconst 0, 1) := by decide +kernel
theorem dX6_join_105 : decode cX6_join 105 = .ok (.invokevirtual 98, 3) := by decide +kernel
theorem dX6_join_108 : decode cX6_join 108 = .ok (.goto 61, 3) := by decide +kernel
theorem dX6_join_111 : decode cX6_join 111 = .ok (.aload_n 0, 1) := by decide +kernel
theorem dX6_join_112 : decode cX6_join 112 = .ok (.iload 5, 2) := by decide +kernel
theorem dX6_join_114 : decode cX6_join 114 = .ok (.iload 4, 2) := by decide +kernel
theorem dX6_join_116 : decode cX6_join 116 = .ok (.if_icmp .ne 7, 3) := by decide +kernel
theorem dX6_join_119 : decode cX6_join 119 = .ok (.iconst 1, 1) := by decide +kernel
theorem dX6_join_120 : decode cX6_join 120 = .ok (.goto 4, 3) := by decide +kernel
theorem dX6_join_123 : decode cX6_join 123 = .ok (.iconst 0, 1) := by decide +kernel
theorem dX6_join_124 : decode cX6_join 124 = .ok (.invokevirtual 98, 3) := by decide +kernel
theorem dX6_join_127 : decode cX6_join 127 = .ok (.goto 42, 3) := by decide +kernel
theorem dX6_join_130 : decode cX6_join 130 = .ok (.iload 4, 2) := by decide +kernel
theorem dX6_join_132 : decode cX6_join 132 = .ok (.ifCond .ne 14, 3) := by decide +kernel
theorem dX6_join_135 : decode cX6_join 135 = .ok (.aload_n 0, 1) := by decide +kernel
theorem dX6_join_136 : decode cX6_join 136 = .ok (.aload_n 1, 1) := by decide +kernel
theorem dX6_join_137 : decode cX6_join 137 = .ok (.bipush 11, 2) := by decide +kernel
theorem dX6_join_139 : decode cX6_join 139 = .ok (.iload_n 3, 1) := by decide +kernel
theorem dX6_join_140 : decode cX6_join 140 = .ok (.invokevirtual 152, 3) := by decide +kernel
theorem dX6_join_143 : decode cX6_join 143 = .ok (.goto 26, 3) := by decide +kernel
theorem dX6_join_146 : decode cX6_join 146 = .ok (.aload_n 0, 1) := by decide +kernel
theorem dX6_join_147 : decode cX6_join 147 = .ok (.iload_n 2, 1) := by decide +kernel
theorem dX6_join_148 : decode cX6_join 148 = .ok (.bipush 9, 2) := by decide +kernel
theorem dX6_join_150 : decode cX6_join 150 = .ok (.if_icmp .ne 11, 3) := by decide +kernel
theorem dX6_join_153 : decode cX6_join 153 = .ok (.iload 5, 2) := by decide +kernel
theorem dX6_join_155 : decode cX6_join 155 = .ok (.iload 4, 2) := by decide +kernel
theorem dX6_join_157 : decode cX6_join 157 = .ok (.idiv, 1) := by decide +kernel
theorem dX6_join_158 : decode cX6_join 158 = .ok (.goto 8, 3) := by decide +kernel
theorem dX6_join_161 : decode cX6_join 161 = .ok (.iload 5, 2) := by decide +kernel
theorem dX6_join_163 : decode cX6_join 163 = .ok (.iload 4, 2) := by decide +kernel
theorem dX6_join_165 : decode cX6_join 165 = .ok (.irem, 1) := by decide +kernel
theorem dX6_join_166 : decode cX6_join 166 = .ok (.invokevirtual 98, 3) := by decide +kernel
theorem dX6_join_169 : decode cX6_join 169 = .ok (.return_, 1) := by decide +kernel
theorem dX6_push_0 : decode cX6_push 0 = .ok (.aload_n 0, 1) := by decide +kernel
theorem dX6_push_1 : decode cX6_push 1 = .ok (.getfield 36, 3) := by decide +kernel
theorem dX6_push_4 : decode cX6_push 4 = .ok (.bipush 64, 2) := by decide +kernel
theorem dX6_push_6 : decode cX6_push 6 = .ok (.if_icmp .ge 23, 3) := by decide +kernel
theorem dX6_push_9 : decode cX6_push 9 = .ok (.aload_n 0, 1) := by decide +kernel
theorem dX6_push_10 : decode cX6_push 10 = .ok (.getfield 18, 3) := by decide +kernel
theorem dX6_push_13 : decode cX6_push 13 = .ok (.aload_n 0, 1) := by decide +kernel
theorem dX6_push_14 : decode cX6_push 14 = .ok (.getfield 36, 3) := by decide +kernel
theorem dX6_push_17 : decode cX6_push 17 = .ok (.iload_n 1, 1) := by decide +kernel
theorem dX6_push_18 : decode cX6_push 18 = .ok (.iastore, 1) := by decide +kernel
theorem dX6_push_19 : decode cX6_push 19 = .ok (.aload_n 0, 1) := by decide +kernel
theorem dX6_push_20 : decode cX6_push 20 = .ok (.dup, 1) := by decide +kernel
theorem dX6_push_21 : decode cX6_push 21 = .ok (.getfield 36, 3) := by decide +kernel
theorem dX6_push_24 : decode cX6_push 24 = .ok (.iconst 1, 1) := by decide +kernel
theorem dX6_push_25 : decode cX6_push 25 = .ok (.iadd, 1) := by decide +kernel
theorem dX6_push_26 : decode cX6_push 26 = .ok (.putfield 36, 3) := by decide +kernel
theorem dX6_push_29 : decode cX6_push 29 = .ok (.return_, 1) := by decide +kernel
theorem dX6_reckon_0 : decode cX6_reckon 0 = .ok (.aload_n 0, 1) := by decide +kernel
theorem dX6_reckon_1 : decode cX6_reckon 1 = .ok (.getfield 22, 3) := by decide +kernel
theorem dX6_reckon_4 : decode cX6_reckon 4 = .ok (.getfield 82, 3) := by decide +kernel
theorem dX6_reckon_7 : decode cX6_reckon 7 = .ok (.getfield 136, 3) := by decide +kernel
theorem dX6_reckon_10 : decode cX6_reckon 10 = .ok (.iload_n 3, 1) := by decide +kernel
theorem dX6_reckon_11 : decode cX6_reckon 11 = .ok (.iaload, 1) := by decide +kernel
theorem dX6_reckon_12 : decode cX6_reckon 12 = .ok (.istore 4, 2) := by decide +kernel
theorem dX6_reckon_14 : decode cX6_reckon 14 = .ok (.iload_n 2, 1) := by decide +kernel
theorem dX6_reckon_15 : decode cX6_reckon 15 = .ok (.tableswitch 96 0 5 #[37, 45, 48, 57, 70, 84], 37) := by decide +kernel
theorem dX6_reckon_52 : decode cX6_reckon 52 = .ok (.aload_n 0, 1) := by decide +kernel
theorem dX6_reckon_53 : decode cX6_reckon 53 = .ok (.iconst 0, 1) := by decide +kernel
theorem dX6_reckon_54 : decode cX6_reckon 54 = .ok (.putfield 36, 3) := by decide +kernel
theorem dX6_reckon_57 : decode cX6_reckon 57 = .ok (.goto 61, 3) := by decide +kernel
theorem dX6_reckon_60 : decode cX6_reckon 60 = .ok (.goto 58, 3) := by decide +kernel
theorem dX6_reckon_63 : decode cX6_reckon 63 = .ok (.aload_n 0, 1) := by decide +kernel
theorem dX6_reckon_64 : decode cX6_reckon 64 = .ok (.iload 4, 2) := by decide +kernel
theorem dX6_reckon_66 : decode cX6_reckon 66 = .ok (.invokevirtual 98, 3) := by decide +kernel
theorem dX6_reckon_69 : decode cX6_reckon 69 = .ok (.goto 49, 3) := by decide +kernel
theorem dX6_reckon_72 : decode cX6_reckon 72 = .ok (.aload_n 0, 1) := by decide +kernel
theorem dX6_reckon_73 : decode cX6_reckon 73 = .ok (.aload_n 1, 1) := by decide +kernel
theorem dX6_reckon_74 : decode cX6_reckon 74 = .ok (.iload 4, 2) := by decide +kernel
theorem dX6_reckon_76 : decode cX6_reckon 76 = .ok (.invokevirtual 139, 3) := by decide +kernel
theorem dX6_reckon_79 : decode cX6_reckon 79 = .ok (.invokevirtual 98, 3) := by decide +kernel
theorem dX6_reckon_82 : decode cX6_reckon 82 = .ok (.goto 36, 3) := by decide +kernel
theorem dX6_reckon_85 : decode cX6_reckon 85 = .ok (.aload_n 0, 1) := by decide +kernel
theorem dX6_reckon_86 : decode cX6_reckon 86 = .ok (.aload_n 0, 1) := by decide +kernel
theorem dX6_reckon_87 : decode cX6_reckon 87 = .ok (.getfield 22, 3) := by decide +kernel
theorem dX6_reckon_90 : decode cX6_reckon 90 = .ok (.getfield 142, 3) := by decide +kernel
theorem dX6_reckon_93 : decode cX6_reckon 93 = .ok (.invokevirtual 98, 3) := by decide +kernel
theorem dX6_reckon_96 : decode cX6_reckon 96 = .ok (.goto 22, 3) := by decide +kernel
theorem dX6_reckon_99 : decode cX6_reckon 99 = .ok (.aload_n 0, 1) := by decide +kernel
theorem dX6_reckon_100 : decode cX6_reckon 100 = .ok (.aload_n 0, 1) := by decide +kernel
theorem dX6_reckon_101 : decode cX6_reckon 101 = .ok (.invokevirtual 145, 3) := by decide +kernel
theorem dX6_reckon_104 : decode cX6_reckon 104 = .ok (.ineg, 1) := by decide +kernel
theorem dX6_reckon_105 : decode cX6_reckon 105 = .ok (.invokevirtual 98, 3) := by decide +kernel
theorem dX6_reckon_108 : decode cX6_reckon 108 = .ok (.goto 10, 3) := by decide +kernel
theorem dX6_reckon_111 : decode cX6_reckon 111 = .ok (.aload_n 0, 1) := by decide +kernel
theorem dX6_reckon_112 : decode cX6_reckon 112 = .ok (.aload_n 1, 1) := by decide +kernel
theorem dX6_reckon_113 : decode cX6_reckon 113 = .ok (.iload_n 2, 1) := by decide +kernel
theorem dX6_reckon_114 : decode cX6_reckon 114 = .ok (.iload_n 3, 1) := by decide +kernel
theorem dX6_reckon_115 : decode cX6_reckon 115 = .ok (.invokevirtual 149, 3) := by decide +kernel
theorem dX6_reckon_118 : decode cX6_reckon 118 = .ok (.return_, 1) := by decide +kernel
theorem dX6_step_0 : decode cX6_step 0 = .ok (.aload_n 0, 1) := by decide +kernel
theorem dX6_step_1 : decode cX6_step 1 = .ok (.getfield 32, 3) := by decide +kernel
theorem dX6_step_4 : decode cX6_step 4 = .ok (.sipush 3000, 3) := by decide +kernel
theorem dX6_step_7 : decode cX6_step 7 = .ok (.if_icmp .ge 12, 3) := by decide +kernel
theorem dX6_step_10 : decode cX6_step 10 = .ok (.aload_n 0, 1) := by decide +kernel
theorem dX6_step_11 : decode cX6_step 11 = .ok (.getfield 132, 3) := by decide +kernel
theorem dX6_step_14 : decode cX6_step 14 = .ok (.ldc 135, 2) := by decide +kernel
theorem dX6_step_16 : decode cX6_step 16 = .ok (.if_icmp .lt 5, 3) := by decide +kernel
theorem dX6_step_19 : decode cX6_step 19 = .ok (.iconst 0, 1) := by decide +kernel
theorem dX6_step_20 : decode cX6_step 20 = .ok (.ireturn, 1) := by decide +kernel
theorem dX6_step_21 : decode cX6_step 21 = .ok (.aload_n 0, 1) := by decide +kernel
theorem dX6_step_22 : decode cX6_step 22 = .ok (.dup, 1) := by decide +kernel
theorem dX6_step_23 : decode cX6_step 23 = .ok (.getfield 32, 3) := by decide +kernel
theorem dX6_step_26 : decode cX6_step 26 = .ok (.iconst 1, 1) := by decide +kernel
theorem dX6_step_27 : decode cX6_step 27 = .ok (.iadd, 1) := by decide +kernel
theorem dX6_step_28 : decode cX6_step 28 = .ok (.putfield 32, 3) := by decide +kernel
theorem dX6_step_31 : decode cX6_step 31 = .ok (.aload_n 0, 1) := by decide +kernel
theorem dX6_step_32 : decode cX6_step 32 = .ok (.dup, 1) := by decide +kernel
theorem dX6_step_33 : decode cX6_step 33 = .ok (.getfield 132, 3) := by decide +kernel
theorem dX6_step_36 : decode cX6_step 36 = .ok (.iconst 1, 1) := by decide +kernel
theorem dX6_step_37 : decode cX6_step 37 = .ok (.iadd, 1) := by decide +kernel
theorem dX6_step_38 : decode cX6_step 38 = .ok (.putfield 132, 3) := by decide +kernel
theorem dX6_step_41 : decode cX6_step 41 = .ok (.iconst 1, 1) := by decide +kernel
theorem dX6_step_42 : decode cX6_step 42 = .ok (.ireturn, 1) := by decide +kernel
theorem dX9_look_0 : decode cX9_look 0 = .ok (.iload_n 1, 1) := by decide +kernel
theorem dX9_look_1 : decode cX9_look 1 = .ok (.ifCond .lt 18, 3) := by decide +kernel
theorem dX9_look_4 : decode cX9_look 4 = .ok (.iload_n 1, 1) := by decide +kernel
theorem dX9_look_5 : decode cX9_look 5 = .ok (.bipush 12, 2) := by decide +kernel
theorem dX9_look_7 : decode cX9_look 7 = .ok (.if_icmp .ge 12, 3) := by decide +kernel
theorem dX9_look_10 : decode cX9_look 10 = .ok (.aload_n 0, 1) := by decide +kernel
theorem dX9_look_11 : decode cX9_look 11 = .ok (.getfield 9, 3) := by decide +kernel
theorem dX9_look_14 : decode cX9_look 14 = .ok (.iload_n 1, 1) := by decide +kernel
theorem dX9_look_15 : decode cX9_look 15 = .ok (.iaload, 1) := by decide +kernel
theorem dX9_look_16 : decode cX9_look 16 = .ok (.goto 4, 3) := by decide +kernel
theorem dX9_look_19 : decode cX9_look 19 = .ok (.iconst 0, 1) := by decide +kernel
theorem dX9_look_20 : decode cX9_look 20 = .ok (.ireturn, 1) := by decide +kernel
def wp_X6_flow (t0 : Nat) (a0 : Nat) (a1 : Int32) (a2 : Int32) (S : kS) (K : kS → Prop) : Prop := hasO S t0 6 ∧ ∀ z1 : Option Nat, z1 = S.2.1 41 t0 → ∃ q2 : Nat, z1 = some q2 ∧ hasO S q2 1 ∧ ∀ z3 : Option Nat, z3 = S.2.1 2 q2 → ∃ q4 : Nat, z3 = some q4 ∧ hasO S q4 5 ∧ ∀ z5 : Option Nat, z5 = S.2.1 31 q4 → hasO S q4 5 ∧ ∀ z6 : Option Nat, z6 = S.2.1 29 q4 → ∃ q7 : Nat, z6 = some q7 ∧ hasA S q7 8064 0 ∧ inR a2 8064 ∧ ∀ z8 : Int32, z8 = S.2.2.1 q7 (ix a2) → ((a1 = 13 → hasO S t0 6 ∧ wp_X6_pop t0 S (fun (S10 : kS) (r10 : Int32) => hasO S10 a0 9 ∧ wp_X9_set a0 z8 r10 S10 (fun (S11 : kS) => K S11))) ∧ (¬ a1 = 13 → ((a1 = 14 → hasO S t0 6 ∧ ∀ z13 : Option Nat, z13 = S.2.1 40 t0 → hasO S a0 9 ∧ ∀ z14 : Int32, z14 = S.1 28 a0 → hasO S t0 6 ∧ wp_X6_pop t0 S (fun (S15 : kS) (r15 : Int32) => ∃ q16 : Nat, z13 = some q16 ∧ hasO S15 q16 0 ∧ wp_X0_note q16 z14 r15 S15 (fun (S17 : kS) => K S17))) ∧ (¬ a1 = 14 → ((a1 = 15 → hasO S t0 6 ∧ wp_X6_pop t0 S (fun (S19 : kS) (r19 : Int32) => ((¬ r19 = 0 → ∀ z21 : Int32, z21 = a2 + 1 → hasO S19 a0 9 ∧ ∀ S22 : kS, S22 = cI S19 36 a0 z21 → K S22) ∧ (r19 = 0 → hasO S19 a0 9 ∧ ∀ S23 : kS, S23 = cI S19 36 a0 z8 → K S23)))) ∧ (¬ a1 = 15 → ((a1 = 16 → hasO S a0 9 ∧ ∀ S25 : kS, S25 = cI S 36 a0 z8 → K S25) ∧ (¬ a1 = 16 → ((a1 = 17 → hasO S q4 5 ∧ ∀ z27 : Option Nat, z27 = S.2.1 30 q4 → ∃ q28 : Nat, z27 = some q28 ∧ hasA S q28 8064 0 ∧ inR a2 8064 ∧ ∀ z29 : Int32, z29 = S.2.2.1 q28 (ix a2) → hasO S t0 6 ∧ wp_X6_leave t0 a0 1 z8 z29 S (fun (S30 : kS) => K S30)) ∧ (¬ a1 = 17 → ((a1 = 18 → hasO S q4 5 ∧ ∀ z32 : Option Nat, z32 = S.2.1 30 q4 → ∃ q33 : Nat, z32 = some q33 ∧ hasA S q33 8064 0 ∧ inR a2 8064 ∧ ∀ z34 : Int32, z34 = S.2.2.1 q33 (ix a2) → hasO S t0 6 ∧ wp_X6_leave t0 a0 2 z8 z34 S (fun (S35 : kS) => K S35)) ∧ (¬ a1 = 18 → ((a1 = 19 → hasO S t0 6 ∧ wp_X6_pop t0 S (fun (S37 : kS) (r37 : Int32) => hasO S37 q4 5 ∧ ∀ z38 : Option Nat, z38 = S37.2.1 30 q4 → ∃ q39 : Nat, z38 = some q39 ∧ hasA S37 q39 8064 0 ∧ inR a2 8064 ∧ ∀ z40 : Int32, z40 = S37.2.2.1 q39 (ix a2) → hasO S37 t0 6 ∧ wp_X6_leave t0 a0 3 r37 z40 S37 (fun (S41 : kS) => K S41))) ∧ (¬ a1 = 19 → ((a1 = 20 → hasO S t0 6 ∧ wp_X6_fail t0 a0 z8 a2 S (fun (S43 : kS) => K S43)) ∧ (¬ a1 = 20 → ((a1 = 21 → ∃ q45 : Nat, z5 = some q45 ∧ hasO S q45 7 ∧ wp_X7_is q45 z8 2 S (fun (S46 : kS) (r46 : Int32) => ((r46 = 0 → hasO S46 q45 7 ∧ ∀ z48 : Option Nat, z48 = S46.2.1 48 q45 → ∃ q49 : Nat, z48 = some q49 ∧ hasA S46 q49 460 0 ∧ inR z8 460 ∧ ∀ z50 : Int32, z50 = S46.2.2.1 q49 (ix z8) → hasO S46 a0 9 ∧ ∀ S51 : kS, S51 = cI S46 36 a0 z50 → K S51) ∧ (¬ r46 = 0 → hasO S46 a0 9 ∧ ∀ z52 : Option Nat, z52 = S46.2.1 59 a0 → hasO S46 q45 7 ∧ ∀ z53 : Option Nat, z53 = S46.2.1 44 q45 → ∃ q54 : Nat, z53 = some q54 ∧ hasA S46 q54 460 0 ∧ inR z8 460 ∧ ∀ z55 : Int32, z55 = S46.2.2.1 q54 (ix z8) → ∃ q56 : Nat, z52 = some q56 ∧ hasA S46 q56 10 0 ∧ inR z55 10 ∧ ∀ S57 : kS, S57 = cA S46 q56 (ix z55) 0 → hasO S57 q45 7 ∧ ∀ z58 : Option Nat, z58 = S57.2.1 47 q45 → ∃ q59 : Nat, z58 = some q59 ∧ hasA S57 q59 460 0 ∧ inR z8 460 ∧ ∀ z60 : Int32, z60 = S57.2.2.1 q59 (ix z8) → hasO S57 a0 9 ∧ ∀ S61 : kS, S61 = cI S57 36 a0 z60 → K S61)))) ∧ (¬ a1 = 21 → ((a1 = 22 → hasO S t0 6 ∧ ∀ z63 : Int32, z63 = S.1 23 t0 → hasO S a0 9 ∧ wp_X9_set a0 z8 z63 S (fun (S64 : kS) => K S64)) ∧ (¬ a1 = 22 → ((a1 = 23 → hasO S t0 6 ∧ wp_X6_finishEnd t0 a0 z8 S (fun (S66 : kS) => K S66)) ∧ (¬ a1 = 23 → hasO S t0 6 ∧ wp_X6_end t0 a0 0 0 S (fun (S67 : kS) => K S67)))))))))))))))))))))))
theorem cw_X6_145 {R : Room} {s : State} {args : Array Value} {fr lo : Nat} (hts : ∀ w ∈ tb, w.before args s = true) (h1 : fr + 1 ≤ R.frames) (h2 : 8 + (1 + 11) + lo ≤ R.locals) : CallW R s args RX6 RX6 145 yX6_pop cX6_pop 1 (some .int) (.code yX6_pop cX6_pop 1 (some .int) :: tb) (mRm fr lo) 0 0 0 := cwV 0 hts (gd_V wd_1013 wd_1015 sl_X6_pop wd_12 wd_1016) rfl rfl rfl (by decide +kernel) ⟨h1, h2⟩
theorem cw_X6_159 {R : Room} {s : State} {args : Array Value} {fr lo : Nat} (hts : ∀ w ∈ tb, w.before args s = true) (h1 : fr + 1 ≤ R.frames) (h2 : 8 + (3 + 11) + lo ≤ R.locals) : CallW R s args RX6 RX9 159 yX9_set cX9_set 3 none (.code yX9_set cX9_set 3 none :: tb) (mRm fr lo) 0 0 2 := cwV 2 hts (gd_V wd_1029 wd_954 wd_955 wd_22 wd_956) rfl rfl rfl (by decide +kernel) ⟨h1, h2⟩
theorem cw_X6_163 {R : Room} {s : State} {args : Array Value} {fr lo : Nat} (hts : ∀ w ∈ tb, w.before args s = true) (h1 : fr + 1 ≤ R.frames) (h2 : 8 + (3 + 11) + lo ≤ R.locals) : CallW R s args RX6 RX0 163 yX0_note cX0_note 3 none (.code yX0_note cX0_note 3 none :: tb) (mRm fr lo) 0 0 2 := cwV 2 hts (gd_V wd_1030 wd_1031 wd_1032 wd_11 wd_1033) rfl rfl rfl (by decide +kernel) ⟨h1, h2⟩
theorem cw_X6_152 {R : Room} {s : State} {args : Array Value} {fr lo : Nat} (hts : ∀ w ∈ tb, w.before args s = true) (h1 : fr + 1 ≤ R.frames) (h2 : 8 + (4 + 11) + lo ≤ R.locals) : CallW R s args RX6 RX6 152 yX6_fail cX6_fail 4 none (.code yX6_fail cX6_fail 4 none :: tb) (mRm fr lo) 0 0 3 := cwV 3 hts (gd_V wd_1021 wd_1023 sl_X6_fail wd_12 wd_1024) rfl rfl rfl (by decide +kernel) ⟨h1, h2⟩
theorem cw_X6_187 {R : Room} {s : State} {args : Array Value} {fr lo : Nat} (hts : ∀ w ∈ tb, w.before args s = true) (h1 : fr + 1 ≤ R.frames) (h2 : 8 + (5 + 11) + lo ≤ R.locals) : CallW R s args RX6 RX6 187 yX6_finishEnd cX6_finishEnd 5 none (.code yX6_finishEnd cX6_finishEnd 5 none :: tb) (mRm fr lo) 0 0 2 := cwV 2 hts (gd_V wd_1034 wd_1036 sl_X6_finishEnd wd_12 wd_1037) rfl rfl rfl (by decide +kernel) ⟨h1, h2⟩
set_option maxHeartbeats 4000000 in
set_option maxRecDepth 100000 in
theorem kt_X6_flow (l : Launch) (S : kS) (t0 : Nat) (a0 : Nat) (a1 : Int32) (a2 : Int32) (K : kS → Prop) (h : wp_X6_flow t0 a0 a1 a2 S K) : kMv l yX6_flow cX6_flow 7 none 3 80 [.ref t0, .ref a0, .int a1, .int a2] S K := by
  refine kv_ofv (own := RX6) (by decide) rfl (Nat.le_of_ble_eq_true rfl) ?_
  intro E p e R s m args below meth c A ls Q hRf hRl hX hC hl hret
  have hx := hX.1.1
  have hb := hX.1.2.1
  have hown := hX.1.2.2.2.1
  have hts := hX.1.2.2.2.2
  have hl : lv_has ls 7 [(0, .ref t0), (1, .ref a0), (2, .int a1), (3, .int a2)] := hl
  unfold wp_X6_flow at h
  refine lv_aload_n hx hb dX6_flow_0 rfl (lv_at hl 0 rfl) ?_
  refine cq_getr (ci := 6) (k := 3) (f := 41) hX hC rfl in_X6 (by decide) wd_307 (fun _ h9 => h9) (fun _ _ => rfl) dX6_flow_1 h (fun z1 h => ?_)
  obtain ⟨q2, e9, hh⟩ := h
  subst e9
  have h := hh
  clear hh
  refine cq_getr (ci := 1) (k := 0) (f := 2) hX hC rfl in_X1 (by decide) wd_234 (fun _ h9 => h9) (fun _ _ => rfl) dX6_flow_4 h (fun z3 h => ?_)
  refine lo_astore (lv' := [(4, va_rf z3), (0, .ref t0), (1, .ref a0), (2, .int a1), (3, .int a2)]) hx hb dX6_flow_7 hl (by decide) (by rcases z3 with _ | _ <;> rfl) (fun ls hl => ?_)
  refine lo_aload hx hb dX6_flow_9 (lv_at hl 0 rfl) ?_
  obtain ⟨q4, e9, hh⟩ := h
  subst e9
  have h := hh
  clear hh
  refine cq_getr (ci := 5) (k := 4) (f := 31) hX hC rfl in_X5 (by decide) wd_412 (fun _ h9 => h9) (fun _ _ => rfl) dX6_flow_11 h (fun z5 h => ?_)
  refine lo_astore (lv' := [(5, va_rf z5), (4, .ref q4), (0, .ref t0), (1, .ref a0), (2, .int a1), (3, .int a2)]) hx hb dX6_flow_14 hl (by decide) (by rcases z5 with _ | _ <;> rfl) (fun ls hl => ?_)
  refine lv_aload hx hb dX6_flow_16 (lv_at hl 1 rfl) ?_
  refine cq_getr (ci := 5) (k := 2) (f := 29) hX hC rfl in_X5 (by decide) wd_404 (fun _ h9 => h9) (fun _ _ => rfl) dX6_flow_18 h (fun z6 h => ?_)
  refine lv_iload_n hx hb dX6_flow_21 rfl (lv_at hl 5 rfl) ?_
  obtain ⟨q7, e9, hh⟩ := h
  subst e9
  have h := hh
  clear hh
  refine cq_ild hX hC dX6_flow_22 h (fun z8 h => ?_)
  refine lv_istore (lv' := [(6, .int z8), (5, va_rf z5), (4, .ref q4), (0, .ref t0), (1, .ref a0), (2, .int a1), (3, .int a2)]) hx hb dX6_flow_23 hl (by decide) (by rcases z5 with _ | _ <;> rfl) (fun ls hl => ?_)
  refine lv_iload_n hx hb dX6_flow_25 rfl (lv_at hl 5 rfl) ?_
  rcases Decidable.em (a1 = 13) with c9 | c9
  · have h := h.1 c9
    refine lv_tableIn (tgt := 84) hx hb dX6_flow_26 (by rw [c9]; decide) (by rw [c9]; decide) (by rw [c9]; rfl) (by decide) ?_
    refine lv_aload_n hx hb dX6_flow_84 rfl (lv_at hl 4 rfl) ?_
    refine lv_iload hx hb dX6_flow_85 (lv_at hl 0 rfl) ?_
    refine lv_aload_n hx hb dX6_flow_87 rfl (lv_at hl 3 rfl) ?_
    refine kv_calli [] (rest := [.int z8, .ref a0]) (ci := 6) rfl hX hC h.1 (kt_X6_pop l S t0 _ h.2 E _) (cw_X6_145 hts (by omega) (by omega)) rfl hl.1 (Nat.le_of_ble_eq_true rfl) ⟨Nat.zero_le _, Nat.zero_le _⟩ dX6_flow_88 (fun r10 S10 H locs hC h => ?_)
    refine kv_callv [.int z8, .int r10] (rest := []) (ci := 9) rfl hX hC h.1 (kt_X9_set l S10 a0 z8 r10 _ h.2 E _) (cw_X6_159 hts (by omega) (by omega)) rfl hl.1 (Nat.le_of_ble_eq_true rfl) ⟨Nat.zero_le _, Nat.zero_le _⟩ dX6_flow_91 (fun S11 H locs hC h => ?_)
    refine lv_goto (tgt := 298) hx hb dX6_flow_94 (by decide) ?_
    exact hret _ _ _ _ _ hC h dX6_flow_298
  have h := h.2 c9
  rcases Decidable.em (a1 = 14) with c12 | c12
  · have h := h.1 c12
    refine lv_tableIn (tgt := 97) hx hb dX6_flow_26 (by rw [c12]; decide) (by rw [c12]; decide) (by rw [c12]; rfl) (by decide) ?_
    refine lv_aload_n hx hb dX6_flow_97 rfl (lv_at hl 3 rfl) ?_
    refine cq_getr (ci := 6) (k := 2) (f := 40) hX hC rfl in_X6 (by decide) wd_305 (fun _ h9 => h9) (fun _ _ => rfl) dX6_flow_98 h (fun z13 h => ?_)
    refine lv_aload_n hx hb dX6_flow_101 rfl (lv_at hl 4 rfl) ?_
    refine cq_geti (ci := 9) (k := 0) (f := 28) hX hC rfl in_X9 (by decide) wd_862 (fun _ h9 => h9) (fun _ _ => rfl) dX6_flow_102 h (fun z14 h => ?_)
    refine lv_aload_n hx hb dX6_flow_105 rfl (lv_at hl 3 rfl) ?_
    refine kv_calli [] (rest := [.int z14, va_rf z13]) (ci := 6) rfl hX hC h.1 (kt_X6_pop l S t0 _ h.2 E _) (cw_X6_145 hts (by omega) (by omega)) rfl hl.1 (by rcases z13 with _ | _ <;> exact Nat.le_of_ble_eq_true rfl) ⟨Nat.zero_le _, Nat.zero_le _⟩ dX6_flow_106 (fun r15 S15 H locs hC h => ?_)
    obtain ⟨q16, e9, hh⟩ := h
    subst e9
    have h := hh
    clear hh
    refine kv_callv [.int z14, .int r15] (rest := []) (ci := 0) rfl hX hC h.1 (kt_X0_note l S15 q16 z14 r15 _ h.2 E _) (cw_X6_163 hts (by omega) (by omega)) rfl hl.1 (Nat.le_of_ble_eq_true rfl) ⟨Nat.zero_le _, Nat.zero_le _⟩ dX6_flow_109 (fun S17 H locs hC h => ?_)
    refine lv_goto (tgt := 298) hx hb dX6_flow_112 (by decide) ?_
    exact hret _ _ _ _ _ hC h dX6_flow_298
  have h := h.2 c12
  rcases Decidable.em (a1 = 15) with c18 | c18
  · have h := h.1 c18
    refine lv_tableIn (tgt := 115) hx hb dX6_flow_26 (by rw [c18]; decide) (by rw [c18]; decide) (by rw [c18]; rfl) (by decide) ?_
    refine lv_aload_n hx hb dX6_flow_115 rfl (lv_at hl 4 rfl) ?_
    refine lv_aload_n hx hb dX6_flow_116 rfl (lv_at hl 3 rfl) ?_
    refine kv_calli [] (rest := [.ref a0]) (ci := 6) rfl hX hC h.1 (kt_X6_pop l S t0 _ h.2 E _) (cw_X6_145 hts (by omega) (by omega)) rfl hl.1 (Nat.le_of_ble_eq_true rfl) ⟨Nat.zero_le _, Nat.zero_le _⟩ dX6_flow_117 (fun r19 S19 H locs hC h => ?_)
    refine lv_if_ne (tgt := 128) hx hb dX6_flow_120 (by decide) (fun c20 => ?_) (fun c20 => ?_)
    · have h := h.1 c20
      refine lv_iload_n hx hb dX6_flow_128 rfl (lv_at hl 6 rfl) ?_
      refine lv_iconst (v := 1) hx hb dX6_flow_129 (by decide) ?_
      refine lq_iadd hx hb dX6_flow_130 h (fun z21 h => ?_)
      refine cq_puti (v := z21) (ci := 9) (k := 10) (f := 36) hX hC rfl in_X9 (by decide) wd_890 (fun _ h9 => h9) tyX9 tyX9_ok nmX9 rfl rfl rfl (fun _ _ => Nat.le_of_ble_eq_true rfl) (fun _ _ _ => rfl) dX6_flow_131 h.1 h.2 (fun S22 H locs hC h => ?_)
      refine lv_goto (tgt := 298) hx hb dX6_flow_134 (by decide) ?_
      exact hret _ _ _ _ _ hC h dX6_flow_298
    · have h := h.2 c20
      refine lv_iload hx hb dX6_flow_123 (lv_at hl 0 rfl) ?_
      refine lv_goto (tgt := 131) hx hb dX6_flow_125 (by decide) ?_
      refine cq_puti (v := z8) (ci := 9) (k := 10) (f := 36) hX hC rfl in_X9 (by decide) wd_890 (fun _ h9 => h9) tyX9 tyX9_ok nmX9 rfl rfl rfl (fun _ _ => Nat.le_of_ble_eq_true rfl) (fun _ _ _ => rfl) dX6_flow_131 h.1 h.2 (fun S23 H locs hC h => ?_)
      refine lv_goto (tgt := 298) hx hb dX6_flow_134 (by decide) ?_
      exact hret _ _ _ _ _ hC h dX6_flow_298
  have h := h.2 c18
  rcases Decidable.em (a1 = 16) with c24 | c24
  · have h := h.1 c24
    refine lv_tableIn (tgt := 137) hx hb dX6_flow_26 (by rw [c24]; decide) (by rw [c24]; decide) (by rw [c24]; rfl) (by decide) ?_
    refine lv_aload_n hx hb dX6_flow_137 rfl (lv_at hl 4 rfl) ?_
    refine lv_iload hx hb dX6_flow_138 (lv_at hl 0 rfl) ?_
    refine cq_puti (v := z8) (ci := 9) (k := 10) (f := 36) hX hC rfl in_X9 (by decide) wd_890 (fun _ h9 => h9) tyX9 tyX9_ok nmX9 rfl rfl rfl (fun _ _ => Nat.le_of_ble_eq_true rfl) (fun _ _ _ => rfl) dX6_flow_140 h.1 h.2 (fun S25 H locs hC h => ?_)
    refine lv_goto (tgt := 298) hx hb dX6_flow_143 (by decide) ?_
    exact hret _ _ _ _ _ hC h dX6_flow_298
  have h := h.2 c24
  rcases Decidable.em (a1 = 17) with c26 | c26
  · have h := h.1 c26
    refine lv_tableIn (tgt := 146) hx hb dX6_flow_26 (by rw [c26]; decide) (by rw [c26]; decide) (by rw [c26]; rfl) (by decide) ?_
    refine lv_aload_n hx hb dX6_flow_146 rfl (lv_at hl 3 rfl) ?_
    refine lv_aload_n hx hb dX6_flow_147 rfl (lv_at hl 4 rfl) ?_
    refine lv_iconst (v := 1) hx hb dX6_flow_148 (by decide) ?_
    refine lv_iload hx hb dX6_flow_149 (lv_at hl 0 rfl) ?_
    refine lv_aload hx hb dX6_flow_151 (lv_at hl 2 rfl) ?_
    refine cq_getr (ci := 5) (k := 3) (f := 30) hX hC rfl in_X5 (by decide) wd_408 (fun _ h9 => h9) (fun _ _ => rfl) dX6_flow_153 h (fun z27 h => ?_)
    refine lv_iload_n hx hb dX6_flow_156 rfl (lv_at hl 6 rfl) ?_
    obtain ⟨q28, e9, hh⟩ := h
    subst e9
    have h := hh
    clear hh
    refine cq_ild hX hC dX6_flow_157 h (fun z29 h => ?_)
    refine kv_callv [.ref a0, .int 1, .int z8, .int z29] (rest := []) (ci := 6) rfl hX hC h.1 (kt_X6_leave l S t0 a0 1 z8 z29 _ h.2 E _) (cw_X6_102 hts (by omega) (by omega)) rfl hl.1 (Nat.le_of_ble_eq_true rfl) ⟨Nat.zero_le _, Nat.zero_le _⟩ dX6_flow_158 (fun S30 H locs hC h => ?_)
    refine lv_goto (tgt := 298) hx hb dX6_flow_161 (by decide) ?_
    exact hret _ _ _ _ _ hC h dX6_flow_298
  have h := h.2 c26
  rcases Decidable.em (a1 = 18) with c31 | c31
  · have h := h.1 c31
    refine lv_tableIn (tgt := 164) hx hb dX6_flow_26 (by rw [c31]; decide) (by rw [c31]; decide) (by rw [c31]; rfl) (by decide) ?_
    refine lv_aload_n hx hb dX6_flow_164 rfl (lv_at hl 3 rfl) ?_
    refine lv_aload_n hx hb dX6_flow_165 rfl (lv_at hl 4 rfl) ?_
    refine lv_iconst (v := 2) hx hb dX6_flow_166 (by decide) ?_
    refine lv_iload hx hb dX6_flow_167 (lv_at hl 0 rfl) ?_
    refine lv_aload hx hb dX6_flow_169 (lv_at hl 2 rfl) ?_
    refine cq_getr (ci := 5) (k := 3) (f := 30) hX hC rfl in_X5 (by decide) wd_408 (fun _ h9 => h9) (fun _ _ => rfl) dX6_flow_171 h (fun z32 h => ?_)
    refine lv_iload_n hx hb dX6_flow_174 rfl (lv_at hl 6 rfl) ?_
    obtain ⟨q33, e9, hh⟩ := h
    subst e9
    have h := hh
    clear hh
    refine cq_ild hX hC dX6_flow_175 h (fun z34 h => ?_)
    refine kv_callv [.ref a0, .int 2, .int z8, .int z34] (rest := []) (ci := 6) rfl hX hC h.1 (kt_X6_leave l S t0 a0 2 z8 z34 _ h.2 E _) (cw_X6_102 hts (by omega) (by omega)) rfl hl.1 (Nat.le_of_ble_eq_true rfl) ⟨Nat.zero_le _, Nat.zero_le _⟩ dX6_flow_176 (fun S35 H locs hC h => ?_)
    refine lv_goto (tgt := 298) hx hb dX6_flow_179 (by decide) ?_
    exact hret _ _ _ _ _ hC h dX6_flow_298
  have h := h.2 c31
  rcases Decidable.em (a1 = 19) with c36 | c36
  · have h := h.1 c36
    refine lv_tableIn (tgt := 182) hx hb dX6_flow_26 (by rw [c36]; decide) (by rw [c36]; decide) (by rw [c36]; rfl) (by decide) ?_
    refine lv_aload_n hx hb dX6_flow_182 rfl (lv_at hl 3 rfl) ?_
    refine lv_aload_n hx hb dX6_flow_183 rfl (lv_at hl 4 rfl) ?_
    refine lv_iconst (v := 3) hx hb dX6_flow_184 (by decide) ?_
    refine lv_aload_n hx hb dX6_flow_185 rfl (lv_at hl 3 rfl) ?_
    refine kv_calli [] (rest := [.int 3, .ref a0, .ref t0]) (ci := 6) rfl hX hC h.1 (kt_X6_pop l S t0 _ h.2 E _) (cw_X6_145 hts (by omega) (by omega)) rfl hl.1 (Nat.le_of_ble_eq_true rfl) ⟨Nat.zero_le _, Nat.zero_le _⟩ dX6_flow_186 (fun r37 S37 H locs hC h => ?_)
    refine lv_aload hx hb dX6_flow_189 (lv_at hl 2 rfl) ?_
    refine cq_getr (ci := 5) (k := 3) (f := 30) hX hC rfl in_X5 (by decide) wd_408 (fun _ h9 => h9) (fun _ _ => rfl) dX6_flow_191 h (fun z38 h => ?_)
    refine lv_iload_n hx hb dX6_flow_194 rfl (lv_at hl 6 rfl) ?_
    obtain ⟨q39, e9, hh⟩ := h
    subst e9
    have h := hh
    clear hh
    refine cq_ild hX hC dX6_flow_195 h (fun z40 h => ?_)
    refine kv_callv [.ref a0, .int 3, .int r37, .int z40] (rest := []) (ci := 6) rfl hX hC h.1 (kt_X6_leave l S37 t0 a0 3 r37 z40 _ h.2 E _) (cw_X6_102 hts (by omega) (by omega)) rfl hl.1 (Nat.le_of_ble_eq_true rfl) ⟨Nat.zero_le _, Nat.zero_le _⟩ dX6_flow_196 (fun S41 H locs hC h => ?_)
    refine lv_goto (tgt := 298) hx hb dX6_flow_199 (by decide) ?_
    exact hret _ _ _ _ _ hC h dX6_flow_298
  have h := h.2 c36
  rcases Decidable.em (a1 = 20) with c42 | c42
  · have h := h.1 c42
    refine lv_tableIn (tgt := 202) hx hb dX6_flow_26 (by rw [c42]; decide) (by rw [c42]; decide) (by rw [c42]; rfl) (by decide) ?_
    refine lv_aload_n hx hb dX6_flow_202 rfl (lv_at hl 3 rfl) ?_
    refine lv_aload_n hx hb dX6_flow_203 rfl (lv_at hl 4 rfl) ?_
    refine lv_iload hx hb dX6_flow_204 (lv_at hl 0 rfl) ?_
    refine lv_iload_n hx hb dX6_flow_206 rfl (lv_at hl 6 rfl) ?_
    refine kv_callv [.ref a0, .int z8, .int a2] (rest := []) (ci := 6) rfl hX hC h.1 (kt_X6_fail l S t0 a0 z8 a2 _ h.2 E _) (cw_X6_152 hts (by omega) (by omega)) rfl hl.1 (Nat.le_of_ble_eq_true rfl) ⟨Nat.zero_le _, Nat.zero_le _⟩ dX6_flow_207 (fun S43 H locs hC h => ?_)
    refine lv_goto (tgt := 298) hx hb dX6_flow_210 (by decide) ?_
    exact hret _ _ _ _ _ hC h dX6_flow_298
  have h := h.2 c42
  rcases Decidable.em (a1 = 21) with c44 | c44
  · have h := h.1 c44
    refine lv_tableIn (tgt := 213) hx hb dX6_flow_26 (by rw [c44]; decide) (by rw [c44]; decide) (by rw [c44]; rfl) (by decide) ?_
    refine lo_aload hx hb dX6_flow_213 (lv_at hl 1 rfl) ?_
    refine lv_iload hx hb dX6_flow_215 (lv_at hl 0 rfl) ?_
    refine lv_iconst (v := 2) hx hb dX6_flow_217 (by decide) ?_
    obtain ⟨q45, e9, hh⟩ := h
    subst e9
    have h := hh
    clear hh
    refine kv_calli [.int z8, .int 2] (rest := []) (ci := 7) rfl hX hC h.1 (kt_X7_is l S q45 z8 2 _ h.2 E _) (cw_X6_171 hts (by omega) (by omega)) rfl hl.1 (Nat.le_of_ble_eq_true rfl) ⟨Nat.zero_le _, Nat.zero_le _⟩ dX6_flow_218 (fun r46 S46 H locs hC h => ?_)
    refine lv_if_eq (tgt := 253) hx hb dX6_flow_221 (by decide) (fun c47 => ?_) (fun c47 => ?_)
    · have h := h.1 c47
      refine lv_aload_n hx hb dX6_flow_253 rfl (lv_at hl 4 rfl) ?_
      refine lv_aload hx hb dX6_flow_254 (lv_at hl 1 rfl) ?_
      refine cq_getr (ci := 7) (k := 6) (f := 48) hX hC rfl in_X7 (by decide) wd_358 (fun _ h9 => h9) (fun _ _ => rfl) dX6_flow_256 h (fun z48 h => ?_)
      refine lv_iload hx hb dX6_flow_259 (lv_at hl 0 rfl) ?_
      obtain ⟨q49, e9, hh⟩ := h
      subst e9
      have h := hh
      clear hh
      refine cq_ild hX hC dX6_flow_261 h (fun z50 h => ?_)
      refine cq_puti (v := z50) (ci := 9) (k := 10) (f := 36) hX hC rfl in_X9 (by decide) wd_890 (fun _ h9 => h9) tyX9 tyX9_ok nmX9 rfl rfl rfl (fun _ _ => Nat.le_of_ble_eq_true rfl) (fun _ _ _ => rfl) dX6_flow_262 h.1 h.2 (fun S51 H locs hC h => ?_)
      refine lv_goto (tgt := 298) hx hb dX6_flow_265 (by decide) ?_
      exact hret _ _ _ _ _ hC h dX6_flow_298
    · have h := h.2 c47
      refine lv_aload_n hx hb dX6_flow_224 rfl (lv_at hl 4 rfl) ?_
      refine cq_getr (ci := 9) (k := 12) (f := 59) hX hC rfl in_X9 (by decide) wd_895 (fun _ h9 => h9) (fun _ _ => rfl) dX6_flow_225 h (fun z52 h => ?_)
      refine lv_aload hx hb dX6_flow_228 (lv_at hl 1 rfl) ?_
      refine cq_getr (ci := 7) (k := 2) (f := 44) hX hC rfl in_X7 (by decide) wd_346 (fun _ h9 => h9) (fun _ _ => rfl) dX6_flow_230 h (fun z53 h => ?_)
      refine lv_iload hx hb dX6_flow_233 (lv_at hl 0 rfl) ?_
      obtain ⟨q54, e9, hh⟩ := h
      subst e9
      have h := hh
      clear hh
      refine cq_ild hX hC dX6_flow_235 h (fun z55 h => ?_)
      refine lv_iconst (v := 0) hx hb dX6_flow_236 (by decide) ?_
      obtain ⟨q56, e9, hh⟩ := h
      subst e9
      have h := hh
      clear hh
      refine cq_ist hX hC dX6_flow_237 h.1 h.2.1 h.2.2 (fun S57 H locs hC h => ?_)
      refine lv_aload_n hx hb dX6_flow_238 rfl (lv_at hl 4 rfl) ?_
      refine lv_aload hx hb dX6_flow_239 (lv_at hl 1 rfl) ?_
      refine cq_getr (ci := 7) (k := 5) (f := 47) hX hC rfl in_X7 (by decide) wd_354 (fun _ h9 => h9) (fun _ _ => rfl) dX6_flow_241 h (fun z58 h => ?_)
      refine lv_iload hx hb dX6_flow_244 (lv_at hl 0 rfl) ?_
      obtain ⟨q59, e9, hh⟩ := h
      subst e9
      have h := hh
      clear hh
      refine cq_ild hX hC dX6_flow_246 h (fun z60 h => ?_)
      refine cq_puti (v := z60) (ci := 9) (k := 10) (f := 36) hX hC rfl in_X9 (by decide) wd_890 (fun _ h9 => h9) tyX9 tyX9_ok nmX9 rfl rfl rfl (fun _ _ => Nat.le_of_ble_eq_true rfl) (fun _ _ _ => rfl) dX6_flow_247 h.1 h.2 (fun S61 H locs hC h => ?_)
      refine lv_goto (tgt := 298) hx hb dX6_flow_250 (by decide) ?_
      exact hret _ _ _ _ _ hC h dX6_flow_298
  have h := h.2 c44
  rcases Decidable.em (a1 = 22) with c62 | c62
  · have h := h.1 c62
    refine lv_tableIn (tgt := 268) hx hb dX6_flow_26 (by rw [c62]; decide) (by rw [c62]; decide) (by rw [c62]; rfl) (by decide) ?_
    refine lv_aload_n hx hb dX6_flow_268 rfl (lv_at hl 4 rfl) ?_
    refine lv_iload hx hb dX6_flow_269 (lv_at hl 0 rfl) ?_
    refine lv_aload_n hx hb dX6_flow_271 rfl (lv_at hl 3 rfl) ?_
    refine cq_geti (ci := 6) (k := 7) (f := 23) hX hC rfl in_X6 (by decide) wd_311 (fun _ h9 => h9) (fun _ _ => rfl) dX6_flow_272 h (fun z63 h => ?_)
    refine kv_callv [.int z8, .int z63] (rest := []) (ci := 9) rfl hX hC h.1 (kt_X9_set l S a0 z8 z63 _ h.2 E _) (cw_X6_159 hts (by omega) (by omega)) rfl hl.1 (Nat.le_of_ble_eq_true rfl) ⟨Nat.zero_le _, Nat.zero_le _⟩ dX6_flow_275 (fun S64 H locs hC h => ?_)
    refine lv_goto (tgt := 298) hx hb dX6_flow_278 (by decide) ?_
    exact hret _ _ _ _ _ hC h dX6_flow_298
  have h := h.2 c62
  rcases Decidable.em (a1 = 23) with c65 | c65
  · have h := h.1 c65
    refine lv_tableIn (tgt := 281) hx hb dX6_flow_26 (by rw [c65]; decide) (by rw [c65]; decide) (by rw [c65]; rfl) (by decide) ?_
    refine lv_aload_n hx hb dX6_flow_281 rfl (lv_at hl 3 rfl) ?_
    refine lv_aload_n hx hb dX6_flow_282 rfl (lv_at hl 4 rfl) ?_
    refine lv_iload hx hb dX6_flow_283 (lv_at hl 0 rfl) ?_
    refine kv_callv [.ref a0, .int z8] (rest := []) (ci := 6) rfl hX hC h.1 (kt_X6_finishEnd l S t0 a0 z8 _ h.2 E _) (cw_X6_187 hts (by omega) (by omega)) rfl hl.1 (Nat.le_of_ble_eq_true rfl) ⟨Nat.zero_le _, Nat.zero_le _⟩ dX6_flow_285 (fun S66 H locs hC h => ?_)
    refine lv_goto (tgt := 298) hx hb dX6_flow_288 (by decide) ?_
    exact hret _ _ _ _ _ hC h dX6_flow_298
  have h := h.2 c65
  refine lv_tableOut (tgt := 291) hx hb dX6_flow_26 (by have nc9 := lv_neT c9 (show (13 : Int32).toInt = 13 by decide); have nc12 := lv_neT c12 (show (14 : Int32).toInt = 14 by decide); have nc18 := lv_neT c18 (show (15 : Int32).toInt = 15 by decide); have nc24 := lv_neT c24 (show (16 : Int32).toInt = 16 by decide); have nc26 := lv_neT c26 (show (17 : Int32).toInt = 17 by decide); have nc31 := lv_neT c31 (show (18 : Int32).toInt = 18 by decide); have nc36 := lv_neT c36 (show (19 : Int32).toInt = 19 by decide); have nc42 := lv_neT c42 (show (20 : Int32).toInt = 20 by decide); have nc44 := lv_neT c44 (show (21 : Int32).toInt = 21 by decide); have nc62 := lv_neT c62 (show (22 : Int32).toInt = 22 by decide); have nc65 := lv_neT c65 (show (23 : Int32).toInt = 23 by decide); omega) (by decide) ?_
  refine lv_aload_n hx hb dX6_flow_291 rfl (lv_at hl 3 rfl) ?_
  refine lv_aload_n hx hb dX6_flow_292 rfl (lv_at hl 4 rfl) ?_
  refine lv_iconst (v := 0) hx hb dX6_flow_293 (by decide) ?_
  refine lv_iconst (v := 0) hx hb dX6_flow_294 (by decide) ?_
  refine kv_callv [.ref a0, .int 0, .int 0] (rest := []) (ci := 6) rfl hX hC h.1 (kt_X6_end l S t0 a0 0 0 _ h.2 E _) (cw_X6_109 hts (by omega) (by omega)) rfl hl.1 (Nat.le_of_ble_eq_true rfl) ⟨Nat.zero_le _, Nat.zero_le _⟩ dX6_flow_295 (fun S67 H locs hC h => ?_)
  exact hret _ _ _ _ _ hC h dX6_flow_298
def wp_X6_push (t0 : Nat) (a0 : Int32) (S : kS) (K : kS → Prop) : Prop := hasO S t0 6 ∧ ∀ z1 : Int32, z1 = S.1 21 t0 → ((64 ≤ z1 → K S) ∧ (¬ 64 ≤ z1 → hasO S t0 6 ∧ ∀ z3 : Option Nat, z3 = S.2.1 42 t0 → hasO S t0 6 ∧ ∀ z4 : Int32, z4 = S.1 21 t0 → ∃ q5 : Nat, z3 = some q5 ∧ hasA S q5 64 0 ∧ inR z4 64 ∧ ∀ S6 : kS, S6 = cA S q5 (ix z4) a0 → hasO S6 t0 6 ∧ ∀ z7 : Int32, z7 = S6.1 21 t0 → ∀ z8 : Int32, z8 = z7 + 1 → hasO S6 t0 6 ∧ ∀ S9 : kS, S9 = cI S6 21 t0 z8 → K S9))
set_option maxHeartbeats 4000000 in
set_option maxRecDepth 100000 in
theorem kt_X6_push (l : Launch) (S : kS) (t0 : Nat) (a0 : Int32) (K : kS → Prop) (h : wp_X6_push t0 a0 S K) : kMv l yX6_push cX6_push 2 none 0 0 [.ref t0, .int a0] S K := by
  refine kv_ofv (own := RX6) (by decide) rfl (Nat.le_of_ble_eq_true rfl) ?_
  intro E p e R s m args below meth c A ls Q hRf hRl hX hC hl hret
  have hx := hX.1.1
  have hb := hX.1.2.1
  have hown := hX.1.2.2.2.1
  have hts := hX.1.2.2.2.2
  have hl : lv_has ls 2 [(0, .ref t0), (1, .int a0)] := hl
  unfold wp_X6_push at h
  refine lv_aload_n hx hb dX6_push_0 rfl (lv_at hl 0 rfl) ?_
  refine cq_geti (ci := 6) (k := 5) (f := 21) hX hC rfl in_X6 (by decide) wd_309 (fun _ h9 => h9) (fun _ _ => rfl) dX6_push_1 h (fun z1 h => ?_)
  refine lv_bipush (v := 64) hx hb dX6_push_4 (by decide) ?_
  refine lv_icmp_ge (tgt := 29) hx hb dX6_push_6 (by decide) (fun c2 => ?_) (fun c2 => ?_)
  · have h := h.1 c2
    exact hret _ _ _ _ _ hC h dX6_push_29
  · have h := h.2 c2
    refine lv_aload_n hx hb dX6_push_9 rfl (lv_at hl 0 rfl) ?_
    refine cq_getr (ci := 6) (k := 4) (f := 42) hX hC rfl in_X6 (by decide) wd_308 (fun _ h9 => h9) (fun _ _ => rfl) dX6_push_10 h (fun z3 h => ?_)
    refine lv_aload_n hx hb dX6_push_13 rfl (lv_at hl 0 rfl) ?_
    refine cq_geti (ci := 6) (k := 5) (f := 21) hX hC rfl in_X6 (by decide) wd_309 (fun _ h9 => h9) (fun _ _ => rfl) dX6_push_14 h (fun z4 h => ?_)
    refine lv_iload_n hx hb dX6_push_17 rfl (lv_at hl 1 rfl) ?_
    obtain ⟨q5, e9, hh⟩ := h
    subst e9
    have h := hh
    clear hh
    refine cq_ist hX hC dX6_push_18 h.1 h.2.1 h.2.2 (fun S6 H locs hC h => ?_)
    refine lv_aload_n hx hb dX6_push_19 rfl (lv_at hl 0 rfl) ?_
    refine lv_dup hx hb dX6_push_20 rfl ?_
    refine cq_geti (ci := 6) (k := 5) (f := 21) hX hC rfl in_X6 (by decide) wd_309 (fun _ h9 => h9) (fun _ _ => rfl) dX6_push_21 h (fun z7 h => ?_)
    refine lv_iconst (v := 1) hx hb dX6_push_24 (by decide) ?_
    refine lq_iadd hx hb dX6_push_25 h (fun z8 h => ?_)
    refine cq_puti (v := z8) (ci := 6) (k := 5) (f := 21) hX hC rfl in_X6 (by decide) wd_309 (fun _ h9 => h9) tyX6 tyX6_ok nmX6 rfl rfl rfl (fun _ _ => Nat.le_of_ble_eq_true rfl) (fun _ _ _ => rfl) dX6_push_26 h.1 h.2 (fun S9 H locs hC h => ?_)
    exact hret _ _ _ _ _ hC h dX6_push_29
def wp_X6_join_166 (K : kS → Prop) (y0 : Nat) (y1 : Int32) (S : kS) : Prop := hasO S y0 6 ∧ wp_X6_push y0 y1 S (fun (S35 : kS) => K S35)
def wp_X6_join_124 (K : kS → Prop) (y0 : Nat) (y1 : Int32) (S : kS) : Prop := hasO S y0 6 ∧ wp_X6_push y0 y1 S (fun (S33 : kS) => K S33)
def wp_X6_join_105 (K : kS → Prop) (y0 : Nat) (y1 : Int32) (S : kS) : Prop := hasO S y0 6 ∧ wp_X6_push y0 y1 S (fun (S34 : kS) => K S34)
def wp_X6_join (t0 : Nat) (a0 : Nat) (a1 : Int32) (a2 : Int32) (S : kS) (K : kS → Prop) : Prop := hasO S t0 6 ∧ wp_X6_pop t0 S (fun (S1 : kS) (r1 : Int32) => hasO S1 t0 6 ∧ wp_X6_pop t0 S1 (fun (S2 : kS) (r2 : Int32) => ((a1 = 6 → ∀ z4 : Int32, z4 = r2 + r1 → hasO S2 t0 6 ∧ wp_X6_push t0 z4 S2 (fun (S5 : kS) => K S5)) ∧ (¬ a1 = 6 → ((a1 = 7 → ∀ z7 : Int32, z7 = r2 - r1 → hasO S2 t0 6 ∧ wp_X6_push t0 z7 S2 (fun (S8 : kS) => K S8)) ∧ (¬ a1 = 7 → ((a1 = 8 → ∀ z10 : Int32, z10 = r2 * r1 → hasO S2 t0 6 ∧ wp_X6_push t0 z10 S2 (fun (S11 : kS) => K S11)) ∧ (¬ a1 = 8 → ((a1 = 9 → ((¬ r1 = 0 → ((¬ a1 = 9 → ¬ r1 = 0 ∧ ∀ z15 : Int32, z15 = r2 - r2 / r1 * r1 → wp_X6_join_166 K t0 z15 S2) ∧ (a1 = 9 → ¬ r1 = 0 ∧ ∀ z16 : Int32, z16 = r2 / r1 → wp_X6_join_166 K t0 z16 S2))) ∧ (r1 = 0 → hasO S2 t0 6 ∧ wp_X6_fail t0 a0 11 a2 S2 (fun (S17 : kS) => K S17)))) ∧ (¬ a1 = 9 → ((a1 = 10 → ((¬ r1 = 0 → ((¬ a1 = 9 → ¬ r1 = 0 ∧ ∀ z21 : Int32, z21 = r2 - r2 / r1 * r1 → wp_X6_join_166 K t0 z21 S2) ∧ (a1 = 9 → ¬ r1 = 0 ∧ ∀ z22 : Int32, z22 = r2 / r1 → wp_X6_join_166 K t0 z22 S2))) ∧ (r1 = 0 → hasO S2 t0 6 ∧ wp_X6_fail t0 a0 11 a2 S2 (fun (S23 : kS) => K S23)))) ∧ (¬ a1 = 10 → ((a1 = 11 → ((r1 ≤ r2 → wp_X6_join_105 K t0 0 S2) ∧ (¬ r1 ≤ r2 → wp_X6_join_105 K t0 1 S2))) ∧ (¬ a1 = 11 → ((a1 = 12 → ((¬ r2 = r1 → wp_X6_join_124 K t0 0 S2) ∧ (r2 = r1 → wp_X6_join_124 K t0 1 S2))) ∧ (¬ a1 = 12 → ((¬ r1 = 0 → ((¬ a1 = 9 → ¬ r1 = 0 ∧ ∀ z30 : Int32, z30 = r2 - r2 / r1 * r1 → wp_X6_join_166 K t0 z30 S2) ∧ (a1 = 9 → ¬ r1 = 0 ∧ ∀ z31 : Int32, z31 = r2 / r1 → wp_X6_join_166 K t0 z31 S2))) ∧ (r1 = 0 → hasO S2 t0 6 ∧ wp_X6_fail t0 a0 11 a2 S2 (fun (S32 : kS) => K S32)))))))))))))))))))
theorem cw_X6_98 {R : Room} {s : State} {args : Array Value} {fr lo : Nat} (hts : ∀ w ∈ tb, w.before args s = true) (h1 : fr + 1 ≤ R.frames) (h2 : 8 + (2 + 11) + lo ≤ R.locals) : CallW R s args RX6 RX6 98 yX6_push cX6_push 2 none (.code yX6_push cX6_push 2 none :: tb) (mRm fr lo) 0 0 1 := cwV 1 hts (gd_V wd_978 wd_980 sl_X6_push wd_12 wd_981) rfl rfl rfl (by decide +kernel) ⟨h1, h2⟩
set_option maxHeartbeats 4000000 in
set_option maxRecDepth 100000 in
theorem kt_X6_join (l : Launch) (S : kS) (t0 : Nat) (a0 : Nat) (a1 : Int32) (a2 : Int32) (K : kS → Prop) (h : wp_X6_join t0 a0 a1 a2 S K) : kMv l yX6_join cX6_join 6 none 3 79 [.ref t0, .ref a0, .int a1, .int a2] S K := by
  refine kv_ofv (own := RX6) (by decide) rfl (Nat.le_of_ble_eq_true rfl) ?_
  intro E p e R s m args below meth c A ls Q hRf hRl hX hC hl hret
  have hx := hX.1.1
  have hb := hX.1.2.1
  have hown := hX.1.2.2.2.1
  have hts := hX.1.2.2.2.2
  have cut166 : ∀ (y0 : Nat) (y1 : Int32) (S : kS) (H : Heap) (locs : List Loc) (ls : Array Slot), wp_X6_join_166 K y0 y1 S → cM E A s.heap S H locs → lv_has ls 6 [] → W p l e R s m args below meth c H locs 0 0 Q (F0 m 166 ls [.int y1, .ref y0]) := by
    intro y0 y1 S H locs ls h hC hl
    unfold wp_X6_join_166 at h
    refine kv_callv [.int y1] (rest := []) (ci := 6) rfl hX hC h.1 (kt_X6_push l S y0 y1 _ h.2 E _) (cw_X6_98 hts (by omega) (by omega)) rfl hl.1 (Nat.le_of_ble_eq_true rfl) ⟨Nat.zero_le _, Nat.zero_le _⟩ dX6_join_166 (fun S35 H locs hC h => ?_)
    exact hret _ _ _ _ _ hC h dX6_join_169
  have cut124 : ∀ (y0 : Nat) (y1 : Int32) (S : kS) (H : Heap) (locs : List Loc) (ls : Array Slot), wp_X6_join_124 K y0 y1 S → cM E A s.heap S H locs → lv_has ls 6 [] → W p l e R s m args below meth c H locs 0 0 Q (F0 m 124 ls [.int y1, .ref y0]) := by
    intro y0 y1 S H locs ls h hC hl
    unfold wp_X6_join_124 at h
    refine kv_callv [.int y1] (rest := []) (ci := 6) rfl hX hC h.1 (kt_X6_push l S y0 y1 _ h.2 E _) (cw_X6_98 hts (by omega) (by omega)) rfl hl.1 (Nat.le_of_ble_eq_true rfl) ⟨Nat.zero_le _, Nat.zero_le _⟩ dX6_join_124 (fun S33 H locs hC h => ?_)
    refine lv_goto (tgt := 169) hx hb dX6_join_127 (by decide) ?_
    exact hret _ _ _ _ _ hC h dX6_join_169
  have cut105 : ∀ (y0 : Nat) (y1 : Int32) (S : kS) (H : Heap) (locs : List Loc) (ls : Array Slot), wp_X6_join_105 K y0 y1 S → cM E A s.heap S H locs → lv_has ls 6 [] → W p l e R s m args below meth c H locs 0 0 Q (F0 m 105 ls [.int y1, .ref y0]) := by
    intro y0 y1 S H locs ls h hC hl
    unfold wp_X6_join_105 at h
    refine kv_callv [.int y1] (rest := []) (ci := 6) rfl hX hC h.1 (kt_X6_push l S y0 y1 _ h.2 E _) (cw_X6_98 hts (by omega) (by omega)) rfl hl.1 (Nat.le_of_ble_eq_true rfl) ⟨Nat.zero_le _, Nat.zero_le _⟩ dX6_join_105 (fun S34 H locs hC h => ?_)
    refine lv_goto (tgt := 169) hx hb dX6_join_108 (by decide) ?_
    exact hret _ _ _ _ _ hC h dX6_join_169
  have hl : lv_has ls 6 [(0, .ref t0), (1, .ref a0), (2, .int a1), (3, .int a2)] := hl
  unfold wp_X6_join at h
  refine lv_aload_n hx hb dX6_join_0 rfl (lv_at hl 0 rfl) ?_
  refine kv_calli [] (rest := []) (ci := 6) rfl hX hC h.1 (kt_X6_pop l S t0 _ h.2 E _) (cw_X6_145 hts (by omega) (by omega)) rfl hl.1 (Nat.le_of_ble_eq_true rfl) ⟨Nat.zero_le _, Nat.zero_le _⟩ dX6_join_1 (fun r1 S1 H locs hC h => ?_)
  refine lv_istore (lv' := [(4, .int r1), (0, .ref t0), (1, .ref a0), (2, .int a1), (3, .int a2)]) hx hb dX6_join_4 hl (by decide) rfl (fun ls hl => ?_)
  refine lv_aload_n hx hb dX6_join_6 rfl (lv_at hl 1 rfl) ?_
  refine kv_calli [] (rest := []) (ci := 6) rfl hX hC h.1 (kt_X6_pop l S1 t0 _ h.2 E _) (cw_X6_145 hts (by omega) (by omega)) rfl hl.1 (Nat.le_of_ble_eq_true rfl) ⟨Nat.zero_le _, Nat.zero_le _⟩ dX6_join_7 (fun r2 S2 H locs hC h => ?_)
  refine lv_istore (lv' := [(5, .int r2), (4, .int r1), (0, .ref t0), (1, .ref a0), (2, .int a1), (3, .int a2)]) hx hb dX6_join_10 hl (by decide) rfl (fun ls hl => ?_)
  refine lv_iload_n hx hb dX6_join_12 rfl (lv_at hl 4 rfl) ?_
  rcases Decidable.em (a1 = 6) with c3 | c3
  · have h := h.1 c3
    refine lv_tableIn (tgt := 56) hx hb dX6_join_13 (by rw [c3]; decide) (by rw [c3]; decide) (by rw [c3]; rfl) (by decide) ?_
    refine lv_aload_n hx hb dX6_join_56 rfl (lv_at hl 2 rfl) ?_
    refine lv_iload hx hb dX6_join_57 (lv_at hl 0 rfl) ?_
    refine lv_iload hx hb dX6_join_59 (lv_at hl 1 rfl) ?_
    refine lq_iadd hx hb dX6_join_61 h (fun z4 h => ?_)
    refine kv_callv [.int z4] (rest := []) (ci := 6) rfl hX hC h.1 (kt_X6_push l S2 t0 z4 _ h.2 E _) (cw_X6_98 hts (by omega) (by omega)) rfl hl.1 (Nat.le_of_ble_eq_true rfl) ⟨Nat.zero_le _, Nat.zero_le _⟩ dX6_join_62 (fun S5 H locs hC h => ?_)
    refine lv_goto (tgt := 169) hx hb dX6_join_65 (by decide) ?_
    exact hret _ _ _ _ _ hC h dX6_join_169
  have h := h.2 c3
  rcases Decidable.em (a1 = 7) with c6 | c6
  · have h := h.1 c6
    refine lv_tableIn (tgt := 68) hx hb dX6_join_13 (by rw [c6]; decide) (by rw [c6]; decide) (by rw [c6]; rfl) (by decide) ?_
    refine lv_aload_n hx hb dX6_join_68 rfl (lv_at hl 2 rfl) ?_
    refine lv_iload hx hb dX6_join_69 (lv_at hl 0 rfl) ?_
    refine lv_iload hx hb dX6_join_71 (lv_at hl 1 rfl) ?_
    refine lq_isub hx hb dX6_join_73 h (fun z7 h => ?_)
    refine kv_callv [.int z7] (rest := []) (ci := 6) rfl hX hC h.1 (kt_X6_push l S2 t0 z7 _ h.2 E _) (cw_X6_98 hts (by omega) (by omega)) rfl hl.1 (Nat.le_of_ble_eq_true rfl) ⟨Nat.zero_le _, Nat.zero_le _⟩ dX6_join_74 (fun S8 H locs hC h => ?_)
    refine lv_goto (tgt := 169) hx hb dX6_join_77 (by decide) ?_
    exact hret _ _ _ _ _ hC h dX6_join_169
  have h := h.2 c6
  rcases Decidable.em (a1 = 8) with c9 | c9
  · have h := h.1 c9
    refine lv_tableIn (tgt := 80) hx hb dX6_join_13 (by rw [c9]; decide) (by rw [c9]; decide) (by rw [c9]; rfl) (by decide) ?_
    refine lv_aload_n hx hb dX6_join_80 rfl (lv_at hl 2 rfl) ?_
    refine lv_iload hx hb dX6_join_81 (lv_at hl 0 rfl) ?_
    refine lv_iload hx hb dX6_join_83 (lv_at hl 1 rfl) ?_
    refine lq_imul hx hb dX6_join_85 h (fun z10 h => ?_)
    refine kv_callv [.int z10] (rest := []) (ci := 6) rfl hX hC h.1 (kt_X6_push l S2 t0 z10 _ h.2 E _) (cw_X6_98 hts (by omega) (by omega)) rfl hl.1 (Nat.le_of_ble_eq_true rfl) ⟨Nat.zero_le _, Nat.zero_le _⟩ dX6_join_86 (fun S11 H locs hC h => ?_)
    refine lv_goto (tgt := 169) hx hb dX6_join_89 (by decide) ?_
    exact hret _ _ _ _ _ hC h dX6_join_169
  have h := h.2 c9
  rcases Decidable.em (a1 = 9) with c12 | c12
  · have h := h.1 c12
    refine lv_tableIn (tgt := 130) hx hb dX6_join_13 (by rw [c12]; decide) (by rw [c12]; decide) (by rw [c12]; rfl) (by decide) ?_
    refine lv_iload hx hb dX6_join_130 (lv_at hl 1 rfl) ?_
    refine lv_if_ne (tgt := 146) hx hb dX6_join_132 (by decide) (fun c13 => ?_) (fun c13 => ?_)
    · have h := h.1 c13
      refine lv_aload_n hx hb dX6_join_146 rfl (lv_at hl 2 rfl) ?_
      refine lv_iload_n hx hb dX6_join_147 rfl (lv_at hl 4 rfl) ?_
      refine lv_bipush (v := 9) hx hb dX6_join_148 (by decide) ?_
      refine lv_icmp_ne (tgt := 161) hx hb dX6_join_150 (by decide) (fun c14 => ?_) (fun c14 => ?_)
      · have h := h.1 c14
        refine lv_iload hx hb dX6_join_161 (lv_at hl 0 rfl) ?_
        refine lv_iload hx hb dX6_join_163 (lv_at hl 1 rfl) ?_
        refine lq_irem hx hb dX6_join_165 h (fun z15 h => ?_)
        exact cut166 t0 z15 S2 _ _ _ h hC (lv_sub hl [] rfl)
      · have h := h.2 c14
        refine lv_iload hx hb dX6_join_153 (lv_at hl 0 rfl) ?_
        refine lv_iload hx hb dX6_join_155 (lv_at hl 1 rfl) ?_
        refine lq_idiv hx hb dX6_join_157 h (fun z16 h => ?_)
        refine lv_goto (tgt := 166) hx hb dX6_join_158 (by decide) ?_
        exact cut166 t0 z16 S2 _ _ _ h hC (lv_sub hl [] rfl)
    · have h := h.2 c13
      refine lv_aload_n hx hb dX6_join_135 rfl (lv_at hl 2 rfl) ?_
      refine lv_aload_n hx hb dX6_join_136 rfl (lv_at hl 3 rfl) ?_
      refine lv_bipush (v := 11) hx hb dX6_join_137 (by decide) ?_
      refine lv_iload_n hx hb dX6_join_139 rfl (lv_at hl 5 rfl) ?_
      refine kv_callv [.ref a0, .int 11, .int a2] (rest := []) (ci := 6) rfl hX hC h.1 (kt_X6_fail l S2 t0 a0 11 a2 _ h.2 E _) (cw_X6_152 hts (by omega) (by omega)) rfl hl.1 (Nat.le_of_ble_eq_true rfl) ⟨Nat.zero_le _, Nat.zero_le _⟩ dX6_join_140 (fun S17 H locs hC h => ?_)
      refine lv_goto (tgt := 169) hx hb dX6_join_143 (by decide) ?_
      exact hret _ _ _ _ _ hC h dX6_join_169
  have h := h.2 c12
  rcases Decidable.em (a1 = 10) with c18 | c18
  · have h := h.1 c18
    refine lv_tableIn (tgt := 130) hx hb dX6_join_13 (by rw [c18]; decide) (by rw [c18]; decide) (by rw [c18]; rfl) (by decide) ?_
    refine lv_iload hx hb dX6_join_130 (lv_at hl 1 rfl) ?_
    refine lv_if_ne (tgt := 146) hx hb dX6_join_132 (by decide) (fun c19 => ?_) (fun c19 => ?_)
    · have h := h.1 c19
      refine lv_aload_n hx hb dX6_join_146 rfl (lv_at hl 2 rfl) ?_
      refine lv_iload_n hx hb dX6_join_147 rfl (lv_at hl 4 rfl) ?_
      refine lv_bipush (v := 9) hx hb dX6_join_148 (by decide) ?_
      refine lv_icmp_ne (tgt := 161) hx hb dX6_join_150 (by decide) (fun c20 => ?_) (fun c20 => ?_)
      · have h := h.1 c20
        refine lv_iload hx hb dX6_join_161 (lv_at hl 0 rfl) ?_
        refine lv_iload hx hb dX6_join_163 (lv_at hl 1 rfl) ?_
        refine lq_irem hx hb dX6_join_165 h (fun z21 h => ?_)
        exact cut166 t0 z21 S2 _ _ _ h hC (lv_sub hl [] rfl)
      · have h := h.2 c20
        refine lv_iload hx hb dX6_join_153 (lv_at hl 0 rfl) ?_
        refine lv_iload hx hb dX6_join_155 (lv_at hl 1 rfl) ?_
        refine lq_idiv hx hb dX6_join_157 h (fun z22 h => ?_)
        refine lv_goto (tgt := 166) hx hb dX6_join_158 (by decide) ?_
        exact cut166 t0 z22 S2 _ _ _ h hC (lv_sub hl [] rfl)
    · have h := h.2 c19
      refine lv_aload_n hx hb dX6_join_135 rfl (lv_at hl 2 rfl) ?_
      refine lv_aload_n hx hb dX6_join_136 rfl (lv_at hl 3 rfl) ?_
      refine lv_bipush (v := 11) hx hb dX6_join_137 (by decide) ?_
      refine lv_iload_n hx hb dX6_join_139 rfl (lv_at hl 5 rfl) ?_
      refine kv_callv [.ref a0, .int 11, .int a2] (rest := []) (ci := 6) rfl hX hC h.1 (kt_X6_fail l S2 t0 a0 11 a2 _ h.2 E _) (cw_X6_152 hts (by omega) (by omega)) rfl hl.1 (Nat.le_of_ble_eq_true rfl) ⟨Nat.zero_le _, Nat.zero_le _⟩ dX6_join_140 (fun S23 H locs hC h => ?_)
      refine lv_goto (tgt := 169) hx hb dX6_join_143 (by decide) ?_
      exact hret _ _ _ _ _ hC h dX6_join_169
  have h := h.2 c18
  rcases Decidable.em (a1 = 11) with c24 | c24
  · have h := h.1 c24
    refine lv_tableIn (tgt := 92) hx hb dX6_join_13 (by rw [c24]; decide) (by rw [c24]; decide) (by rw [c24]; rfl) (by decide) ?_
    refine lv_aload_n hx hb dX6_join_92 rfl (lv_at hl 2 rfl) ?_
    refine lv_iload hx hb dX6_join_93 (lv_at hl 0 rfl) ?_
    refine lv_iload hx hb dX6_join_95 (lv_at hl 1 rfl) ?_
    refine lv_icmp_ge (tgt := 104) hx hb dX6_join_97 (by decide) (fun c25 => ?_) (fun c25 => ?_)
    · have h := h.1 c25
      refine lv_iconst (v := 0) hx hb dX6_join_104 (by decide) ?_
      exact cut105 t0 0 S2 _ _ _ h hC (lv_sub hl [] rfl)
    · have h := h.2 c25
      refine lv_iconst (v := 1) hx hb dX6_join_100 (by decide) ?_
      refine lv_goto (tgt := 105) hx hb dX6_join_101 (by decide) ?_
      exact cut105 t0 1 S2 _ _ _ h hC (lv_sub hl [] rfl)
  have h := h.2 c24
  rcases Decidable.em (a1 = 12) with c26 | c26
  · have h := h.1 c26
    refine lv_tableIn (tgt := 111) hx hb dX6_join_13 (by rw [c26]; decide) (by rw [c26]; decide) (by rw [c26]; rfl) (by decide) ?_
    refine lv_aload_n hx hb dX6_join_111 rfl (lv_at hl 2 rfl) ?_
    refine lv_iload hx hb dX6_join_112 (lv_at hl 0 rfl) ?_
    refine lv_iload hx hb dX6_join_114 (lv_at hl 1 rfl) ?_
    refine lv_icmp_ne (tgt := 123) hx hb dX6_join_116 (by decide) (fun c27 => ?_) (fun c27 => ?_)
    · have h := h.1 c27
      refine lv_iconst (v := 0) hx hb dX6_join_123 (by decide) ?_
      exact cut124 t0 0 S2 _ _ _ h hC (lv_sub hl [] rfl)
    · have h := h.2 c27
      refine lv_iconst (v := 1) hx hb dX6_join_119 (by decide) ?_
      refine lv_goto (tgt := 124) hx hb dX6_join_120 (by decide) ?_
      exact cut124 t0 1 S2 _ _ _ h hC (lv_sub hl [] rfl)
  have h := h.2 c26
  refine lv_tableOut (tgt := 130) hx hb dX6_join_13 (by have nc3 := lv_neT c3 (show (6 : Int32).toInt = 6 by decide); have nc6 := lv_neT c6 (show (7 : Int32).toInt = 7 by decide); have nc9 := lv_neT c9 (show (8 : Int32).toInt = 8 by decide); have nc12 := lv_neT c12 (show (9 : Int32).toInt = 9 by decide); have nc18 := lv_neT c18 (show (10 : Int32).toInt = 10 by decide); have nc24 := lv_neT c24 (show (11 : Int32).toInt = 11 by decide); have nc26 := lv_neT c26 (show (12 : Int32).toInt = 12 by decide); omega) (by decide) ?_
  refine lv_iload hx hb dX6_join_130 (lv_at hl 1 rfl) ?_
  refine lv_if_ne (tgt := 146) hx hb dX6_join_132 (by decide) (fun c28 => ?_) (fun c28 => ?_)
  · have h := h.1 c28
    refine lv_aload_n hx hb dX6_join_146 rfl (lv_at hl 2 rfl) ?_
    refine lv_iload_n hx hb dX6_join_147 rfl (lv_at hl 4 rfl) ?_
    refine lv_bipush (v := 9) hx hb dX6_join_148 (by decide) ?_
    refine lv_icmp_ne (tgt := 161) hx hb dX6_join_150 (by decide) (fun c29 => ?_) (fun c29 => ?_)
    · have h := h.1 c29
      refine lv_iload hx hb dX6_join_161 (lv_at hl 0 rfl) ?_
      refine lv_iload hx hb dX6_join_163 (lv_at hl 1 rfl) ?_
      refine lq_irem hx hb dX6_join_165 h (fun z30 h => ?_)
      exact cut166 t0 z30 S2 _ _ _ h hC (lv_sub hl [] rfl)
    · have h := h.2 c29
      refine lv_iload hx hb dX6_join_153 (lv_at hl 0 rfl) ?_
      refine lv_iload hx hb dX6_join_155 (lv_at hl 1 rfl) ?_
      refine lq_idiv hx hb dX6_join_157 h (fun z31 h => ?_)
      refine lv_goto (tgt := 166) hx hb dX6_join_158 (by decide) ?_
      exact cut166 t0 z31 S2 _ _ _ h hC (lv_sub hl [] rfl)
  · have h := h.2 c28
    refine lv_aload_n hx hb dX6_join_135 rfl (lv_at hl 2 rfl) ?_
    refine lv_aload_n hx hb dX6_join_136 rfl (lv_at hl 3 rfl) ?_
    refine lv_bipush (v := 11) hx hb dX6_join_137 (by decide) ?_
    refine lv_iload_n hx hb dX6_join_139 rfl (lv_at hl 5 rfl) ?_
    refine kv_callv [.ref a0, .int 11, .int a2] (rest := []) (ci := 6) rfl hX hC h.1 (kt_X6_fail l S2 t0 a0 11 a2 _ h.2 E _) (cw_X6_152 hts (by omega) (by omega)) rfl hl.1 (Nat.le_of_ble_eq_true rfl) ⟨Nat.zero_le _, Nat.zero_le _⟩ dX6_join_140 (fun S32 H locs hC h => ?_)
    refine lv_goto (tgt := 169) hx hb dX6_join_143 (by decide) ?_
    exact hret _ _ _ _ _ hC h dX6_join_169
def wp_X9_look (t0 : Nat) (a0 : Int32) (S : kS) (K : kS → Int32 → Prop) : Prop := ((a0 < 0 → K S 0) ∧ (¬ a0 < 0 → ((12 ≤ a0 → K S 0) ∧ (¬ 12 ≤ a0 → hasO S t0 9 ∧ ∀ z3 : Option Nat, z3 = S.2.1 58 t0 → ∃ q4 : Nat, z3 = some q4 ∧ hasA S q4 12 0 ∧ inR a0 12 ∧ ∀ z5 : Int32, z5 = S.2.2.1 q4 (ix a0) → K S z5))))
set_option maxHeartbeats 4000000 in
set_option maxRecDepth 100000 in
theorem kt_X9_look (l : Launch) (S : kS) (t0 : Nat) (a0 : Int32) (K : kS → Int32 → Prop) (h : wp_X9_look t0 a0 S K) : kMi l yX9_look cX9_look 2 (some .int) 0 0 [.ref t0, .int a0] S K := by
  refine kv_ofi (own := RX9) (by decide) rfl (Nat.le_of_ble_eq_true rfl) ?_
  intro E p e R s m args below meth c A ls Q hRf hRl hX hC hl hret
  have hx := hX.1.1
  have hb := hX.1.2.1
  have hown := hX.1.2.2.2.1
  have hts := hX.1.2.2.2.2
  have hl : lv_has ls 2 [(0, .ref t0), (1, .int a0)] := hl
  unfold wp_X9_look at h
  refine lv_iload_n hx hb dX9_look_0 rfl (lv_at hl 1 rfl) ?_
  refine lv_if_lt (tgt := 19) hx hb dX9_look_1 (by decide) (fun c1 => ?_) (fun c1 => ?_)
  · have h := h.1 c1
    refine lv_iconst (v := 0) hx hb dX9_look_19 (by decide) ?_
    exact hret _ _ _ _ _ _ hC h dX9_look_20
  · have h := h.2 c1
    refine lv_iload_n hx hb dX9_look_4 rfl (lv_at hl 1 rfl) ?_
    refine lv_bipush (v := 12) hx hb dX9_look_5 (by decide) ?_
    refine lv_icmp_ge (tgt := 19) hx hb dX9_look_7 (by decide) (fun c2 => ?_) (fun c2 => ?_)
    · have h := h.1 c2
      refine lv_iconst (v := 0) hx hb dX9_look_19 (by decide) ?_
      exact hret _ _ _ _ _ _ hC h dX9_look_20
    · have h := h.2 c2
      refine lv_aload_n hx hb dX9_look_10 rfl (lv_at hl 0 rfl) ?_
      refine cq_getr (ci := 9) (k := 11) (f := 58) hX hC rfl in_X9 (by decide) wd_892 (fun _ h9 => h9) (fun _ _ => rfl) dX9_look_11 h (fun z3 h => ?_)
      refine lv_iload_n hx hb dX9_look_14 rfl (lv_at hl 1 rfl) ?_
      obtain ⟨q4, e9, hh⟩ := h
      subst e9
      have h := hh
      clear hh
      refine cq_ild hX hC dX9_look_15 h (fun z5 h => ?_)
      refine lv_goto (tgt := 20) hx hb dX9_look_16 (by decide) ?_
      exact hret _ _ _ _ _ _ hC h dX9_look_20
def wp_X6_reckon (t0 : Nat) (a0 : Nat) (a1 : Int32) (a2 : Int32) (S : kS) (K : kS → Prop) : Prop := hasO S t0 6 ∧ ∀ z1 : Option Nat, z1 = S.2.1 41 t0 → ∃ q2 : Nat, z1 = some q2 ∧ hasO S q2 1 ∧ ∀ z3 : Option Nat, z3 = S.2.1 2 q2 → ∃ q4 : Nat, z3 = some q4 ∧ hasO S q4 5 ∧ ∀ z5 : Option Nat, z5 = S.2.1 29 q4 → ∃ q6 : Nat, z5 = some q6 ∧ hasA S q6 8064 0 ∧ inR a2 8064 ∧ ∀ z7 : Int32, z7 = S.2.2.1 q6 (ix a2) → ((a1 = 0 → hasO S t0 6 ∧ ∀ S9 : kS, S9 = cI S 21 t0 0 → K S9) ∧ (¬ a1 = 0 → ((a1 = 1 → K S) ∧ (¬ a1 = 1 → ((a1 = 2 → hasO S t0 6 ∧ wp_X6_push t0 z7 S (fun (S12 : kS) => K S12)) ∧ (¬ a1 = 2 → ((a1 = 3 → hasO S a0 9 ∧ wp_X9_look a0 z7 S (fun (S14 : kS) (r14 : Int32) => hasO S14 t0 6 ∧ wp_X6_push t0 r14 S14 (fun (S15 : kS) => K S15))) ∧ (¬ a1 = 3 → ((a1 = 4 → hasO S t0 6 ∧ ∀ z17 : Option Nat, z17 = S.2.1 41 t0 → ∃ q18 : Nat, z17 = some q18 ∧ hasO S q18 1 ∧ ∀ z19 : Int32, z19 = S.1 4 q18 → hasO S t0 6 ∧ wp_X6_push t0 z19 S (fun (S20 : kS) => K S20)) ∧ (¬ a1 = 4 → ((a1 = 5 → hasO S t0 6 ∧ wp_X6_pop t0 S (fun (S22 : kS) (r22 : Int32) => ∀ z23 : Int32, z23 = -r22 → hasO S22 t0 6 ∧ wp_X6_push t0 z23 S22 (fun (S24 : kS) => K S24))) ∧ (¬ a1 = 5 → hasO S t0 6 ∧ wp_X6_join t0 a0 a1 a2 S (fun (S25 : kS) => K S25)))))))))))))
theorem cw_X6_139 {R : Room} {s : State} {args : Array Value} {fr lo : Nat} (hts : ∀ w ∈ tb, w.before args s = true) (h1 : fr + 1 ≤ R.frames) (h2 : 8 + (2 + 11) + lo ≤ R.locals) : CallW R s args RX6 RX9 139 yX9_look cX9_look 2 (some .int) (.code yX9_look cX9_look 2 (some .int) :: tb) (mRm fr lo) 0 0 1 := cwV 1 hts (gd_V wd_1009 wd_1010 wd_1011 wd_22 wd_1012) rfl rfl rfl (by decide +kernel) ⟨h1, h2⟩
theorem cw_X6_149 {R : Room} {s : State} {args : Array Value} {fr lo : Nat} (hts : ∀ w ∈ tb, w.before args s = true) (h1 : fr + 1 ≤ R.frames) (h2 : 8 + (6 + 11) + lo ≤ R.locals) : CallW R s args RX6 RX6 149 yX6_join cX6_join 6 none (.code yX6_join cX6_join 6 none :: tb) (mRm fr lo) 0 0 3 := cwV 3 hts (gd_V wd_1017 wd_1019 sl_X6_join wd_12 wd_1020) rfl rfl rfl (by decide +kernel) ⟨h1, h2⟩
set_option maxHeartbeats 4000000 in
set_option maxRecDepth 100000 in
theorem kt_X6_reckon (l : Launch) (S : kS) (t0 : Nat) (a0 : Nat) (a1 : Int32) (a2 : Int32) (K : kS → Prop) (h : wp_X6_reckon t0 a0 a1 a2 S K) : kMv l yX6_reckon cX6_reckon 5 none 4 104 [.ref t0, .ref a0, .int a1, .int a2] S K := by
  refine kv_ofv (own := RX6) (by decide) rfl (Nat.le_of_ble_eq_true rfl) ?_
  intro E p e R s m args below meth c A ls Q hRf hRl hX hC hl hret
  have hx := hX.1.1
  have hb := hX.1.2.1
  have hown := hX.1.2.2.2.1
  have hts := hX.1.2.2.2.2
  have hl : lv_has ls 5 [(0, .ref t0), (1, .ref a0), (2, .int a1), (3, .int a2)] := hl
  unfold wp_X6_reckon at h
  refine lv_aload_n hx hb dX6_reckon_0 rfl (lv_at hl 0 rfl) ?_
  refine cq_getr (ci := 6) (k := 3) (f := 41) hX hC rfl in_X6 (by decide) wd_307 (fun _ h9 => h9) (fun _ _ => rfl) dX6_reckon_1 h (fun z1 h => ?_)
  obtain ⟨q2, e9, hh⟩ := h
  subst e9
  have h := hh
  clear hh
  refine cq_getr (ci := 1) (k := 0) (f := 2) hX hC rfl in_X1 (by decide) wd_234 (fun _ h9 => h9) (fun _ _ => rfl) dX6_reckon_4 h (fun z3 h => ?_)
  obtain ⟨q4, e9, hh⟩ := h
  subst e9
  have h := hh
  clear hh
  refine cq_getr (ci := 5) (k := 2) (f := 29) hX hC rfl in_X5 (by decide) wd_404 (fun _ h9 => h9) (fun _ _ => rfl) dX6_reckon_7 h (fun z5 h => ?_)
  refine lv_iload_n hx hb dX6_reckon_10 rfl (lv_at hl 3 rfl) ?_
  obtain ⟨q6, e9, hh⟩ := h
  subst e9
  have h := hh
  clear hh
  refine cq_ild hX hC dX6_reckon_11 h (fun z7 h => ?_)
  refine lv_istore (lv' := [(4, .int z7), (0, .ref t0), (1, .ref a0), (2, .int a1), (3, .int a2)]) hx hb dX6_reckon_12 hl (by decide) rfl (fun ls hl => ?_)
  refine lv_iload_n hx hb dX6_reckon_14 rfl (lv_at hl 3 rfl) ?_
  rcases Decidable.em (a1 = 0) with c8 | c8
  · have h := h.1 c8
    refine lv_tableIn (tgt := 52) hx hb dX6_reckon_15 (by rw [c8]; decide) (by rw [c8]; decide) (by rw [c8]; rfl) (by decide) ?_
    refine lv_aload_n hx hb dX6_reckon_52 rfl (lv_at hl 1 rfl) ?_
    refine lv_iconst (v := 0) hx hb dX6_reckon_53 (by decide) ?_
    refine cq_puti (v := 0) (ci := 6) (k := 5) (f := 21) hX hC rfl in_X6 (by decide) wd_309 (fun _ h9 => h9) tyX6 tyX6_ok nmX6 rfl rfl rfl (fun _ _ => Nat.le_of_ble_eq_true rfl) (fun _ _ _ => rfl) dX6_reckon_54 h.1 h.2 (fun S9 H locs hC h => ?_)
    refine lv_goto (tgt := 118) hx hb dX6_reckon_57 (by decide) ?_
    exact hret _ _ _ _ _ hC h dX6_reckon_118
  have h := h.2 c8
  rcases Decidable.em (a1 = 1) with c10 | c10
  · have h := h.1 c10
    refine lv_tableIn (tgt := 60) hx hb dX6_reckon_15 (by rw [c10]; decide) (by rw [c10]; decide) (by rw [c10]; rfl) (by decide) ?_
    refine lv_goto (tgt := 118) hx hb dX6_reckon_60 (by decide) ?_
    exact hret _ _ _ _ _ hC h dX6_reckon_118
  have h := h.2 c10
  rcases Decidable.em (a1 = 2) with c11 | c11
  · have h := h.1 c11
    refine lv_tableIn (tgt := 63) hx hb dX6_reckon_15 (by rw [c11]; decide) (by rw [c11]; decide) (by rw [c11]; rfl) (by decide) ?_
    refine lv_aload_n hx hb dX6_reckon_63 rfl (lv_at hl 1 rfl) ?_
    refine lv_iload hx hb dX6_reckon_64 (lv_at hl 0 rfl) ?_
    refine kv_callv [.int z7] (rest := []) (ci := 6) rfl hX hC h.1 (kt_X6_push l S t0 z7 _ h.2 E _) (cw_X6_98 hts (by omega) (by omega)) rfl hl.1 (Nat.le_of_ble_eq_true rfl) ⟨Nat.zero_le _, Nat.zero_le _⟩ dX6_reckon_66 (fun S12 H locs hC h => ?_)
    refine lv_goto (tgt := 118) hx hb dX6_reckon_69 (by decide) ?_
    exact hret _ _ _ _ _ hC h dX6_reckon_118
  have h := h.2 c11
  rcases Decidable.em (a1 = 3) with c13 | c13
  · have h := h.1 c13
    refine lv_tableIn (tgt := 72) hx hb dX6_reckon_15 (by rw [c13]; decide) (by rw [c13]; decide) (by rw [c13]; rfl) (by decide) ?_
    refine lv_aload_n hx hb dX6_reckon_72 rfl (lv_at hl 1 rfl) ?_
    refine lv_aload_n hx hb dX6_reckon_73 rfl (lv_at hl 2 rfl) ?_
    refine lv_iload hx hb dX6_reckon_74 (lv_at hl 0 rfl) ?_
    refine kv_calli [.int z7] (rest := [.ref t0]) (ci := 9) rfl hX hC h.1 (kt_X9_look l S a0 z7 _ h.2 E _) (cw_X6_139 hts (by omega) (by omega)) rfl hl.1 (Nat.le_of_ble_eq_true rfl) ⟨Nat.zero_le _, Nat.zero_le _⟩ dX6_reckon_76 (fun r14 S14 H locs hC h => ?_)
    refine kv_callv [.int r14] (rest := []) (ci := 6) rfl hX hC h.1 (kt_X6_push l S14 t0 r14 _ h.2 E _) (cw_X6_98 hts (by omega) (by omega)) rfl hl.1 (Nat.le_of_ble_eq_true rfl) ⟨Nat.zero_le _, Nat.zero_le _⟩ dX6_reckon_79 (fun S15 H locs hC h => ?_)
    refine lv_goto (tgt := 118) hx hb dX6_reckon_82 (by decide) ?_
    exact hret _ _ _ _ _ hC h dX6_reckon_118
  have h := h.2 c13
  rcases Decidable.em (a1 = 4) with c16 | c16
  · have h := h.1 c16
    refine lv_tableIn (tgt := 85) hx hb dX6_reckon_15 (by rw [c16]; decide) (by rw [c16]; decide) (by rw [c16]; rfl) (by decide) ?_
    refine lv_aload_n hx hb dX6_reckon_85 rfl (lv_at hl 1 rfl) ?_
    refine lv_aload_n hx hb dX6_reckon_86 rfl (lv_at hl 1 rfl) ?_
    refine cq_getr (ci := 6) (k := 3) (f := 41) hX hC rfl in_X6 (by decide) wd_307 (fun _ h9 => h9) (fun _ _ => rfl) dX6_reckon_87 h (fun z17 h => ?_)
    obtain ⟨q18, e9, hh⟩ := h
    subst e9
    have h := hh
    clear hh
    refine cq_geti (ci := 1) (k := 6) (f := 4) hX hC rfl in_X1 (by decide) wd_246 (fun _ h9 => h9) (fun _ _ => rfl) dX6_reckon_90 h (fun z19 h => ?_)
    refine kv_callv [.int z19] (rest := []) (ci := 6) rfl hX hC h.1 (kt_X6_push l S t0 z19 _ h.2 E _) (cw_X6_98 hts (by omega) (by omega)) rfl hl.1 (Nat.le_of_ble_eq_true rfl) ⟨Nat.zero_le _, Nat.zero_le _⟩ dX6_reckon_93 (fun S20 H locs hC h => ?_)
    refine lv_goto (tgt := 118) hx hb dX6_reckon_96 (by decide) ?_
    exact hret _ _ _ _ _ hC h dX6_reckon_118
  have h := h.2 c16
  rcases Decidable.em (a1 = 5) with c21 | c21
  · have h := h.1 c21
    refine lv_tableIn (tgt := 99) hx hb dX6_reckon_15 (by rw [c21]; decide) (by rw [c21]; decide) (by rw [c21]; rfl) (by decide) ?_
    refine lv_aload_n hx hb dX6_reckon_99 rfl (lv_at hl 1 rfl) ?_
    refine lv_aload_n hx hb dX6_reckon_100 rfl (lv_at hl 1 rfl) ?_
    refine kv_calli [] (rest := [.ref t0]) (ci := 6) rfl hX hC h.1 (kt_X6_pop l S t0 _ h.2 E _) (cw_X6_145 hts (by omega) (by omega)) rfl hl.1 (Nat.le_of_ble_eq_true rfl) ⟨Nat.zero_le _, Nat.zero_le _⟩ dX6_reckon_101 (fun r22 S22 H locs hC h => ?_)
    refine lq_ineg hx hb dX6_reckon_104 h (fun z23 h => ?_)
    refine kv_callv [.int z23] (rest := []) (ci := 6) rfl hX hC h.1 (kt_X6_push l S22 t0 z23 _ h.2 E _) (cw_X6_98 hts (by omega) (by omega)) rfl hl.1 (Nat.le_of_ble_eq_true rfl) ⟨Nat.zero_le _, Nat.zero_le _⟩ dX6_reckon_105 (fun S24 H locs hC h => ?_)
    refine lv_goto (tgt := 118) hx hb dX6_reckon_108 (by decide) ?_
    exact hret _ _ _ _ _ hC h dX6_reckon_118
  have h := h.2 c21
  refine lv_tableOut (tgt := 111) hx hb dX6_reckon_15 (by have nc8 := lv_neT c8 (show (0 : Int32).toInt = 0 by decide); have nc10 := lv_neT c10 (show (1 : Int32).toInt = 1 by decide); have nc11 := lv_neT c11 (show (2 : Int32).toInt = 2 by decide); have nc13 := lv_neT c13 (show (3 : Int32).toInt = 3 by decide); have nc16 := lv_neT c16 (show (4 : Int32).toInt = 4 by decide); have nc21 := lv_neT c21 (show (5 : Int32).toInt = 5 by decide); omega) (by decide) ?_
  refine lv_aload_n hx hb dX6_reckon_111 rfl (lv_at hl 1 rfl) ?_
  refine lv_aload_n hx hb dX6_reckon_112 rfl (lv_at hl 2 rfl) ?_
  refine lv_iload_n hx hb dX6_reckon_113 rfl (lv_at hl 3 rfl) ?_
  refine lv_iload_n hx hb dX6_reckon_114 rfl (lv_at hl 4 rfl) ?_
  refine kv_callv [.ref a0, .int a1, .int a2] (rest := []) (ci := 6) rfl hX hC h.1 (kt_X6_join l S t0 a0 a1 a2 _ h.2 E _) (cw_X6_149 hts (by omega) (by omega)) rfl hl.1 (Nat.le_of_ble_eq_true rfl) ⟨Nat.zero_le _, Nat.zero_le _⟩ dX6_reckon_115 (fun S25 H locs hC h => ?_)
  exact hret _ _ _ _ _ hC h dX6_reckon_118
def wp_X6_step (t0 : Nat) (S : kS) (K : kS → Int32 → Prop) : Prop := hasO S t0 6 ∧ ∀ z1 : Int32, z1 = S.1 20 t0 → ((3000 ≤ z1 → K S 0) ∧ (¬ 3000 ≤ z1 → hasO S t0 6 ∧ ∀ z3 : Int32, z3 = S.1 19 t0 → ((z3 < 100000 → hasO S t0 6 ∧ ∀ z5 : Int32, z5 = S.1 20 t0 → ∀ z6 : Int32, z6 = z5 + 1 → hasO S t0 6 ∧ ∀ S7 : kS, S7 = cI S 20 t0 z6 → hasO S7 t0 6 ∧ ∀ z8 : Int32, z8 = S7.1 19 t0 → ∀ z9 : Int32, z9 = z8 + 1 → hasO S7 t0 6 ∧ ∀ S10 : kS, S10 = cI S7 19 t0 z9 → K S10 1) ∧ (¬ z3 < 100000 → K S 0))))
set_option maxHeartbeats 4000000 in
set_option maxRecDepth 100000 in
theorem kt_X6_step (l : Launch) (S : kS) (t0 : Nat) (K : kS → Int32 → Prop) (h : wp_X6_step t0 S K) : kMi l yX6_step cX6_step 1 (some .boolean) 0 0 [.ref t0] S K := by
  refine kv_ofz (own := RX6) (by decide) rfl (Nat.le_of_ble_eq_true rfl) ?_
  intro E p e R s m args below meth c A ls Q hRf hRl hX hC hl hret
  have hx := hX.1.1
  have hb := hX.1.2.1
  have hown := hX.1.2.2.2.1
  have hts := hX.1.2.2.2.2
  have hl : lv_has ls 1 [(0, .ref t0)] := hl
  unfold wp_X6_step at h
  refine lv_aload_n hx hb dX6_step_0 rfl (lv_at hl 0 rfl) ?_
  refine cq_geti (ci := 6) (k := 1) (f := 20) hX hC rfl in_X6 (by decide) wd_303 (fun _ h9 => h9) (fun _ _ => rfl) dX6_step_1 h (fun z1 h => ?_)
  refine lv_sipush (v := 3000) hx hb dX6_step_4 (by decide) ?_
  refine lv_icmp_ge (tgt := 19) hx hb dX6_step_7 (by decide) (fun c2 => ?_) (fun c2 => ?_)
  · have h := h.1 c2
    refine lv_iconst (v := 0) hx hb dX6_step_19 (by decide) ?_
    exact hret _ _ _ _ _ _ hC (Or.inl rfl) h dX6_step_20
  · have h := h.2 c2
    refine lv_aload_n hx hb dX6_step_10 rfl (lv_at hl 0 rfl) ?_
    refine cq_geti (ci := 6) (k := 0) (f := 19) hX hC rfl in_X6 (by decide) wd_301 (fun _ h9 => h9) (fun _ _ => rfl) dX6_step_11 h (fun z3 h => ?_)
    refine lv_ldc (v := 100000) hx hb hown (hts _ wd_1004) dX6_step_14 ?_
    refine lv_icmp_lt (tgt := 21) hx hb dX6_step_16 (by decide) (fun c4 => ?_) (fun c4 => ?_)
    · have h := h.1 c4
      refine lv_aload_n hx hb dX6_step_21 rfl (lv_at hl 0 rfl) ?_
      refine lv_dup hx hb dX6_step_22 rfl ?_
      refine cq_geti (ci := 6) (k := 1) (f := 20) hX hC rfl in_X6 (by decide) wd_303 (fun _ h9 => h9) (fun _ _ => rfl) dX6_step_23 h (fun z5 h => ?_)
      refine lv_iconst (v := 1) hx hb dX6_step_26 (by decide) ?_
      refine lq_iadd hx hb dX6_step_27 h (fun z6 h => ?_)
      refine cq_puti (v := z6) (ci := 6) (k := 1) (f := 20) hX hC rfl in_X6 (by decide) wd_303 (fun _ h9 => h9) tyX6 tyX6_ok nmX6 rfl rfl rfl (fun _ _ => Nat.le_of_ble_eq_true rfl) (fun _ _ _ => rfl) dX6_step_28 h.1 h.2 (fun S7 H locs hC h => ?_)
      refine lv_aload_n hx hb dX6_step_31 rfl (lv_at hl 0 rfl) ?_
      refine lv_dup hx hb dX6_step_32 rfl ?_
      refine cq_geti (ci := 6) (k := 0) (f := 19) hX hC rfl in_X6 (by decide) wd_301 (fun _ h9 => h9) (fun _ _ => rfl) dX6_step_33 h (fun z8 h => ?_)
      refine lv_iconst (v := 1) hx hb dX6_step_36 (by decide) ?_
      refine lq_iadd hx hb dX6_step_37 h (fun z9 h => ?_)
      refine cq_puti (v := z9) (ci := 6) (k := 0) (f := 19) hX hC rfl in_X6 (by decide) wd_301 (fun _ h9 => h9) tyX6 tyX6_ok nmX6 rfl rfl rfl (fun _ _ => Nat.le_of_ble_eq_true rfl) (fun _ _ _ => rfl) dX6_step_38 h.1 h.2 (fun S10 H locs hC h => ?_)
      refine lv_iconst (v := 1) hx hb dX6_step_41 (by decide) ?_
      exact hret _ _ _ _ _ _ hC (Or.inr rfl) h dX6_step_42
    · have h := h.2 c4
      refine lv_iconst (v := 0) hx hb dX6_step_19 (by decide) ?_
      exact hret _ _ _ _ _ _ hC (Or.inl rfl) h dX6_step_20
