theorem wd_1412 : (Jvm.Cond.fieldLink "SleepersModel" (359 : Nat) "SleepersModel" "next" "I") ∈ tb := tb_at 1412 (by decide +kernel) (by decide +kernel)
theorem wd_1806 : (Jvm.Cond.methodLink "SleepersModel" (377 : Nat) ({ cls := "SleepersModel", name := "toldRoutine", desc := "()V" } : Jvm.MethodName)) ∈ tb := tb_at 1806 (by decide +kernel) (by decide +kernel)
theorem wd_1808 : (Jvm.Cond.instanceMethod ({ cls := "SleepersModel", name := "toldRoutine", desc := "()V" } : Jvm.MethodName)) ∈ tb := tb_at 1808 (by decide +kernel) (by decide +kernel)
theorem wd_1809 : (Jvm.Cond.code ({ cls := "SleepersModel", name := "toldRoutine", desc := "()V" } : Jvm.MethodName) prog_14_method_21_code (5 : Nat) (Option.none : Option Jvm.ClassFile.FieldType)) ∈ tb := tb_at 1809 (by decide +kernel) (by decide +kernel)
theorem wd_1954 : (Jvm.Cond.methodLink "SleepersModel" (384 : Nat) ({ cls := "SleepersModel", name := "forget", desc := "()V" } : Jvm.MethodName)) ∈ tb := tb_at 1954 (by decide +kernel) (by decide +kernel)
theorem wd_1956 : (Jvm.Cond.instanceMethod ({ cls := "SleepersModel", name := "forget", desc := "()V" } : Jvm.MethodName)) ∈ tb := tb_at 1956 (by decide +kernel) (by decide +kernel)
theorem wd_1957 : (Jvm.Cond.code ({ cls := "SleepersModel", name := "forget", desc := "()V" } : Jvm.MethodName) prog_14_method_59_code (2 : Nat) (Option.none : Option Jvm.ClassFile.FieldType)) ∈ tb := tb_at 1957 (by decide +kernel) (by decide +kernel)
theorem sl_X12_forget : Cond.selects RX12 yX12_forget yX12_forget ∈ tb := sl_of (y := ⟨"SleepersModel", "forget", "()V"⟩) (n := 128) (by decide +kernel) (by decide +kernel)
theorem sl_X12_toldRoutine : Cond.selects RX12 yX12_toldRoutine yX12_toldRoutine ∈ tb := sl_of (y := ⟨"SleepersModel", "toldRoutine", "()V"⟩) (n := 128) (by decide +kernel) (by decide +kernel)
theorem dX12_program_0 : decode cX12_program 0 = .ok (.aload_n 0, 1) := by decide +kernel
theorem dX12_program_1 : decode cX12_program 1 = .ok (.iconst 0, 1) := by decide +kernel
theorem dX12_program_2 : decode cX12_program 2 = .ok (.putfield 1, 3) := by decide +kernel
theorem dX12_program_5 : decode cX12_program 5 = .ok (.aload_n 0, 1) := by decide +kernel
theorem dX12_program_6 : decode cX12_program 6 = .ok (.invokevirtual 353, 3) := by decide +kernel
theorem dX12_program_9 : decode cX12_program 9 = .ok (.aload_n 0, 1) := by decide +kernel
theorem dX12_program_10 : decode cX12_program 10 = .ok (.iconst 1, 1) := by decide +kernel
theorem dX12_program_11 : decode cX12_program 11 = .ok (.aload_n 0, 1) := by decide +kernel
theorem dX12_program_12 : decode cX12_program 12 = .ok (.getfield 356, 3) := by decide +kernel
theorem dX12_program_15 : decode cX12_program 15 = .ok (.isub, 1) := by decide +kernel
theorem dX12_program_16 : decode cX12_program 16 = .ok (.putfield 359, 3) := by decide +kernel
theorem dX12_program_19 : decode cX12_program 19 = .ok (.aload_n 0, 1) := by decide +kernel
theorem dX12_program_20 : decode cX12_program 20 = .ok (.getfield 43, 3) := by decide +kernel
theorem dX12_program_23 : decode cX12_program 23 = .ok (.aload_n 0, 1) := by decide +kernel
theorem dX12_program_24 : decode cX12_program 24 = .ok (.getfield 359, 3) := by decide +kernel
theorem dX12_program_27 : decode cX12_program 27 = .ok (.iconst 0, 1) := by decide +kernel
theorem dX12_program_28 : decode cX12_program 28 = .ok (.iastore, 1) := by decide +kernel
theorem dX12_program_29 : decode cX12_program 29 = .ok (.aload_n 0, 1) := by decide +kernel
theorem dX12_program_30 : decode cX12_program 30 = .ok (.sipush 12000, 3) := by decide +kernel
theorem dX12_program_33 : decode cX12_program 33 = .ok (.aload_n 0, 1) := by decide +kernel
theorem dX12_program_34 : decode cX12_program 34 = .ok (.getfield 359, 3) := by decide +kernel
theorem dX12_program_37 : decode cX12_program 37 = .ok (.imul, 1) := by decide +kernel
theorem dX12_program_38 : decode cX12_program 38 = .ok (.putfield 362, 3) := by decide +kernel
theorem dX12_program_41 : decode cX12_program 41 = .ok (.aload_n 0, 1) := by decide +kernel
theorem dX12_program_42 : decode cX12_program 42 = .ok (.sipush 12000, 3) := by decide +kernel
theorem dX12_program_45 : decode cX12_program 45 = .ok (.aload_n 0, 1) := by decide +kernel
theorem dX12_program_46 : decode cX12_program 46 = .ok (.getfield 359, 3) := by decide +kernel
theorem dX12_program_49 : decode cX12_program 49 = .ok (.imul, 1) := by decide +kernel
theorem dX12_program_50 : decode cX12_program 50 = .ok (.putfield 365, 3) := by decide +kernel
theorem dX12_program_53 : decode cX12_program 53 = .ok (.aload_n 0, 1) := by decide +kernel
theorem dX12_program_54 : decode cX12_program 54 = .ok (.sipush 500, 3) := by decide +kernel
theorem dX12_program_57 : decode cX12_program 57 = .ok (.aload_n 0, 1) := by decide +kernel
theorem dX12_program_58 : decode cX12_program 58 = .ok (.getfield 359, 3) := by decide +kernel
theorem dX12_program_61 : decode cX12_program 61 = .ok (.imul, 1) := by decide +kernel
theorem dX12_program_62 : decode cX12_program 62 = .ok (.putfield 368, 3) := by decide +kernel
theorem dX12_program_65 : decode cX12_program 65 = .ok (.aload_n 0, 1) := by decide +kernel
theorem dX12_program_66 : decode cX12_program 66 = .ok (.sipush 500, 3) := by decide +kernel
theorem dX12_program_69 : decode cX12_program 69 = .ok (.aload_n 0, 1) := by decide +kernel
theorem dX12_program_70 : decode cX12_program 70 = .ok (.getfield 359, 3) := by decide +kernel
theorem dX12_program_73 : decode cX12_program 73 = .ok (.imul, 1) := by decide +kernel
theorem dX12_program_74 : decode cX12_program 74 = .ok (.putfield 371, 3) := by decide +kernel
theorem dX12_program_77 : decode cX12_program 77 = .ok (.aload_n 0, 1) := by decide +kernel
theorem dX12_program_78 : decode cX12_program 78 = .ok (.iconst 0, 1) := by decide +kernel
theorem dX12_program_79 : decode cX12_program 79 = .ok (.putfield 374, 3) := by decide +kernel
theorem dX12_program_82 : decode cX12_program 82 = .ok (.aload_n 0, 1) := by decide +kernel
theorem dX12_program_83 : decode cX12_program 83 = .ok (.getfield 337, 3) := by decide +kernel
theorem dX12_program_86 : decode cX12_program 86 = .ok (.ifCond .ne 38, 3) := by decide +kernel
theorem dX12_program_89 : decode cX12_program 89 = .ok (.aload_n 0, 1) := by decide +kernel
theorem dX12_program_90 : decode cX12_program 90 = .ok (.getfield 24, 3) := by decide +kernel
theorem dX12_program_93 : decode cX12_program 93 = .ok (.aload_n 0, 1) := by decide +kernel
theorem dX12_program_94 : decode cX12_program 94 = .ok (.getfield 334, 3) := by decide +kernel
theorem dX12_program_97 : decode cX12_program 97 = .ok (.iaload, 1) := by decide +kernel
theorem dX12_program_98 : decode cX12_program 98 = .ok (.ifCond .eq 26, 3) := by decide +kernel
theorem dX12_program_101 : decode cX12_program 101 = .ok (.aload_n 0, 1) := by decide +kernel
theorem dX12_program_102 : decode cX12_program 102 = .ok (.iconst 0, 1) := by decide +kernel
theorem dX12_program_103 : decode cX12_program 103 = .ok (.invokevirtual 347, 3) := by decide +kernel
theorem dX12_program_106 : decode cX12_program 106 = .ok (.ifCond .eq 10, 3) := by decide +kernel
theorem dX12_program_109 : decode cX12_program 109 = .ok (.aload_n 0, 1) := by decide +kernel
theorem dX12_program_110 : decode cX12_program 110 = .ok (.invokevirtual 377, 3) := by decide +kernel
theorem dX12_program_113 : decode cX12_program 113 = .ok (.goto (-31), 3) := by decide +kernel
theorem dX12_program_116 : decode cX12_program 116 = .ok (.aload_n 0, 1) := by decide +kernel
theorem dX12_program_117 : decode cX12_program 117 = .ok (.iconst 1, 1) := by decide +kernel
theorem dX12_program_118 : decode cX12_program 118 = .ok (.invokevirtual 343, 3) := by decide +kernel
theorem dX12_program_121 : decode cX12_program 121 = .ok (.goto (-39), 3) := by decide +kernel
theorem dX12_program_124 : decode cX12_program 124 = .ok (.iconst 0, 1) := by decide +kernel
theorem dX12_program_125 : decode cX12_program 125 = .ok (.istore_n 1, 1) := by decide +kernel
theorem dX12_program_126 : decode cX12_program 126 = .ok (.iload_n 1, 1) := by decide +kernel
theorem dX12_program_127 : decode cX12_program 127 = .ok (.aload_n 0, 1) := by decide +kernel
theorem dX12_program_128 : decode cX12_program 128 = .ok (.getfield 374, 3) := by decide +kernel
theorem dX12_program_131 : decode cX12_program 131 = .ok (.if_icmp .ge 118, 3) := by decide +kernel
theorem dX12_program_134 : decode cX12_program 134 = .ok (.aload_n 0, 1) := by decide +kernel
theorem dX12_program_135 : decode cX12_program 135 = .ok (.getfield 337, 3) := by decide +kernel
theorem dX12_program_138 : decode cX12_program 138 = .ok (.ifCond .ne 111, 3) := by decide +kernel
theorem dX12_program_141 : decode cX12_program 141 = .ok (.aload_n 0, 1) := by decide +kernel
theorem dX12_program_142 : decode cX12_program 142 = .ok (.aload_n 0, 1) := by decide +kernel
theorem dX12_program_143 : decode cX12_program 143 = .ok (.getfield 46, 3) := by decide +kernel
theorem dX12_program_146 : decode cX12_program 146 = .ok (.bipush 12, 2) := by decide +kernel
theorem dX12_program_148 : decode cX12_program 148 = .ok (.aload_n 0, 1) := by decide +kernel
theorem dX12_program_149 : decode cX12_program 149 = .ok (.getfield 359, 3) := by decide +kernel
theorem dX12_program_152 : decode cX12_program 152 = .ok (.imul, 1) := by decide +kernel
theorem dX12_program_153 : decode cX12_program 153 = .ok (.aload_n 0, 1) := by decide +kernel
theorem dX12_program_154 : decode cX12_program 154 = .ok (.getfield 43, 3) := by decide +kernel
theorem dX12_program_157 : decode cX12_program 157 = .ok (.aload_n 0, 1) := by decide +kernel
theorem dX12_program_158 : decode cX12_program 158 = .ok (.getfield 359, 3) := by decide +kernel
theorem dX12_program_161 : decode cX12_program 161 = .ok (.iaload, 1) := by decide +kernel
theorem dX12_program_162 : decode cX12_program 162 = .ok (.aload_n 0, 1) := by decide +kernel
theorem dX12_program_163 : decode cX12_program 163 = .ok (.getfield 30, 3) := by decide +kernel
theorem dX12_program_166 : decode cX12_program 166 = .ok (.aload_n 0, 1) := by decide +kernel
theorem dX12_program_167 : decode cX12_program 167 = .ok (.getfield 167, 3) := by decide +kernel
theorem dX12_program_170 : decode cX12_program 170 = .ok (.iload_n 1, 1) := by decide +kernel
theorem dX12_program_171 : decode cX12_program 171 = .ok (.iaload, 1) := by decide +kernel
theorem dX12_program_172 : decode cX12_program 172 = .ok (.laload, 1) := by decide +kernel
theorem dX12_program_173 : decode cX12_program 173 = .ok (.invokevirtual 380, 3) := by decide +kernel
theorem dX12_program_176 : decode cX12_program 176 = .ok (.istore_n 2, 1) := by decide +kernel
theorem dX12_program_177 : decode cX12_program 177 = .ok (.aload_n 0, 1) := by decide +kernel
theorem dX12_program_178 : decode cX12_program 178 = .ok (.aload_n 0, 1) := by decide +kernel
theorem dX12_program_179 : decode cX12_program 179 = .ok (.getfield 167, 3) := by decide +kernel
theorem dX12_program_182 : decode cX12_program 182 = .ok (.iload_n 1, 1) := by decide +kernel
theorem dX12_program_183 : decode cX12_program 183 = .ok (.iaload, 1) := by decide +kernel
theorem dX12_program_184 : decode cX12_program 184 = .ok (.putfield 334, 3) := by decide +kernel
theorem dX12_program_187 : decode cX12_program 187 = .ok (.iload_n 2, 1) := by decide +kernel
theorem dX12_program_188 : decode cX12_program 188 = .ok (.ifCond .ge 11, 3) := by decide +kernel
theorem dX12_program_191 : decode cX12_program 191 = .ok (.aload_n 0, 1) := by decide +kernel
theorem dX12_program_192 : decode cX12_program 192 = .ok (.iconst 2, 1) := by decide +kernel
theorem dX12_program_193 : decode cX12_program 193 = .ok (.invokevirtual 343, 3) := by decide +kernel
theorem dX12_program_196 : decode cX12_program 196 = .ok (.goto 47, 3) := by decide +kernel
theorem dX12_program_199 : decode cX12_program 199 = .ok (.aload_n 0, 1) := by decide +kernel
theorem dX12_program_200 : decode cX12_program 200 = .ok (.getfield 49, 3) := by decide +kernel
theorem dX12_program_203 : decode cX12_program 203 = .ok (.bipush 12, 2) := by decide +kernel
theorem dX12_program_205 : decode cX12_program 205 = .ok (.aload_n 0, 1) := by decide +kernel
theorem dX12_program_206 : decode cX12_program 206 = .ok (.getfield 359, 3) := by decide +kernel
theorem dX12_program_209 : decode cX12_program 209 = .ok (.imul, 1) := by decide +kernel
theorem dX12_program_210 : decode cX12_program 210 = .ok (.iload_n 2, 1) := by decide +kernel
theorem dX12_program_211 : decode cX12_program 211 = .ok (.iadd, 1) := by decide +kernel
theorem dX12_program_212 : decode cX12_program 212 = .ok (.iaload, 1) := by decide +kernel
theorem dX12_program_213 : decode cX12_program 213 = .ok (.aload_n 0, 1) := by decide +kernel
theorem dX12_program_214 : decode cX12_program 214 = .ok (.getfield 170, 3) := by decide +kernel
theorem dX12_program_217 : decode cX12_program 217 = .ok (.iload_n 1, 1) := by decide +kernel
theorem dX12_program_218 : decode cX12_program 218 = .ok (.iaload, 1) := by decide +kernel
theorem dX12_program_219 : decode cX12_program 219 = .ok (.if_icmp .eq 12, 3) := by decide +kernel
theorem dX12_program_222 : decode cX12_program 222 = .ok (.aload_n 0, 1) := by decide +kernel
theorem dX12_program_223 : decode cX12_program 223 = .ok (.bipush 6, 2) := by decide +kernel
theorem dX12_program_225 : decode cX12_program 225 = .ok (.invokevirtual 343, 3) := by decide +kernel
theorem dX12_program_228 : decode cX12_program 228 = .ok (.goto 15, 3) := by decide +kernel
theorem dX12_program_231 : decode cX12_program 231 = .ok (.aload_n 0, 1) := by decide +kernel
theorem dX12_program_232 : decode cX12_program 232 = .ok (.getfield 67, 3) := by decide +kernel
theorem dX12_program_235 : decode cX12_program 235 = .ok (.aload_n 0, 1) := by decide +kernel
theorem dX12_program_236 : decode cX12_program 236 = .ok (.getfield 173, 3) := by decide +kernel
theorem dX12_program_239 : decode cX12_program 239 = .ok (.iload_n 1, 1) := by decide +kernel
theorem dX12_program_240 : decode cX12_program 240 = .ok (.iaload, 1) := by decide +kernel
theorem dX12_program_241 : decode cX12_program 241 = .ok (.iload_n 2, 1) := by decide +kernel
theorem dX12_program_242 : decode cX12_program 242 = .ok (.iastore, 1) := by decide +kernel
theorem dX12_program_243 : decode cX12_program 243 = .ok (.iinc 1 1, 3) := by decide +kernel
theorem dX12_program_246 : decode cX12_program 246 = .ok (.goto (-120), 3) := by decide +kernel
theorem dX12_program_249 : decode cX12_program 249 = .ok (.aload_n 0, 1) := by decide +kernel
theorem dX12_program_250 : decode cX12_program 250 = .ok (.getfield 337, 3) := by decide +kernel
theorem dX12_program_253 : decode cX12_program 253 = .ok (.ifCond .ne 15, 3) := by decide +kernel
theorem dX12_program_256 : decode cX12_program 256 = .ok (.aload_n 0, 1) := by decide +kernel
theorem dX12_program_257 : decode cX12_program 257 = .ok (.aload_n 0, 1) := by decide +kernel
theorem dX12_program_258 : decode cX12_program 258 = .ok (.getfield 359, 3) := by decide +kernel
theorem dX12_program_261 : decode cX12_program 261 = .ok (.putfield 356, 3) := by decide +kernel
theorem dX12_program_264 : decode cX12_program 264 = .ok (.aload_n 0, 1) := by decide +kernel
theorem dX12_program_265 : decode cX12_program 265 = .ok (.invokevirtual 384, 3) := by decide +kernel
theorem dX12_program_268 : decode cX12_program 268 = .ok (.aload_n 0, 1) := by decide +kernel
theorem dX12_program_269 : decode cX12_program 269 = .ok (.getfield 337, 3) := by decide +kernel
theorem dX12_program_272 : decode cX12_program 272 = .ok (.ireturn, 1) := by decide +kernel
theorem dX12_push_0 : decode cX12_push 0 = .ok (.aload_n 0, 1) := by decide +kernel
theorem dX12_push_1 : decode cX12_push 1 = .ok (.getfield 298, 3) := by decide +kernel
theorem dX12_push_4 : decode cX12_push 4 = .ok (.aload_n 0, 1) := by decide +kernel
theorem dX12_push_5 : decode cX12_push 5 = .ok (.getfield 603, 3) := by decide +kernel
theorem dX12_push_8 : decode cX12_push 8 = .ok (.iload_n 1, 1) := by decide +kernel
theorem dX12_push_9 : decode cX12_push 9 = .ok (.iastore, 1) := by decide +kernel
theorem dX12_push_10 : decode cX12_push 10 = .ok (.aload_n 0, 1) := by decide +kernel
theorem dX12_push_11 : decode cX12_push 11 = .ok (.dup, 1) := by decide +kernel
theorem dX12_push_12 : decode cX12_push 12 = .ok (.getfield 603, 3) := by decide +kernel
theorem dX12_push_15 : decode cX12_push 15 = .ok (.iconst 1, 1) := by decide +kernel
theorem dX12_push_16 : decode cX12_push 16 = .ok (.iadd, 1) := by decide +kernel
theorem dX12_push_17 : decode cX12_push 17 = .ok (.putfield 603, 3) := by decide +kernel
theorem dX12_push_20 : decode cX12_push 20 = .ok (.return_, 1) := by decide +kernel
theorem dX12_put_0 : decode cX12_put 0 = .ok (.aload_n 0, 1) := by decide +kernel
theorem dX12_put_1 : decode cX12_put 1 = .ok (.iconst 0, 1) := by decide +kernel
theorem dX12_put_2 : decode cX12_put 2 = .ok (.putfield 1, 3) := by decide +kernel
theorem dX12_put_5 : decode cX12_put 5 = .ok (.iload_n 1, 1) := by decide +kernel
theorem dX12_put_6 : decode cX12_put 6 = .ok (.ifCond .lt 18, 3) := by decide +kernel
theorem dX12_put_9 : decode cX12_put 9 = .ok (.iload_n 1, 1) := by decide +kernel
theorem dX12_put_10 : decode cX12_put 10 = .ok (.aload_n 0, 1) := by decide +kernel
theorem dX12_put_11 : decode cX12_put 11 = .ok (.getfield 554, 3) := by decide +kernel
theorem dX12_put_14 : decode cX12_put 14 = .ok (.if_icmp .ge 10, 3) := by decide +kernel
theorem dX12_put_17 : decode cX12_put 17 = .ok (.iload_n 1, 1) := by decide +kernel
theorem dX12_put_18 : decode cX12_put 18 = .ok (.sipush 300, 3) := by decide +kernel
theorem dX12_put_21 : decode cX12_put 21 = .ok (.if_icmp .lt 5, 3) := by decide +kernel
theorem dX12_put_24 : decode cX12_put 24 = .ok (.iconst (-1), 1) := by decide +kernel
theorem dX12_put_25 : decode cX12_put 25 = .ok (.ireturn, 1) := by decide +kernel
theorem dX12_put_26 : decode cX12_put 26 = .ok (.iload_n 2, 1) := by decide +kernel
theorem dX12_put_27 : decode cX12_put 27 = .ok (.ifCond .ne 12, 3) := by decide +kernel
theorem dX12_put_30 : decode cX12_put 30 = .ok (.aload_n 0, 1) := by decide +kernel
theorem dX12_put_31 : decode cX12_put 31 = .ok (.getfield 255, 3) := by decide +kernel
theorem dX12_put_34 : decode cX12_put 34 = .ok (.iload_n 1, 1) := by decide +kernel
theorem dX12_put_35 : decode cX12_put 35 = .ok (.iaload, 1) := by decide +kernel
theorem dX12_put_36 : decode cX12_put 36 = .ok (.goto 18, 3) := by decide +kernel
theorem dX12_put_39 : decode cX12_put 39 = .ok (.iload_n 2, 1) := by decide +kernel
theorem dX12_put_40 : decode cX12_put 40 = .ok (.iconst 1, 1) := by decide +kernel
theorem dX12_put_41 : decode cX12_put 41 = .ok (.if_icmp .ne 12, 3) := by decide +kernel
theorem dX12_put_44 : decode cX12_put 44 = .ok (.aload_n 0, 1) := by decide +kernel
theorem dX12_put_45 : decode cX12_put 45 = .ok (.getfield 258, 3) := by decide +kernel
theorem dX12_put_48 : decode cX12_put 48 = .ok (.iload_n 1, 1) := by decide +kernel
theorem dX12_put_49 : decode cX12_put 49 = .ok (.iaload, 1) := by decide +kernel
theorem dX12_put_50 : decode cX12_put 50 = .ok (.goto 4, 3) := by decide +kernel
theorem dX12_put_53 : decode cX12_put 53 = .ok (.iconst (-1), 1) := by decide +kernel
theorem dX12_put_54 : decode cX12_put 54 = .ok (.ireturn, 1) := by decide +kernel
theorem dX12_toldRoutine_0 : decode cX12_toldRoutine 0 = .ok (.bipush 12, 2) := by decide +kernel
theorem dX12_toldRoutine_2 : decode cX12_toldRoutine 2 = .ok (.aload_n 0, 1) := by decide +kernel
theorem dX12_toldRoutine_3 : decode cX12_toldRoutine 3 = .ok (.getfield 359, 3) := by decide +kernel
theorem dX12_toldRoutine_6 : decode cX12_toldRoutine 6 = .ok (.imul, 1) := by decide +kernel
theorem dX12_toldRoutine_7 : decode cX12_toldRoutine 7 = .ok (.aload_n 0, 1) := by decide +kernel
theorem dX12_toldRoutine_8 : decode cX12_toldRoutine 8 = .ok (.getfield 43, 3) := by decide +kernel
theorem dX12_toldRoutine_11 : decode cX12_toldRoutine 11 = .ok (.aload_n 0, 1) := by decide +kernel
theorem dX12_toldRoutine_12 : decode cX12_toldRoutine 12 = .ok (.getfield 359, 3) := by decide +kernel
theorem dX12_toldRoutine_15 : decode cX12_toldRoutine 15 = .ok (.iaload, 1) := by decide +kernel
theorem dX12_toldRoutine_16 : decode cX12_toldRoutine 16 = .ok (.iadd, 1) := by decide +kernel
theorem dX12_toldRoutine_17 : decode cX12_toldRoutine 17 = .ok (.istore_n 1, 1) := by decide +kernel
theorem dX12_toldRoutine_18 : decode cX12_toldRoutine 18 = .ok (.aload_n 0, 1) := by decide +kernel
theorem dX12_toldRoutine_19 : decode cX12_toldRoutine 19 = .ok (.getfield 43, 3) := by decide +kernel
theorem dX12_toldRoutine_22 : decode cX12_toldRoutine 22 = .ok (.aload_n 0, 1) := by decide +kernel
theorem dX12_toldRoutine_23 : decode cX12_toldRoutine 23 = .ok (.getfield 359, 3) := by decide +kernel
theorem dX12_toldRoutine_26 : decode cX12_toldRoutine 26 = .ok (.iaload, 1) := by decide +kernel
theorem dX12_toldRoutine_27 : decode cX12_toldRoutine 27 = .ok (.bipush 12, 2) := by decide +kernel
theorem dX12_toldRoutine_29 : decode cX12_toldRoutine 29 = .ok (.if_icmp .ne 9, 3) := by decide +kernel
theorem dX12_toldRoutine_32 : decode cX12_toldRoutine 32 = .ok (.aload_n 0, 1) := by decide +kernel
theorem dX12_toldRoutine_33 : decode cX12_toldRoutine 33 = .ok (.iconst 5, 1) := by decide +kernel
theorem dX12_toldRoutine_34 : decode cX12_toldRoutine 34 = .ok (.invokevirtual 343, 3) := by decide +kernel
theorem dX12_toldRoutine_37 : decode cX12_toldRoutine 37 = .ok (.return_, 1) := by decide +kernel
theorem dX12_toldRoutine_38 : decode cX12_toldRoutine 38 = .ok (.aload_n 0, 1) := by decide +kernel
theorem dX12_toldRoutine_39 : decode cX12_toldRoutine 39 = .ok (.dup, 1) := by decide +kernel
theorem dX12_toldRoutine_40 : decode cX12_toldRoutine 40 = .ok (.getfield 334, 3) := by decide +kernel
theorem dX12_toldRoutine_43 : decode cX12_toldRoutine 43 = .ok (.iconst 1, 1) := by decide +kernel
theorem dX12_toldRoutine_44 : decode cX12_toldRoutine 44 = .ok (.iadd, 1) := by decide +kernel
theorem dX12_toldRoutine_45 : decode cX12_toldRoutine 45 = .ok (.putfield 334, 3) := by decide +kernel
theorem dX12_toldRoutine_48 : decode cX12_toldRoutine 48 = .ok (.aload_n 0, 1) := by decide +kernel
theorem dX12_toldRoutine_49 : decode cX12_toldRoutine 49 = .ok (.invokevirtual 387, 3) := by decide +kernel
theorem dX12_toldRoutine_52 : decode cX12_toldRoutine 52 = .ok (.ifCond .ne 11, 3) := by decide +kernel
theorem dX12_toldRoutine_55 : decode cX12_toldRoutine 55 = .ok (.aload_n 0, 1) := by decide +kernel
theorem dX12_toldRoutine_56 : decode cX12_toldRoutine 56 = .ok (.iconst 1, 1) := by decide +kernel
theorem dX12_toldRoutine_57 : decode cX12_toldRoutine 57 = .ok (.invokevirtual 343, 3) := by decide +kernel
theorem dX12_toldRoutine_60 : decode cX12_toldRoutine 60 = .ok (.goto 44, 3) := by decide +kernel
theorem dX12_toldRoutine_63 : decode cX12_toldRoutine 63 = .ok (.aload_n 0, 1) := by decide +kernel
theorem dX12_toldRoutine_64 : decode cX12_toldRoutine 64 = .ok (.aload_n 0, 1) := by decide +kernel
theorem dX12_toldRoutine_65 : decode cX12_toldRoutine 65 = .ok (.getfield 46, 3) := by decide +kernel
theorem dX12_toldRoutine_68 : decode cX12_toldRoutine 68 = .ok (.bipush 12, 2) := by decide +kernel
theorem dX12_toldRoutine_70 : decode cX12_toldRoutine 70 = .ok (.aload_n 0, 1) := by decide +kernel
theorem dX12_toldRoutine_71 : decode cX12_toldRoutine 71 = .ok (.getfield 359, 3) := by decide +kernel
theorem dX12_toldRoutine_74 : decode cX12_toldRoutine 74 = .ok (.imul, 1) := by decide +kernel
theorem dX12_toldRoutine_75 : decode cX12_toldRoutine 75 = .ok (.aload_n 0, 1) := by decide +kernel
theorem dX12_toldRoutine_76 : decode cX12_toldRoutine 76 = .ok (.getfield 43, 3) := by decide +kernel
theorem dX12_toldRoutine_79 : decode cX12_toldRoutine 79 = .ok (.aload_n 0, 1) := by decide +kernel
theorem dX12_toldRoutine_80 : decode cX12_toldRoutine 80 = .ok (.getfield 359, 3) := by decide +kernel
theorem dX12_toldRoutine_83 : decode cX12_toldRoutine 83 = .ok (.iaload, 1) := by decide +kernel
theorem dX12_toldRoutine_84 : decode cX12_toldRoutine 84 = .ok (.aload_n 0, 1) := by decide +kernel
theorem dX12_toldRoutine_85 : decode cX12_toldRoutine 85 = .ok (.getfield 30, 3) := by decide +kernel
theorem dX12_toldRoutine_88 : decode cX12_toldRoutine 88 = .ok (.aload_n 0, 1) := by decide +kernel
theorem dX12_toldRoutine_89 : decode cX12_toldRoutine 89 = .ok (.getfield 334, 3) := by decide +kernel
theorem dX12_toldRoutine_92 : decode cX12_toldRoutine 92 = .ok (.laload, 1) := by decide +kernel
theorem dX12_toldRoutine_93 : decode cX12_toldRoutine 93 = .ok (.invokevirtual 380, 3) := by decide +kernel
theorem dX12_toldRoutine_96 : decode cX12_toldRoutine 96 = .ok (.ifCond .lt 8, 3) := by decide +kernel
theorem dX12_toldRoutine_99 : decode cX12_toldRoutine 99 = .ok (.aload_n 0, 1) := by decide +kernel
theorem dX12_toldRoutine_100 : decode cX12_toldRoutine 100 = .ok (.iconst 3, 1) := by decide +kernel
theorem dX12_toldRoutine_101 : decode cX12_toldRoutine 101 = .ok (.invokevirtual 343, 3) := by decide +kernel
theorem dX12_toldRoutine_104 : decode cX12_toldRoutine 104 = .ok (.aload_n 0, 1) := by decide +kernel
theorem dX12_toldRoutine_105 : decode cX12_toldRoutine 105 = .ok (.getfield 30, 3) := by decide +kernel
theorem dX12_toldRoutine_108 : decode cX12_toldRoutine 108 = .ok (.aload_n 0, 1) := by decide +kernel
theorem dX12_toldRoutine_109 : decode cX12_toldRoutine 109 = .ok (.getfield 334, 3) := by decide +kernel
theorem dX12_toldRoutine_112 : decode cX12_toldRoutine 112 = .ok (.laload, 1) := by decide +kernel
theorem dX12_toldRoutine_113 : decode cX12_toldRoutine 113 = .ok (.lstore_n 2, 1) := by decide +kernel
theorem dX12_toldRoutine_114 : decode cX12_toldRoutine 114 = .ok (.aload_n 0, 1) := by decide +kernel
theorem dX12_toldRoutine_115 : decode cX12_toldRoutine 115 = .ok (.dup, 1) := by decide +kernel
theorem dX12_toldRoutine_116 : decode cX12_toldRoutine 116 = .ok (.getfield 334, 3) := by decide +kernel
theorem dX12_toldRoutine_119 : decode cX12_toldRoutine 119 = .ok (.iconst 1, 1) := by decide +kernel
theorem dX12_toldRoutine_120 : decode cX12_toldRoutine 120 = .ok (.iadd, 1) := by decide +kernel
theorem dX12_toldRoutine_121 : decode cX12_toldRoutine 121 = .ok (.putfield 334, 3) := by decide +kernel
theorem dX12_toldRoutine_124 : decode cX12_toldRoutine 124 = .ok (.aload_n 0, 1) := by decide +kernel
theorem dX12_toldRoutine_125 : decode cX12_toldRoutine 125 = .ok (.iload_n 1, 1) := by decide +kernel
theorem dX12_toldRoutine_126 : decode cX12_toldRoutine 126 = .ok (.putfield 391, 3) := by decide +kernel
theorem dX12_toldRoutine_129 : decode cX12_toldRoutine 129 = .ok (.aload_n 0, 1) := by decide +kernel
theorem dX12_toldRoutine_130 : decode cX12_toldRoutine 130 = .ok (.getfield 52, 3) := by decide +kernel
theorem dX12_toldRoutine_133 : decode cX12_toldRoutine 133 = .ok (.iload_n 1, 1) := by decide +kernel
theorem dX12_toldRoutine_134 : decode cX12_toldRoutine 134 = .ok (.iconst 0, 1) := by decide +kernel
theorem dX12_toldRoutine_135 : decode cX12_toldRoutine 135 = .ok (.iastore, 1) := by decide +kernel
theorem dX12_toldRoutine_136 : decode cX12_toldRoutine 136 = .ok (.aload_n 0, 1) := by decide +kernel
theorem dX12_toldRoutine_137 : decode cX12_toldRoutine 137 = .ok (.getfield 58, 3) := by decide +kernel
theorem dX12_toldRoutine_140 : decode cX12_toldRoutine 140 = .ok (.iload_n 1, 1) := by decide +kernel
theorem dX12_toldRoutine_141 : decode cX12_toldRoutine 141 = .ok (.iconst 0, 1) := by decide +kernel
theorem dX12_toldRoutine_142 : decode cX12_toldRoutine 142 = .ok (.iastore, 1) := by decide +kernel
theorem dX12_toldRoutine_143 : decode cX12_toldRoutine 143 = .ok (.aload_n 0, 1) := by decide +kernel
theorem dX12_toldRoutine_144 : decode cX12_toldRoutine 144 = .ok (.bipush 40, 2) := by decide +kernel
theorem dX12_toldRoutine_146 : decode cX12_toldRoutine 146 = .ok (.invokevirtual 394, 3) := by decide +kernel
theorem dX12_toldRoutine_149 : decode cX12_toldRoutine 149 = .ok (.aload_n 0, 1) := by decide +kernel
theorem dX12_toldRoutine_150 : decode cX12_toldRoutine 150 = .ok (.bipush 41, 2) := by decide +kernel
theorem dX12_toldRoutine_152 : decode cX12_toldRoutine 152 = .ok (.invokevirtual 340, 3) := by decide +kernel
theorem dX12_toldRoutine_155 : decode cX12_toldRoutine 155 = .ok (.ifCond .ne 25, 3) := by decide +kernel
theorem dX12_toldRoutine_158 : decode cX12_toldRoutine 158 = .ok (.aload_n 0, 1) := by decide +kernel
theorem dX12_toldRoutine_159 : decode cX12_toldRoutine 159 = .ok (.iload_n 1, 1) := by decide +kernel
theorem dX12_toldRoutine_160 : decode cX12_toldRoutine 160 = .ok (.invokevirtual 397, 3) := by decide +kernel
theorem dX12_toldRoutine_163 : decode cX12_toldRoutine 163 = .ok (.aload_n 0, 1) := by decide +kernel
theorem dX12_toldRoutine_164 : decode cX12_toldRoutine 164 = .ok (.bipush 44, 2) := by decide +kernel
theorem dX12_toldRoutine_166 : decode cX12_toldRoutine 166 = .ok (.invokevirtual 400, 3) := by decide +kernel
theorem dX12_toldRoutine_169 : decode cX12_toldRoutine 169 = .ok (.ifCond .eq 11, 3) := by decide +kernel
theorem dX12_toldRoutine_172 : decode cX12_toldRoutine 172 = .ok (.aload_n 0, 1) := by decide +kernel
theorem dX12_toldRoutine_173 : decode cX12_toldRoutine 173 = .ok (.iload_n 1, 1) := by decide +kernel
theorem dX12_toldRoutine_174 : decode cX12_toldRoutine 174 = .ok (.invokevirtual 397, 3) := by decide +kernel
theorem dX12_toldRoutine_177 : decode cX12_toldRoutine 177 = .ok (.goto (-14), 3) := by decide +kernel
theorem dX12_toldRoutine_180 : decode cX12_toldRoutine 180 = .ok (.aload_n 0, 1) := by decide +kernel
theorem dX12_toldRoutine_181 : decode cX12_toldRoutine 181 = .ok (.bipush 41, 2) := by decide +kernel
theorem dX12_toldRoutine_183 : decode cX12_toldRoutine 183 = .ok (.invokevirtual 394, 3) := by decide +kernel
theorem dX12_toldRoutine_186 : decode cX12_toldRoutine 186 = .ok (.aload_n 0, 1) := by decide +kernel
theorem dX12_toldRoutine_187 : decode cX12_toldRoutine 187 = .ok (.getfield 49, 3) := by decide +kernel
theorem dX12_toldRoutine_190 : decode cX12_toldRoutine 190 = .ok (.iload_n 1, 1) := by decide +kernel
theorem dX12_toldRoutine_191 : decode cX12_toldRoutine 191 = .ok (.aload_n 0, 1) := by decide +kernel
theorem dX12_toldRoutine_192 : decode cX12_toldRoutine 192 = .ok (.getfield 52, 3) := by decide +kernel
theorem dX12_toldRoutine_195 : decode cX12_toldRoutine 195 = .ok (.iload_n 1, 1) := by decide +kernel
theorem dX12_toldRoutine_196 : decode cX12_toldRoutine 196 = .ok (.iaload, 1) := by decide +kernel
theorem dX12_toldRoutine_197 : decode cX12_toldRoutine 197 = .ok (.iastore, 1) := by decide +kernel
theorem dX12_toldRoutine_198 : decode cX12_toldRoutine 198 = .ok (.aload_n 0, 1) := by decide +kernel
theorem dX12_toldRoutine_199 : decode cX12_toldRoutine 199 = .ok (.getfield 337, 3) := by decide +kernel
theorem dX12_toldRoutine_202 : decode cX12_toldRoutine 202 = .ok (.ifCond .le 4, 3) := by decide +kernel
theorem dX12_toldRoutine_205 : decode cX12_toldRoutine 205 = .ok (.return_, 1) := by decide +kernel
theorem dX12_toldRoutine_206 : decode cX12_toldRoutine 206 = .ok (.aload_n 0, 1) := by decide +kernel
theorem dX12_toldRoutine_207 : decode cX12_toldRoutine 207 = .ok (.getfield 61, 3) := by decide +kernel
theorem dX12_toldRoutine_210 : decode cX12_toldRoutine 210 = .ok (.iload_n 1, 1) := by decide +kernel
theorem dX12_toldRoutine_211 : decode cX12_toldRoutine 211 = .ok (.aload_n 0, 1) := by decide +kernel
theorem dX12_toldRoutine_212 : decode cX12_toldRoutine 212 = .ok (.getfield 362, 3) := by decide +kernel
theorem dX12_toldRoutine_215 : decode cX12_toldRoutine 215 = .ok (.iastore, 1) := by decide +kernel
theorem dX12_toldRoutine_216 : decode cX12_toldRoutine 216 = .ok (.aload_n 0, 1) := by decide +kernel
theorem dX12_toldRoutine_217 : decode cX12_toldRoutine 217 = .ok (.iconst (-1), 1) := by decide +kernel
theorem dX12_toldRoutine_218 : decode cX12_toldRoutine 218 = .ok (.putfield 403, 3) := by decide +kernel
theorem dX12_toldRoutine_221 : decode cX12_toldRoutine 221 = .ok (.aload_n 0, 1) := by decide +kernel
theorem dX12_toldRoutine_222 : decode cX12_toldRoutine 222 = .ok (.iconst 0, 1) := by decide +kernel
theorem dX12_toldRoutine_223 : decode cX12_toldRoutine 223 = .ok (.putfield 406, 3) := by decide +kernel
theorem dX12_toldRoutine_226 : decode cX12_toldRoutine 226 = .ok (.aload_n 0, 1) := by decide +kernel
theorem dX12_toldRoutine_227 : decode cX12_toldRoutine 227 = .ok (.iconst (-1), 1) := by decide +kernel
theorem dX12_toldRoutine_228 : decode cX12_toldRoutine 228 = .ok (.putfield 409, 3) := by decide +kernel
theorem dX12_toldRoutine_231 : decode cX12_toldRoutine 231 = .ok (.aload_n 0, 1) := by decide +kernel
theorem dX12_toldRoutine_232 : decode cX12_toldRoutine 232 = .ok (.iconst 0, 1) := by decide +kernel
theorem dX12_toldRoutine_233 : decode cX12_toldRoutine 233 = .ok (.putfield 412, 3) := by decide +kernel
theorem dX12_toldRoutine_236 : decode cX12_toldRoutine 236 = .ok (.aload_n 0, 1) := by decide +kernel
theorem dX12_toldRoutine_237 : decode cX12_toldRoutine 237 = .ok (.iconst 0, 1) := by decide +kernel
theorem dX12_toldRoutine_238 : decode cX12_toldRoutine 238 = .ok (.putfield 415, 3) := by decide +kernel
theorem dX12_toldRoutine_241 : decode cX12_toldRoutine 241 = .ok (.aload_n 0, 1) := by decide +kernel
theorem dX12_toldRoutine_242 : decode cX12_toldRoutine 242 = .ok (.iconst 0, 1) := by decide +kernel
theorem dX12_toldRoutine_243 : decode cX12_toldRoutine 243 = .ok (.putfield 418, 3) := by decide +kernel
theorem dX12_toldRoutine_246 : decode cX12_toldRoutine 246 = .ok (.aload_n 0, 1) := by decide +kernel
theorem dX12_toldRoutine_247 : decode cX12_toldRoutine 247 = .ok (.getfield 97, 3) := by decide +kernel
theorem dX12_toldRoutine_250 : decode cX12_toldRoutine 250 = .ok (.iload_n 1, 1) := by decide +kernel
theorem dX12_toldRoutine_251 : decode cX12_toldRoutine 251 = .ok (.aload_n 0, 1) := by decide +kernel
theorem dX12_toldRoutine_252 : decode cX12_toldRoutine 252 = .ok (.bipush 6, 2) := by decide +kernel
theorem dX12_toldRoutine_254 : decode cX12_toldRoutine 254 = .ok (.iconst 0, 1) := by decide +kernel
theorem dX12_toldRoutine_255 : decode cX12_toldRoutine 255 = .ok (.invokevirtual 421, 3) := by decide +kernel
theorem dX12_toldRoutine_258 : decode cX12_toldRoutine 258 = .ok (.iastore, 1) := by decide +kernel
theorem dX12_toldRoutine_259 : decode cX12_toldRoutine 259 = .ok (.aload_n 0, 1) := by decide +kernel
theorem dX12_toldRoutine_260 : decode cX12_toldRoutine 260 = .ok (.getfield 94, 3) := by decide +kernel
theorem dX12_toldRoutine_263 : decode cX12_toldRoutine 263 = .ok (.iload_n 1, 1) := by decide +kernel
theorem dX12_toldRoutine_264 : decode cX12_toldRoutine 264 = .ok (.aload_n 0, 1) := by decide +kernel
theorem dX12_toldRoutine_265 : decode cX12_toldRoutine 265 = .ok (.iconst 0, 1) := by decide +kernel
theorem dX12_toldRoutine_266 : decode cX12_toldRoutine 266 = .ok (.iconst 0, 1) := by decide +kernel
theorem dX12_toldRoutine_267 : decode cX12_toldRoutine 267 = .ok (.invokevirtual 421, 3) := by decide +kernel
theorem dX12_toldRoutine_270 : decode cX12_toldRoutine 270 = .ok (.iastore, 1) := by decide +kernel
theorem dX12_toldRoutine_271 : decode cX12_toldRoutine 271 = .ok (.aload_n 0, 1) := by decide +kernel
theorem dX12_toldRoutine_272 : decode cX12_toldRoutine 272 = .ok (.aload_n 0, 1) := by decide +kernel
theorem dX12_toldRoutine_273 : decode cX12_toldRoutine 273 = .ok (.getfield 94, 3) := by decide +kernel
theorem dX12_toldRoutine_276 : decode cX12_toldRoutine 276 = .ok (.iload_n 1, 1) := by decide +kernel
theorem dX12_toldRoutine_277 : decode cX12_toldRoutine 277 = .ok (.iaload, 1) := by decide +kernel
theorem dX12_toldRoutine_278 : decode cX12_toldRoutine 278 = .ok (.putfield 425, 3) := by decide +kernel
theorem dX12_toldRoutine_281 : decode cX12_toldRoutine 281 = .ok (.aload_n 0, 1) := by decide +kernel
theorem dX12_toldRoutine_282 : decode cX12_toldRoutine 282 = .ok (.invokevirtual 428, 3) := by decide +kernel
theorem dX12_toldRoutine_285 : decode cX12_toldRoutine 285 = .ok (.aload_n 0, 1) := by decide +kernel
theorem dX12_toldRoutine_286 : decode cX12_toldRoutine 286 = .ok (.iconst 0, 1) := by decide +kernel
theorem dX12_toldRoutine_287 : decode cX12_toldRoutine 287 = .ok (.iconst 0, 1) := by decide +kernel
theorem dX12_toldRoutine_288 : decode cX12_toldRoutine 288 = .ok (.iconst 0, 1) := by decide +kernel
theorem dX12_toldRoutine_289 : decode cX12_toldRoutine 289 = .ok (.invokevirtual 431, 3) := by decide +kernel
theorem dX12_toldRoutine_292 : decode cX12_toldRoutine 292 = .ok (.istore 4, 2) := by decide +kernel
theorem dX12_toldRoutine_294 : decode cX12_toldRoutine 294 = .ok (.aload_n 0, 1) := by decide +kernel
theorem dX12_toldRoutine_295 : decode cX12_toldRoutine 295 = .ok (.aload_n 0, 1) := by decide +kernel
theorem dX12_toldRoutine_296 : decode cX12_toldRoutine 296 = .ok (.getfield 97, 3) := by decide +kernel
theorem dX12_toldRoutine_299 : decode cX12_toldRoutine 299 = .ok (.iload_n 1, 1) := by decide +kernel
theorem dX12_toldRoutine_300 : decode cX12_toldRoutine 300 = .ok (.iaload, 1) := by decide +kernel
theorem dX12_toldRoutine_301 : decode cX12_toldRoutine 301 = .ok (.invokevirtual 435, 3) := by decide +kernel
theorem dX12_toldRoutine_304 : decode cX12_toldRoutine 304 = .ok (.aload_n 0, 1) := by decide +kernel
theorem dX12_toldRoutine_305 : decode cX12_toldRoutine 305 = .ok (.getfield 337, 3) := by decide +kernel
theorem dX12_toldRoutine_308 : decode cX12_toldRoutine 308 = .ok (.ifCond .ne 23, 3) := by decide +kernel
theorem dX12_toldRoutine_311 : decode cX12_toldRoutine 311 = .ok (.aload_n 0, 1) := by decide +kernel
theorem dX12_toldRoutine_312 : decode cX12_toldRoutine 312 = .ok (.getfield 46, 3) := by decide +kernel
theorem dX12_toldRoutine_315 : decode cX12_toldRoutine 315 = .ok (.iload_n 1, 1) := by decide +kernel
theorem dX12_toldRoutine_316 : decode cX12_toldRoutine 316 = .ok (.lload_n 2, 1) := by decide +kernel
theorem dX12_toldRoutine_317 : decode cX12_toldRoutine 317 = .ok (.lastore, 1) := by decide +kernel
theorem dX12_toldRoutine_318 : decode cX12_toldRoutine 318 = .ok (.aload_n 0, 1) := by decide +kernel
theorem dX12_toldRoutine_319 : decode cX12_toldRoutine 319 = .ok (.getfield 43, 3) := by decide +kernel
theorem dX12_toldRoutine_322 : decode cX12_toldRoutine 322 = .ok (.aload_n 0, 1) := by decide +kernel
theorem dX12_toldRoutine_323 : decode cX12_toldRoutine 323 = .ok (.getfield 359, 3) := by decide +kernel
theorem dX12_toldRoutine_326 : decode cX12_toldRoutine 326 = .ok (.dup2, 1) := by decide +kernel
theorem dX12_toldRoutine_327 : decode cX12_toldRoutine 327 = .ok (.iaload, 1) := by decide +kernel
theorem dX12_toldRoutine_328 : decode cX12_toldRoutine 328 = .ok (.iconst 1, 1) := by decide +kernel
theorem dX12_toldRoutine_329 : decode cX12_toldRoutine 329 = .ok (.iadd, 1) := by decide +kernel
theorem dX12_toldRoutine_330 : decode cX12_toldRoutine 330 = .ok (.iastore, 1) := by decide +kernel
theorem dX12_toldRoutine_331 : decode cX12_toldRoutine 331 = .ok (.return_, 1) := by decide +kernel
def wp_toldRoutine_180 (K : mS → Prop) (x1 : Int32) (x2 : Int64) (S : mS) : Prop := wp_takeSign 41 S (fun (S31 : mS) => inR x1 24 ∧ ∀ z32 : Int32, z32 = S31.2.1 8 (ix x1) → inR x1 24 ∧ ∀ S33 : mS, S33 = sF S31 7 (ix x1) z32 → (((S33.1 4) ≤ 0 → inR x1 24 ∧ ∀ S35 : mS, S35 = sF S33 11 (ix x1) (S33.1 7) → ∀ S36 : mS, S36 = sZ S35 13 (-1) → ∀ S37 : mS, S37 = sZ S36 14 0 → ∀ S38 : mS, S38 = sZ S37 15 (-1) → ∀ S39 : mS, S39 = sZ S38 16 0 → ∀ S40 : mS, S40 = sZ S39 17 0 → ∀ S41 : mS, S41 = sZ S40 18 0 → wp_act 6 0 S41 (fun (S42 : mS) (r42 : Int32) => inR x1 24 ∧ ∀ S43 : mS, S43 = sF S42 23 (ix x1) r42 → wp_act 0 0 S43 (fun (S44 : mS) (r44 : Int32) => inR x1 24 ∧ ∀ S45 : mS, S45 = sF S44 22 (ix x1) r44 → inR x1 24 ∧ ∀ z46 : Int32, z46 = S45.2.1 22 (ix x1) → ∀ S47 : mS, S47 = sZ S45 19 z46 → wq_block S47 (fun (S48 : mS) => wp_emit 0 0 0 S48 (fun (S49 : mS) (r49 : Int32) => inR x1 24 ∧ ∀ z50 : Int32, z50 = S49.2.1 23 (ix x1) → wp_lead z50 S49 (fun (S51 : mS) => ((¬ (S51.1 4) = 0 → K S51) ∧ ((S51.1 4) = 0 → inR x1 24 ∧ ∀ S53 : mS, S53 = sG S51 6 (ix x1) x2 → inR (S53.1 6) 2 ∧ ∀ z54 : Int32, z54 = S53.2.1 5 (ix (S53.1 6)) → ∀ z55 : Int32, z55 = z54 + 1 → inR (S53.1 6) 2 ∧ ∀ S56 : mS, S56 = sF S53 5 (ix (S53.1 6)) z55 → K S56)))))))) ∧ (¬ (S33.1 4) ≤ 0 → K S33)))
def wp_toldRoutine_163 (K : mS → Prop) (k163 : Int32 × Int64 × mS → Prop) (x1 : Int32) (x2 : Int64) (S : mS) : Prop := wp_hasSign 44 S (fun (S28 : mS) (r28 : Int32) => ((r28 = 0 → wp_toldRoutine_180 K x1 x2 S28) ∧ (¬ r28 = 0 → wp_givenCell x1 S28 (fun (S30 : mS) => k163 (x1, x2, S30)))))
def ls_toldRoutine_163 (K : mS → Prop) (k163 : Int32 × Int64 × mS → Prop) (u : Int32 × Int64 × mS) : Prop := wp_toldRoutine_163 K k163 u.1 u.2.1 u.2.2
def wp_toldRoutine_104 (K : mS → Prop) (x1 : Int32) (S : mS) : Prop := inR (S.1 3) 4002 ∧ ∀ z18 : Int64, z18 = S.2.2 3 (ix (S.1 3)) → ∀ z19 : Int32, z19 = (S.1 3) + 1 → ∀ S20 : mS, S20 = sZ S 3 z19 → ∀ S21 : mS, S21 = sZ S20 12 x1 → inR x1 24 ∧ ∀ S22 : mS, S22 = sF S21 8 (ix x1) 0 → inR x1 24 ∧ ∀ S23 : mS, S23 = sF S22 10 (ix x1) 0 → wp_takeSign 40 S23 (fun (S24 : mS) => wp_isSign 41 S24 (fun (S25 : mS) (r25 : Int32) => ((¬ r25 = 0 → wp_toldRoutine_180 K x1 z18 S25) ∧ (r25 = 0 → wp_givenCell x1 S25 (fun (S27 : mS) => (∃ n9, it (ls_toldRoutine_163 K) n9 (x1, z18, S27)))))))
def wp_toldRoutine (S : mS) (K : mS → Prop) : Prop := ∀ z1 : Int32, z1 = 12 * (S.1 6) → inR (S.1 6) 2 ∧ ∀ z2 : Int32, z2 = S.2.1 5 (ix (S.1 6)) → ∀ z3 : Int32, z3 = z1 + z2 → inR (S.1 6) 2 ∧ ∀ z4 : Int32, z4 = S.2.1 5 (ix (S.1 6)) → ((¬ z4 = 12 → ∀ z6 : Int32, z6 = (S.1 3) + 1 → ∀ S7 : mS, S7 = sZ S 3 z6 → wp_isName S7 (fun (S8 : mS) (r8 : Int32) => ((¬ r8 = 0 → ∀ z10 : Int32, z10 = 12 * (S8.1 6) → inR (S8.1 6) 2 ∧ ∀ z11 : Int32, z11 = S8.2.1 5 (ix (S8.1 6)) → inR (S8.1 3) 4002 ∧ ∀ z12 : Int64, z12 = S8.2.2 3 (ix (S8.1 3)) → wp_find_r z10 z11 z12 S8 (fun (S13 : mS) (r13 : Int32) => ((r13 < 0 → wp_toldRoutine_104 K z3 S13) ∧ (¬ r13 < 0 → wp_wrong 3 S13 (fun (S15 : mS) => wp_toldRoutine_104 K z3 S15))))) ∧ (r8 = 0 → wp_wrong 1 S8 (fun (S16 : mS) => wp_toldRoutine_104 K z3 S16))))) ∧ (z4 = 12 → wp_wrong 5 S (fun (S17 : mS) => K S17)))
set_option maxHeartbeats 4000000 in
set_option maxRecDepth 100000 in
theorem ct_toldRoutine (l : Launch) (S : mS) (K : mS → Prop) (h : wp_toldRoutine S K) : mMv l yX12_toldRoutine cX12_toldRoutine 5 none 137 3050 (fun E => []) S K := by
  refine mv_ofv (by decide) rfl (fun _ => Nat.le_of_ble_eq_true rfl) ?_
  intro E p e R s m args below meth c A ls Q hRf hRl hX hC hl hret
  have hx := hX.1.1
  have hb := hX.1.2.1
  have hown := hX.1.2.2.2.1
  have hts := hX.1.2.2.2.2
  have cut180 : ∀ (x1 : Int32) (x2 : Int64) (S : mS) (H : Heap) (locs : List Loc) (ls : Array Slot), wp_toldRoutine_180 K x1 x2 S → mC E A s.heap S H locs → lv_has ls 5 [(0, .ref E.2.1), (1, .int x1), (2, .long x2)] → W p l e R s m args below meth c H locs 0 0 Q (F0 m 180 ls []) := by
    intro x1 x2 S H locs ls h hC hl
    unfold wp_toldRoutine_180 at h
    refine lv_aload_n hx hb dX12_toldRoutine_180 rfl (lv_at hl 0 rfl) ?_
    refine lv_bipush (v := 41) hx hb dX12_toldRoutine_181 (by decide) ?_
    refine mv_callv [.int 41] (rest := []) hX hC (ct_takeSign l S 41 _ h E _) (cw_X12_takeSign hts (by omega) (by omega)) rfl hl.1 (Nat.le_of_ble_eq_true rfl) ⟨Nat.zero_le _, Nat.zero_le _⟩ dX12_toldRoutine_183 (fun S31 H locs hC h => ?_)
    refine lv_aload_n hx hb dX12_toldRoutine_186 rfl (lv_at hl 0 rfl) ?_
    refine mv_get (v := .ref (E.2.2.1 7)) hX hC 15 (Nat.le_of_ble_eq_true rfl) wd_1415 rfl dX12_toldRoutine_187 ?_
    refine lv_iload_n hx hb dX12_toldRoutine_190 rfl (lv_at hl 1 rfl) ?_
    refine lv_aload_n hx hb dX12_toldRoutine_191 rfl (lv_at hl 0 rfl) ?_
    refine mv_get (v := .ref (E.2.2.1 8)) hX hC 16 (Nat.le_of_ble_eq_true rfl) wd_1416 rfl dX12_toldRoutine_192 ?_
    refine lv_iload_n hx hb dX12_toldRoutine_195 rfl (lv_at hl 1 rfl) ?_
    refine mq_ild (n := 24) hX hC 8 rfl rfl dX12_toldRoutine_196 h (fun z32 h => ?_)
    refine mq_ist (n := 24) (v := z32) hX hC 7 rfl rfl mf_7 dX12_toldRoutine_197 h.1 h.2 (fun S33 H locs hC h => ?_)
    refine lv_aload_n hx hb dX12_toldRoutine_198 rfl (lv_at hl 0 rfl) ?_
    refine mv_get (v := .int (S33.1 4)) hX hC 8 (Nat.le_of_ble_eq_true rfl) wd_1408 rfl dX12_toldRoutine_199 ?_
    refine lv_if_le (tgt := 206) hx hb dX12_toldRoutine_202 (by decide) (fun c34 => ?_) (fun c34 => ?_)
    · have h := h.1 c34
      refine lv_aload_n hx hb dX12_toldRoutine_206 rfl (lv_at hl 0 rfl) ?_
      refine mv_get (v := .ref (E.2.2.1 11)) hX hC 19 (Nat.le_of_ble_eq_true rfl) wd_1419 rfl dX12_toldRoutine_207 ?_
      refine lv_iload_n hx hb dX12_toldRoutine_210 rfl (lv_at hl 1 rfl) ?_
      refine lv_aload_n hx hb dX12_toldRoutine_211 rfl (lv_at hl 0 rfl) ?_
      refine mv_get (v := .int (S33.1 7)) hX hC 23 (Nat.le_of_ble_eq_true rfl) wd_1423 rfl dX12_toldRoutine_212 ?_
      refine mq_ist (n := 24) (v := S33.1 7) hX hC 11 rfl rfl mf_11 dX12_toldRoutine_215 h.1 h.2 (fun S35 H locs hC h => ?_)
      refine lv_aload_n hx hb dX12_toldRoutine_216 rfl (lv_at hl 0 rfl) ?_
      refine lv_iconst (v := -1) hx hb dX12_toldRoutine_217 (by decide) ?_
      refine mq_put (v := -1) hX hC 63 13 (Nat.le_of_ble_eq_true rfl) wd_1463 rfl rfl rfl mz_13 dX12_toldRoutine_218 h (fun S36 H locs hC h => ?_)
      refine lv_aload_n hx hb dX12_toldRoutine_221 rfl (lv_at hl 0 rfl) ?_
      refine lv_iconst (v := 0) hx hb dX12_toldRoutine_222 (by decide) ?_
      refine mq_put (v := 0) hX hC 64 14 (Nat.le_of_ble_eq_true rfl) wd_1464 rfl rfl rfl mz_14 dX12_toldRoutine_223 h (fun S37 H locs hC h => ?_)
      refine lv_aload_n hx hb dX12_toldRoutine_226 rfl (lv_at hl 0 rfl) ?_
      refine lv_iconst (v := -1) hx hb dX12_toldRoutine_227 (by decide) ?_
      refine mq_put (v := -1) hX hC 65 15 (Nat.le_of_ble_eq_true rfl) wd_1465 rfl rfl rfl mz_15 dX12_toldRoutine_228 h (fun S38 H locs hC h => ?_)
      refine lv_aload_n hx hb dX12_toldRoutine_231 rfl (lv_at hl 0 rfl) ?_
      refine lv_iconst (v := 0) hx hb dX12_toldRoutine_232 (by decide) ?_
      refine mq_put (v := 0) hX hC 66 16 (Nat.le_of_ble_eq_true rfl) wd_1466 rfl rfl rfl mz_16 dX12_toldRoutine_233 h (fun S39 H locs hC h => ?_)
      refine lv_aload_n hx hb dX12_toldRoutine_236 rfl (lv_at hl 0 rfl) ?_
      refine lv_iconst (v := 0) hx hb dX12_toldRoutine_237 (by decide) ?_
      refine mq_put (v := 0) hX hC 67 17 (Nat.le_of_ble_eq_true rfl) wd_1467 rfl rfl rfl mz_17 dX12_toldRoutine_238 h (fun S40 H locs hC h => ?_)
      refine lv_aload_n hx hb dX12_toldRoutine_241 rfl (lv_at hl 0 rfl) ?_
      refine lv_iconst (v := 0) hx hb dX12_toldRoutine_242 (by decide) ?_
      refine mq_put (v := 0) hX hC 68 18 (Nat.le_of_ble_eq_true rfl) wd_1468 rfl rfl rfl mz_18 dX12_toldRoutine_243 h (fun S41 H locs hC h => ?_)
      refine lv_aload_n hx hb dX12_toldRoutine_246 rfl (lv_at hl 0 rfl) ?_
      refine mv_get (v := .ref (E.2.2.1 23)) hX hC 33 (Nat.le_of_ble_eq_true rfl) wd_1433 rfl dX12_toldRoutine_247 ?_
      refine lv_iload_n hx hb dX12_toldRoutine_250 rfl (lv_at hl 1 rfl) ?_
      refine lv_aload_n hx hb dX12_toldRoutine_251 rfl (lv_at hl 0 rfl) ?_
      refine lv_bipush (v := 6) hx hb dX12_toldRoutine_252 (by decide) ?_
      refine lv_iconst (v := 0) hx hb dX12_toldRoutine_254 (by decide) ?_
      refine mv_calli [.int 6, .int 0] (rest := [.int x1, .ref (E.2.2.1 23)]) hX hC (ct_act l S41 6 0 _ h E _) (cw_X12_act hts (by omega) (by omega)) rfl hl.1 (Nat.le_of_ble_eq_true rfl) ⟨Nat.zero_le _, Nat.zero_le _⟩ dX12_toldRoutine_255 (fun r42 S42 H locs hC h => ?_)
      refine mq_ist (n := 24) (v := r42) hX hC 23 rfl rfl mf_23 dX12_toldRoutine_258 h.1 h.2 (fun S43 H locs hC h => ?_)
      refine lv_aload_n hx hb dX12_toldRoutine_259 rfl (lv_at hl 0 rfl) ?_
      refine mv_get (v := .ref (E.2.2.1 22)) hX hC 32 (Nat.le_of_ble_eq_true rfl) wd_1432 rfl dX12_toldRoutine_260 ?_
      refine lv_iload_n hx hb dX12_toldRoutine_263 rfl (lv_at hl 1 rfl) ?_
      refine lv_aload_n hx hb dX12_toldRoutine_264 rfl (lv_at hl 0 rfl) ?_
      refine lv_iconst (v := 0) hx hb dX12_toldRoutine_265 (by decide) ?_
      refine lv_iconst (v := 0) hx hb dX12_toldRoutine_266 (by decide) ?_
      refine mv_calli [.int 0, .int 0] (rest := [.int x1, .ref (E.2.2.1 22)]) hX hC (ct_act l S43 0 0 _ h E _) (cw_X12_act hts (by omega) (by omega)) rfl hl.1 (Nat.le_of_ble_eq_true rfl) ⟨Nat.zero_le _, Nat.zero_le _⟩ dX12_toldRoutine_267 (fun r44 S44 H locs hC h => ?_)
      refine mq_ist (n := 24) (v := r44) hX hC 22 rfl rfl mf_22 dX12_toldRoutine_270 h.1 h.2 (fun S45 H locs hC h => ?_)
      refine lv_aload_n hx hb dX12_toldRoutine_271 rfl (lv_at hl 0 rfl) ?_
      refine lv_aload_n hx hb dX12_toldRoutine_272 rfl (lv_at hl 0 rfl) ?_
      refine mv_get (v := .ref (E.2.2.1 22)) hX hC 32 (Nat.le_of_ble_eq_true rfl) wd_1432 rfl dX12_toldRoutine_273 ?_
      refine lv_iload_n hx hb dX12_toldRoutine_276 rfl (lv_at hl 1 rfl) ?_
      refine mq_ild (n := 24) hX hC 22 rfl rfl dX12_toldRoutine_277 h (fun z46 h => ?_)
      refine mq_put (v := z46) hX hC 69 19 (Nat.le_of_ble_eq_true rfl) wd_1469 rfl rfl rfl mz_19 dX12_toldRoutine_278 h (fun S47 H locs hC h => ?_)
      refine lv_aload_n hx hb dX12_toldRoutine_281 rfl (lv_at hl 0 rfl) ?_
      refine mv_callv [] (rest := []) hX hC (ct_block l S47 _ h E _) (cw_X12_block hts (by omega) (by omega)) rfl hl.1 (Nat.le_of_ble_eq_true rfl) ⟨Nat.zero_le _, Nat.zero_le _⟩ dX12_toldRoutine_282 (fun S48 H locs hC h => ?_)
      refine lv_aload_n hx hb dX12_toldRoutine_285 rfl (lv_at hl 0 rfl) ?_
      refine lv_iconst (v := 0) hx hb dX12_toldRoutine_286 (by decide) ?_
      refine lv_iconst (v := 0) hx hb dX12_toldRoutine_287 (by decide) ?_
      refine lv_iconst (v := 0) hx hb dX12_toldRoutine_288 (by decide) ?_
      refine mv_calli [.int 0, .int 0, .int 0] (rest := []) hX hC (ct_emit l S48 0 0 0 _ h E _) (cw_X12_emit hts (by omega) (by omega)) rfl hl.1 (Nat.le_of_ble_eq_true rfl) ⟨Nat.zero_le _, Nat.zero_le _⟩ dX12_toldRoutine_289 (fun r49 S49 H locs hC h => ?_)
      refine lv_istore (lv' := [(4, .int r49), (0, .ref E.2.1), (1, .int x1), (2, .long x2)]) hx hb dX12_toldRoutine_292 hl (by decide) rfl (fun ls hl => ?_)
      refine lv_aload_n hx hb dX12_toldRoutine_294 rfl (lv_at hl 1 rfl) ?_
      refine lv_aload_n hx hb dX12_toldRoutine_295 rfl (lv_at hl 1 rfl) ?_
      refine mv_get (v := .ref (E.2.2.1 23)) hX hC 33 (Nat.le_of_ble_eq_true rfl) wd_1433 rfl dX12_toldRoutine_296 ?_
      refine lv_iload_n hx hb dX12_toldRoutine_299 rfl (lv_at hl 2 rfl) ?_
      refine mq_ild (n := 24) hX hC 23 rfl rfl dX12_toldRoutine_300 h (fun z50 h => ?_)
      refine mv_callv [.int z50] (rest := []) hX hC (ct_lead l S49 z50 _ h E _) (cw_X12_lead hts (by omega) (by omega)) rfl hl.1 (Nat.le_of_ble_eq_true rfl) ⟨Nat.zero_le _, Nat.zero_le _⟩ dX12_toldRoutine_301 (fun S51 H locs hC h => ?_)
      refine lv_aload_n hx hb dX12_toldRoutine_304 rfl (lv_at hl 1 rfl) ?_
      refine mv_get (v := .int (S51.1 4)) hX hC 8 (Nat.le_of_ble_eq_true rfl) wd_1408 rfl dX12_toldRoutine_305 ?_
      refine lv_if_ne (tgt := 331) hx hb dX12_toldRoutine_308 (by decide) (fun c52 => ?_) (fun c52 => ?_)
      · have h := h.1 c52
        exact hret _ _ _ _ _ hC h dX12_toldRoutine_331
      · have h := h.2 c52
        refine lv_aload_n hx hb dX12_toldRoutine_311 rfl (lv_at hl 1 rfl) ?_
        refine mv_get (v := .ref (E.2.2.1 6)) hX hC 14 (Nat.le_of_ble_eq_true rfl) wd_1414 rfl dX12_toldRoutine_312 ?_
        refine lv_iload_n hx hb dX12_toldRoutine_315 rfl (lv_at hl 2 rfl) ?_
        refine lv_lload_n hx hb dX12_toldRoutine_316 rfl (lv_at hl 3 rfl) ?_
        refine mq_lst (n := 24) (v := x2) hX hC 6 rfl rfl mf_6 dX12_toldRoutine_317 h.1 h.2 (fun S53 H locs hC h => ?_)
        refine lv_aload_n hx hb dX12_toldRoutine_318 rfl (lv_at hl 1 rfl) ?_
        refine mv_get (v := .ref (E.2.2.1 5)) hX hC 13 (Nat.le_of_ble_eq_true rfl) wd_1413 rfl dX12_toldRoutine_319 ?_
        refine lv_aload_n hx hb dX12_toldRoutine_322 rfl (lv_at hl 1 rfl) ?_
        refine mv_get (v := .int (S53.1 6)) hX hC 12 (Nat.le_of_ble_eq_true rfl) wd_1412 rfl dX12_toldRoutine_323 ?_
        refine lv_dup2_11 hx hb dX12_toldRoutine_326 rfl rfl ?_
        refine mq_ild (n := 2) hX hC 5 rfl rfl dX12_toldRoutine_327 h (fun z54 h => ?_)
        refine lv_iconst (v := 1) hx hb dX12_toldRoutine_328 (by decide) ?_
        refine lq_iadd hx hb dX12_toldRoutine_329 h (fun z55 h => ?_)
        refine mq_ist (n := 2) (v := z55) hX hC 5 rfl rfl mf_5 dX12_toldRoutine_330 h.1 h.2 (fun S56 H locs hC h => ?_)
        exact hret _ _ _ _ _ hC h dX12_toldRoutine_331
    · have h := h.2 c34
      exact hret _ _ _ _ _ hC h dX12_toldRoutine_205
  have cut163 : ∀ (n163 : Nat) (x1 : Int32) (x2 : Int64) (S : mS) (H : Heap) (locs : List Loc) (ls : Array Slot), it (ls_toldRoutine_163 K) n163 (x1, x2, S) → mC E A s.heap S H locs → lv_has ls 5 [(0, .ref E.2.1), (1, .int x1), (2, .long x2)] → W p l e R s m args below meth c H locs 0 0 Q (F0 m 163 ls []) := by
    intro n163
    induction n163 with
    | zero => intro x1 x2 S H locs ls h hC hl; exact h.elim
    | succ n163 ih163 =>
      intro x1 x2 S H locs ls h hC hl
      have h : wp_toldRoutine_163 K (it (ls_toldRoutine_163 K) n163) x1 x2 S := h
      unfold wp_toldRoutine_163 at h
      refine lv_aload_n hx hb dX12_toldRoutine_163 rfl (lv_at hl 0 rfl) ?_
      refine lv_bipush (v := 44) hx hb dX12_toldRoutine_164 (by decide) ?_
      refine mv_calli [.int 44] (rest := []) hX hC (ct_hasSign l S 44 _ h E _) (cw_X12_hasSign hts (by omega) (by omega)) rfl hl.1 (Nat.le_of_ble_eq_true rfl) ⟨Nat.zero_le _, Nat.zero_le _⟩ dX12_toldRoutine_166 (fun r28 S28 H locs hC h => ?_)
      refine lv_if_eq (tgt := 180) hx hb dX12_toldRoutine_169 (by decide) (fun c29 => ?_) (fun c29 => ?_)
      · have h := h.1 c29
        exact cut180 x1 x2 S28 _ _ _ h hC (lv_sub hl [0, 1, 2] rfl)
      · have h := h.2 c29
        refine lv_aload_n hx hb dX12_toldRoutine_172 rfl (lv_at hl 0 rfl) ?_
        refine lv_iload_n hx hb dX12_toldRoutine_173 rfl (lv_at hl 1 rfl) ?_
        refine mv_callv [.int x1] (rest := []) hX hC (ct_givenCell l S28 x1 _ h E _) (cw_X12_givenCell hts (by omega) (by omega)) rfl hl.1 (Nat.le_of_ble_eq_true rfl) ⟨Nat.zero_le _, Nat.zero_le _⟩ dX12_toldRoutine_174 (fun S30 H locs hC h => ?_)
        refine lv_goto (tgt := 163) hx hb dX12_toldRoutine_177 (by decide) ?_
        exact ih163 x1 x2 S30 _ _ _ h hC (lv_sub hl [0, 1, 2] rfl)
  have cut104 : ∀ (x1 : Int32) (S : mS) (H : Heap) (locs : List Loc) (ls : Array Slot), wp_toldRoutine_104 K x1 S → mC E A s.heap S H locs → lv_has ls 5 [(0, .ref E.2.1), (1, .int x1)] → W p l e R s m args below meth c H locs 0 0 Q (F0 m 104 ls []) := by
    intro x1 S H locs ls h hC hl
    unfold wp_toldRoutine_104 at h
    refine lv_aload_n hx hb dX12_toldRoutine_104 rfl (lv_at hl 0 rfl) ?_
    refine mv_get (v := .ref (E.2.2.1 3)) hX hC 6 (Nat.le_of_ble_eq_true rfl) wd_1406 rfl dX12_toldRoutine_105 ?_
    refine lv_aload_n hx hb dX12_toldRoutine_108 rfl (lv_at hl 0 rfl) ?_
    refine mv_get (v := .int (S.1 3)) hX hC 7 (Nat.le_of_ble_eq_true rfl) wd_1407 rfl dX12_toldRoutine_109 ?_
    refine mq_lld (n := 4002) hX hC 3 rfl rfl dX12_toldRoutine_112 h (fun z18 h => ?_)
    refine lv_lstore_n (lv' := [(2, .long z18), (0, .ref E.2.1), (1, .int x1)]) hx hb dX12_toldRoutine_113 rfl hl (by decide) rfl (fun ls hl => ?_)
    refine lv_aload_n hx hb dX12_toldRoutine_114 rfl (lv_at hl 1 rfl) ?_
    refine lv_dup hx hb dX12_toldRoutine_115 rfl ?_
    refine mv_get (v := .int (S.1 3)) hX hC 7 (Nat.le_of_ble_eq_true rfl) wd_1407 rfl dX12_toldRoutine_116 ?_
    refine lv_iconst (v := 1) hx hb dX12_toldRoutine_119 (by decide) ?_
    refine lq_iadd hx hb dX12_toldRoutine_120 h (fun z19 h => ?_)
    refine mq_put (v := z19) hX hC 7 3 (Nat.le_of_ble_eq_true rfl) wd_1407 rfl rfl rfl mz_3 dX12_toldRoutine_121 h (fun S20 H locs hC h => ?_)
    refine lv_aload_n hx hb dX12_toldRoutine_124 rfl (lv_at hl 1 rfl) ?_
    refine lv_iload_n hx hb dX12_toldRoutine_125 rfl (lv_at hl 2 rfl) ?_
    refine mq_put (v := x1) hX hC 62 12 (Nat.le_of_ble_eq_true rfl) wd_1462 rfl rfl rfl mz_12 dX12_toldRoutine_126 h (fun S21 H locs hC h => ?_)
    refine lv_aload_n hx hb dX12_toldRoutine_129 rfl (lv_at hl 1 rfl) ?_
    refine mv_get (v := .ref (E.2.2.1 8)) hX hC 16 (Nat.le_of_ble_eq_true rfl) wd_1416 rfl dX12_toldRoutine_130 ?_
    refine lv_iload_n hx hb dX12_toldRoutine_133 rfl (lv_at hl 2 rfl) ?_
    refine lv_iconst (v := 0) hx hb dX12_toldRoutine_134 (by decide) ?_
    refine mq_ist (n := 24) (v := 0) hX hC 8 rfl rfl mf_8 dX12_toldRoutine_135 h.1 h.2 (fun S22 H locs hC h => ?_)
    refine lv_aload_n hx hb dX12_toldRoutine_136 rfl (lv_at hl 1 rfl) ?_
    refine mv_get (v := .ref (E.2.2.1 10)) hX hC 18 (Nat.le_of_ble_eq_true rfl) wd_1418 rfl dX12_toldRoutine_137 ?_
    refine lv_iload_n hx hb dX12_toldRoutine_140 rfl (lv_at hl 2 rfl) ?_
    refine lv_iconst (v := 0) hx hb dX12_toldRoutine_141 (by decide) ?_
    refine mq_ist (n := 24) (v := 0) hX hC 10 rfl rfl mf_10 dX12_toldRoutine_142 h.1 h.2 (fun S23 H locs hC h => ?_)
    refine lv_aload_n hx hb dX12_toldRoutine_143 rfl (lv_at hl 1 rfl) ?_
    refine lv_bipush (v := 40) hx hb dX12_toldRoutine_144 (by decide) ?_
    refine mv_callv [.int 40] (rest := []) hX hC (ct_takeSign l S23 40 _ h E _) (cw_X12_takeSign hts (by omega) (by omega)) rfl hl.1 (Nat.le_of_ble_eq_true rfl) ⟨Nat.zero_le _, Nat.zero_le _⟩ dX12_toldRoutine_146 (fun S24 H locs hC h => ?_)
    refine lv_aload_n hx hb dX12_toldRoutine_149 rfl (lv_at hl 1 rfl) ?_
    refine lv_bipush (v := 41) hx hb dX12_toldRoutine_150 (by decide) ?_
    refine mv_calli [.int 41] (rest := []) hX hC (ct_isSign l S24 41 _ h E _) (cw_X12_isSign hts (by omega) (by omega)) rfl hl.1 (Nat.le_of_ble_eq_true rfl) ⟨Nat.zero_le _, Nat.zero_le _⟩ dX12_toldRoutine_152 (fun r25 S25 H locs hC h => ?_)
    refine lv_if_ne (tgt := 180) hx hb dX12_toldRoutine_155 (by decide) (fun c26 => ?_) (fun c26 => ?_)
    · have h := h.1 c26
      exact cut180 x1 z18 S25 _ _ _ h hC (lv_sub hl [1, 2, 0] rfl)
    · have h := h.2 c26
      refine lv_aload_n hx hb dX12_toldRoutine_158 rfl (lv_at hl 1 rfl) ?_
      refine lv_iload_n hx hb dX12_toldRoutine_159 rfl (lv_at hl 2 rfl) ?_
      refine mv_callv [.int x1] (rest := []) hX hC (ct_givenCell l S25 x1 _ h E _) (cw_X12_givenCell hts (by omega) (by omega)) rfl hl.1 (Nat.le_of_ble_eq_true rfl) ⟨Nat.zero_le _, Nat.zero_le _⟩ dX12_toldRoutine_160 (fun S27 H locs hC h => ?_)
      obtain ⟨n9, h⟩ := h
      exact cut163 n9 x1 z18 S27 _ _ _ h hC (lv_sub hl [1, 2, 0] rfl)
  have hl : lv_has ls 5 [(0, .ref E.2.1)] := hl
  unfold wp_toldRoutine at h
  refine lv_bipush (v := 12) hx hb dX12_toldRoutine_0 (by decide) ?_
  refine lv_aload_n hx hb dX12_toldRoutine_2 rfl (lv_at hl 0 rfl) ?_
  refine mv_get (v := .int (S.1 6)) hX hC 12 (Nat.le_of_ble_eq_true rfl) wd_1412 rfl dX12_toldRoutine_3 ?_
  refine lq_imul hx hb dX12_toldRoutine_6 h (fun z1 h => ?_)
  refine lv_aload_n hx hb dX12_toldRoutine_7 rfl (lv_at hl 0 rfl) ?_
  refine mv_get (v := .ref (E.2.2.1 5)) hX hC 13 (Nat.le_of_ble_eq_true rfl) wd_1413 rfl dX12_toldRoutine_8 ?_
  refine lv_aload_n hx hb dX12_toldRoutine_11 rfl (lv_at hl 0 rfl) ?_
  refine mv_get (v := .int (S.1 6)) hX hC 12 (Nat.le_of_ble_eq_true rfl) wd_1412 rfl dX12_toldRoutine_12 ?_
  refine mq_ild (n := 2) hX hC 5 rfl rfl dX12_toldRoutine_15 h (fun z2 h => ?_)
  refine lq_iadd hx hb dX12_toldRoutine_16 h (fun z3 h => ?_)
  refine lv_istore_n (lv' := [(1, .int z3), (0, .ref E.2.1)]) hx hb dX12_toldRoutine_17 rfl hl (by decide) rfl (fun ls hl => ?_)
  refine lv_aload_n hx hb dX12_toldRoutine_18 rfl (lv_at hl 1 rfl) ?_
  refine mv_get (v := .ref (E.2.2.1 5)) hX hC 13 (Nat.le_of_ble_eq_true rfl) wd_1413 rfl dX12_toldRoutine_19 ?_
  refine lv_aload_n hx hb dX12_toldRoutine_22 rfl (lv_at hl 1 rfl) ?_
  refine mv_get (v := .int (S.1 6)) hX hC 12 (Nat.le_of_ble_eq_true rfl) wd_1412 rfl dX12_toldRoutine_23 ?_
  refine mq_ild (n := 2) hX hC 5 rfl rfl dX12_toldRoutine_26 h (fun z4 h => ?_)
  refine lv_bipush (v := 12) hx hb dX12_toldRoutine_27 (by decide) ?_
  refine lv_icmp_ne (tgt := 38) hx hb dX12_toldRoutine_29 (by decide) (fun c5 => ?_) (fun c5 => ?_)
  · have h := h.1 c5
    refine lv_aload_n hx hb dX12_toldRoutine_38 rfl (lv_at hl 1 rfl) ?_
    refine lv_dup hx hb dX12_toldRoutine_39 rfl ?_
    refine mv_get (v := .int (S.1 3)) hX hC 7 (Nat.le_of_ble_eq_true rfl) wd_1407 rfl dX12_toldRoutine_40 ?_
    refine lv_iconst (v := 1) hx hb dX12_toldRoutine_43 (by decide) ?_
    refine lq_iadd hx hb dX12_toldRoutine_44 h (fun z6 h => ?_)
    refine mq_put (v := z6) hX hC 7 3 (Nat.le_of_ble_eq_true rfl) wd_1407 rfl rfl rfl mz_3 dX12_toldRoutine_45 h (fun S7 H locs hC h => ?_)
    refine lv_aload_n hx hb dX12_toldRoutine_48 rfl (lv_at hl 1 rfl) ?_
    refine mv_calli [] (rest := []) hX hC (ct_isName l S7 _ h E _) (cw_X12_isName hts (by omega) (by omega)) rfl hl.1 (Nat.le_of_ble_eq_true rfl) ⟨Nat.zero_le _, Nat.zero_le _⟩ dX12_toldRoutine_49 (fun r8 S8 H locs hC h => ?_)
    refine lv_if_ne (tgt := 63) hx hb dX12_toldRoutine_52 (by decide) (fun c9 => ?_) (fun c9 => ?_)
    · have h := h.1 c9
      refine lv_aload_n hx hb dX12_toldRoutine_63 rfl (lv_at hl 1 rfl) ?_
      refine lv_aload_n hx hb dX12_toldRoutine_64 rfl (lv_at hl 1 rfl) ?_
      refine mv_get (v := .ref (E.2.2.1 6)) hX hC 14 (Nat.le_of_ble_eq_true rfl) wd_1414 rfl dX12_toldRoutine_65 ?_
      refine lv_bipush (v := 12) hx hb dX12_toldRoutine_68 (by decide) ?_
      refine lv_aload_n hx hb dX12_toldRoutine_70 rfl (lv_at hl 1 rfl) ?_
      refine mv_get (v := .int (S8.1 6)) hX hC 12 (Nat.le_of_ble_eq_true rfl) wd_1412 rfl dX12_toldRoutine_71 ?_
      refine lq_imul hx hb dX12_toldRoutine_74 h (fun z10 h => ?_)
      refine lv_aload_n hx hb dX12_toldRoutine_75 rfl (lv_at hl 1 rfl) ?_
      refine mv_get (v := .ref (E.2.2.1 5)) hX hC 13 (Nat.le_of_ble_eq_true rfl) wd_1413 rfl dX12_toldRoutine_76 ?_
      refine lv_aload_n hx hb dX12_toldRoutine_79 rfl (lv_at hl 1 rfl) ?_
      refine mv_get (v := .int (S8.1 6)) hX hC 12 (Nat.le_of_ble_eq_true rfl) wd_1412 rfl dX12_toldRoutine_80 ?_
      refine mq_ild (n := 2) hX hC 5 rfl rfl dX12_toldRoutine_83 h (fun z11 h => ?_)
      refine lv_aload_n hx hb dX12_toldRoutine_84 rfl (lv_at hl 1 rfl) ?_
      refine mv_get (v := .ref (E.2.2.1 3)) hX hC 6 (Nat.le_of_ble_eq_true rfl) wd_1406 rfl dX12_toldRoutine_85 ?_
      refine lv_aload_n hx hb dX12_toldRoutine_88 rfl (lv_at hl 1 rfl) ?_
      refine mv_get (v := .int (S8.1 3)) hX hC 7 (Nat.le_of_ble_eq_true rfl) wd_1407 rfl dX12_toldRoutine_89 ?_
      refine mq_lld (n := 4002) hX hC 3 rfl rfl dX12_toldRoutine_92 h (fun z12 h => ?_)
      refine mv_calli [.ref (E.2.2.1 6), .int z10, .int z11, .long z12] (rest := []) hX hC (ct_find_r l S8 z10 z11 z12 _ h E _) (cw_X12_find hts (by omega) (by omega)) rfl hl.1 (Nat.le_of_ble_eq_true rfl) ⟨Nat.zero_le _, Nat.zero_le _⟩ dX12_toldRoutine_93 (fun r13 S13 H locs hC h => ?_)
      refine lv_if_lt (tgt := 104) hx hb dX12_toldRoutine_96 (by decide) (fun c14 => ?_) (fun c14 => ?_)
      · have h := h.1 c14
        exact cut104 z3 S13 _ _ _ h hC (lv_sub hl [1, 0] rfl)
      · have h := h.2 c14
        refine lv_aload_n hx hb dX12_toldRoutine_99 rfl (lv_at hl 1 rfl) ?_
        refine lv_iconst (v := 3) hx hb dX12_toldRoutine_100 (by decide) ?_
        refine mv_callv [.int 3] (rest := []) hX hC (ct_wrong l S13 3 _ h E _) (cw_X12_wrong hts (by omega) (by omega)) rfl hl.1 (Nat.le_of_ble_eq_true rfl) ⟨Nat.zero_le _, Nat.zero_le _⟩ dX12_toldRoutine_101 (fun S15 H locs hC h => ?_)
        exact cut104 z3 S15 _ _ _ h hC (lv_sub hl [1, 0] rfl)
    · have h := h.2 c9
      refine lv_aload_n hx hb dX12_toldRoutine_55 rfl (lv_at hl 1 rfl) ?_
      refine lv_iconst (v := 1) hx hb dX12_toldRoutine_56 (by decide) ?_
      refine mv_callv [.int 1] (rest := []) hX hC (ct_wrong l S8 1 _ h E _) (cw_X12_wrong hts (by omega) (by omega)) rfl hl.1 (Nat.le_of_ble_eq_true rfl) ⟨Nat.zero_le _, Nat.zero_le _⟩ dX12_toldRoutine_57 (fun S16 H locs hC h => ?_)
      refine lv_goto (tgt := 104) hx hb dX12_toldRoutine_60 (by decide) ?_
      exact cut104 z3 S16 _ _ _ h hC (lv_sub hl [1, 0] rfl)
  · have h := h.2 c5
    refine lv_aload_n hx hb dX12_toldRoutine_32 rfl (lv_at hl 1 rfl) ?_
    refine lv_iconst (v := 5) hx hb dX12_toldRoutine_33 (by decide) ?_
    refine mv_callv [.int 5] (rest := []) hX hC (ct_wrong l S 5 _ h E _) (cw_X12_wrong hts (by omega) (by omega)) rfl hl.1 (Nat.le_of_ble_eq_true rfl) ⟨Nat.zero_le _, Nat.zero_le _⟩ dX12_toldRoutine_34 (fun S17 H locs hC h => ?_)
    exact hret _ _ _ _ _ hC h dX12_toldRoutine_37
def wp_program_249 (K : mS → Int32 → Prop) (S : mS) : Prop := ((¬ (S.1 4) = 0 → K S (S.1 4)) ∧ ((S.1 4) = 0 → ∀ S43 : mS, S43 = sZ S 5 (S.1 6) → wp_forget S43 (fun (S44 : mS) => K S44 (S44.1 4))))
def wp_program_243 (K : mS → Int32 → Prop) (k126 : Int32 × mS → Prop) (x1 : Int32) (S : mS) : Prop := ∀ z41 : Int32, z41 = x1 + 1 → k126 (z41, S)
def wp_program_126 (K : mS → Int32 → Prop) (k126 : Int32 × mS → Prop) (x1 : Int32) (S : mS) : Prop := (((S.1 11) ≤ x1 → wp_program_249 K S) ∧ (¬ (S.1 11) ≤ x1 → ((¬ (S.1 4) = 0 → wp_program_249 K S) ∧ ((S.1 4) = 0 → ∀ z24 : Int32, z24 = 12 * (S.1 6) → inR (S.1 6) 2 ∧ ∀ z25 : Int32, z25 = S.2.1 5 (ix (S.1 6)) → inR x1 1000 ∧ ∀ z26 : Int32, z26 = S.2.1 46 (ix x1) → inR z26 4002 ∧ ∀ z27 : Int64, z27 = S.2.2 3 (ix z26) → wp_find_r z24 z25 z27 S (fun (S28 : mS) (r28 : Int32) => inR x1 1000 ∧ ∀ z29 : Int32, z29 = S28.2.1 46 (ix x1) → ∀ S30 : mS, S30 = sZ S28 3 z29 → ((0 ≤ r28 → ∀ z32 : Int32, z32 = 12 * (S30.1 6) → ∀ z33 : Int32, z33 = z32 + r28 → inR z33 24 ∧ ∀ z34 : Int32, z34 = S30.2.1 7 (ix z33) → inR x1 1000 ∧ ∀ z35 : Int32, z35 = S30.2.1 47 (ix x1) → ((z34 = z35 → inR x1 1000 ∧ ∀ z37 : Int32, z37 = S30.2.1 48 (ix x1) → inR z37 24000 ∧ ∀ S38 : mS, S38 = sF S30 13 (ix z37) r28 → wp_program_243 K k126 x1 S38) ∧ (¬ z34 = z35 → wp_wrong 6 S30 (fun (S39 : mS) => wp_program_243 K k126 x1 S39)))) ∧ (¬ 0 ≤ r28 → wp_wrong 2 S30 (fun (S40 : mS) => wp_program_243 K k126 x1 S40))))))))
def ls_program_126 (K : mS → Int32 → Prop) (k126 : Int32 × mS → Prop) (u : Int32 × mS) : Prop := wp_program_126 K k126 u.1 u.2
def wp_program_124 (K : mS → Int32 → Prop) (S : mS) : Prop := (∃ n9, it (ls_program_126 K) n9 (0, S))
def wp_program_82 (K : mS → Int32 → Prop) (k82 : mS → Prop) (S : mS) : Prop := ((¬ (S.1 4) = 0 → wp_program_124 K S) ∧ ((S.1 4) = 0 → inR (S.1 3) 4002 ∧ ∀ z16 : Int32, z16 = S.2.1 1 (ix (S.1 3)) → ((z16 = 0 → wp_program_124 K S) ∧ (¬ z16 = 0 → wp_isWord 0 S (fun (S18 : mS) (r18 : Int32) => ((r18 = 0 → wp_wrong 1 S18 (fun (S20 : mS) => k82 S20)) ∧ (¬ r18 = 0 → wp_toldRoutine S18 (fun (S21 : mS) => k82 S21))))))))
def ls_program_82 (K : mS → Int32 → Prop) (k82 : mS → Prop) (u : mS) : Prop := wp_program_82 K k82 u
def wp_program (S : mS) (K : mS → Int32 → Prop) : Prop := ∀ S1 : mS, S1 = sZ S 0 0 → wp_cutAll S1 (fun (S2 : mS) => ∀ z3 : Int32, z3 = 1 - (S2.1 5) → ∀ S4 : mS, S4 = sZ S2 6 z3 → inR (S4.1 6) 2 ∧ ∀ S5 : mS, S5 = sF S4 5 (ix (S4.1 6)) 0 → ∀ z6 : Int32, z6 = 12000 * (S5.1 6) → ∀ S7 : mS, S7 = sZ S5 7 z6 → ∀ z8 : Int32, z8 = 12000 * (S7.1 6) → ∀ S9 : mS, S9 = sZ S7 8 z8 → ∀ z10 : Int32, z10 = 500 * (S9.1 6) → ∀ S11 : mS, S11 = sZ S9 9 z10 → ∀ z12 : Int32, z12 = 500 * (S11.1 6) → ∀ S13 : mS, S13 = sZ S11 10 z12 → ∀ S14 : mS, S14 = sZ S13 11 0 → (∃ n9, it (ls_program_82 K) n9 S14))
theorem cw_X12_toldRoutine {R : Room} {s : State} {args : Array Value} {fr lo : Nat} (hts : ∀ w ∈ tb, w.before args s = true) (h1 : fr + 1 ≤ R.frames) (h2 : 8 + (5 + 11) + lo ≤ R.locals) : CallW R s args RX12 RX12 377 yX12_toldRoutine cX12_toldRoutine 5 none (.code yX12_toldRoutine cX12_toldRoutine 5 none :: tb) (mRm fr lo) 0 0 0 := cwV 0 hts (gd_V wd_1806 wd_1808 sl_X12_toldRoutine wd_15 wd_1809) rfl rfl rfl (by decide +kernel) ⟨h1, h2⟩
theorem cw_X12_forget {R : Room} {s : State} {args : Array Value} {fr lo : Nat} (hts : ∀ w ∈ tb, w.before args s = true) (h1 : fr + 1 ≤ R.frames) (h2 : 8 + (2 + 11) + lo ≤ R.locals) : CallW R s args RX12 RX12 384 yX12_forget cX12_forget 2 none (.code yX12_forget cX12_forget 2 none :: tb) (mRm fr lo) 0 0 0 := cwV 0 hts (gd_V wd_1954 wd_1956 sl_X12_forget wd_15 wd_1957) rfl rfl rfl (by decide +kernel) ⟨h1, h2⟩
set_option maxHeartbeats 4000000 in
set_option maxRecDepth 100000 in
theorem ct_program (l : Launch) (S : mS) (K : mS → Int32 → Prop) (h : wp_program S K) : mMi l yX12_program cX12_program 3 (some .int) 138 3074 (fun E => []) S K := by
  refine mv_ofi (by decide) rfl (fun _ => Nat.le_of_ble_eq_true rfl) ?_
  intro E p e R s m args below meth c A ls Q hRf hRl hX hC hl hret
  have hx := hX.1.1
  have hb := hX.1.2.1
  have hown := hX.1.2.2.2.1
  have hts := hX.1.2.2.2.2
  have cut249 : ∀ (S : mS) (H : Heap) (locs : List Loc) (ls : Array Slot), wp_program_249 K S → mC E A s.heap S H locs → lv_has ls 3 [(0, .ref E.2.1)] → W p l e R s m args below meth c H locs 0 0 Q (F0 m 249 ls []) := by
    intro S H locs ls h hC hl
    unfold wp_program_249 at h
    refine lv_aload_n hx hb dX12_program_249 rfl (lv_at hl 0 rfl) ?_
    refine mv_get (v := .int (S.1 4)) hX hC 8 (Nat.le_of_ble_eq_true rfl) wd_1408 rfl dX12_program_250 ?_
    refine lv_if_ne (tgt := 268) hx hb dX12_program_253 (by decide) (fun c42 => ?_) (fun c42 => ?_)
    · have h := h.1 c42
      refine lv_aload_n hx hb dX12_program_268 rfl (lv_at hl 0 rfl) ?_
      refine mv_get (v := .int (S.1 4)) hX hC 8 (Nat.le_of_ble_eq_true rfl) wd_1408 rfl dX12_program_269 ?_
      exact hret _ _ _ _ _ _ hC h dX12_program_272
    · have h := h.2 c42
      refine lv_aload_n hx hb dX12_program_256 rfl (lv_at hl 0 rfl) ?_
      refine lv_aload_n hx hb dX12_program_257 rfl (lv_at hl 0 rfl) ?_
      refine mv_get (v := .int (S.1 6)) hX hC 12 (Nat.le_of_ble_eq_true rfl) wd_1412 rfl dX12_program_258 ?_
      refine mq_put (v := S.1 6) hX hC 11 5 (Nat.le_of_ble_eq_true rfl) wd_1411 rfl rfl rfl mz_5 dX12_program_261 h (fun S43 H locs hC h => ?_)
      refine lv_aload_n hx hb dX12_program_264 rfl (lv_at hl 0 rfl) ?_
      refine mv_callv [] (rest := []) hX hC (ct_forget l S43 _ h E _) (cw_X12_forget hts (by omega) (by omega)) rfl hl.1 (Nat.le_of_ble_eq_true rfl) ⟨Nat.zero_le _, Nat.zero_le _⟩ dX12_program_265 (fun S44 H locs hC h => ?_)
      refine lv_aload_n hx hb dX12_program_268 rfl (lv_at hl 0 rfl) ?_
      refine mv_get (v := .int (S44.1 4)) hX hC 8 (Nat.le_of_ble_eq_true rfl) wd_1408 rfl dX12_program_269 ?_
      exact hret _ _ _ _ _ _ hC h dX12_program_272
  have cut126 : ∀ (n126 : Nat) (x1 : Int32) (S : mS) (H : Heap) (locs : List Loc) (ls : Array Slot), it (ls_program_126 K) n126 (x1, S) → mC E A s.heap S H locs → lv_has ls 3 [(0, .ref E.2.1), (1, .int x1)] → W p l e R s m args below meth c H locs 0 0 Q (F0 m 126 ls []) := by
    intro n126
    induction n126 with
    | zero => intro x1 S H locs ls h hC hl; exact h.elim
    | succ n126 ih126 =>
      have cut243 : ∀ (x1 : Int32) (S : mS) (H : Heap) (locs : List Loc) (ls : Array Slot), wp_program_243 K (it (ls_program_126 K) n126) x1 S → mC E A s.heap S H locs → lv_has ls 3 [(0, .ref E.2.1), (1, .int x1)] → W p l e R s m args below meth c H locs 0 0 Q (F0 m 243 ls []) := by
        intro x1 S H locs ls h hC hl
        unfold wp_program_243 at h
        obtain ⟨z41, ez41⟩ : ∃ y : Int32, y = x1 + 1 := ⟨_, rfl⟩
        have h := h z41 ez41
        refine lv_iinc (v := z41) (lv' := [(1, .int z41), (0, .ref E.2.1)]) hx hb dX12_program_243 hl (k := 1) rfl (by rw [ez41]; rfl) (by decide) rfl (fun ls hl => ?_)
        refine lv_goto (tgt := 126) hx hb dX12_program_246 (by decide) ?_
        exact ih126 z41 S _ _ _ h hC (lv_sub hl [1, 0] rfl)
      intro x1 S H locs ls h hC hl
      have h : wp_program_126 K (it (ls_program_126 K) n126) x1 S := h
      unfold wp_program_126 at h
      refine lv_iload_n hx hb dX12_program_126 rfl (lv_at hl 1 rfl) ?_
      refine lv_aload_n hx hb dX12_program_127 rfl (lv_at hl 0 rfl) ?_
      refine mv_get (v := .int (S.1 11)) hX hC 61 (Nat.le_of_ble_eq_true rfl) wd_1461 rfl dX12_program_128 ?_
      refine lv_icmp_ge (tgt := 249) hx hb dX12_program_131 (by decide) (fun c22 => ?_) (fun c22 => ?_)
      · have h := h.1 c22
        exact cut249 S _ _ _ h hC (lv_sub hl [0] rfl)
      · have h := h.2 c22
        refine lv_aload_n hx hb dX12_program_134 rfl (lv_at hl 0 rfl) ?_
        refine mv_get (v := .int (S.1 4)) hX hC 8 (Nat.le_of_ble_eq_true rfl) wd_1408 rfl dX12_program_135 ?_
        refine lv_if_ne (tgt := 249) hx hb dX12_program_138 (by decide) (fun c23 => ?_) (fun c23 => ?_)
        · have h := h.1 c23
          exact cut249 S _ _ _ h hC (lv_sub hl [0] rfl)
        · have h := h.2 c23
          refine lv_aload_n hx hb dX12_program_141 rfl (lv_at hl 0 rfl) ?_
          refine lv_aload_n hx hb dX12_program_142 rfl (lv_at hl 0 rfl) ?_
          refine mv_get (v := .ref (E.2.2.1 6)) hX hC 14 (Nat.le_of_ble_eq_true rfl) wd_1414 rfl dX12_program_143 ?_
          refine lv_bipush (v := 12) hx hb dX12_program_146 (by decide) ?_
          refine lv_aload_n hx hb dX12_program_148 rfl (lv_at hl 0 rfl) ?_
          refine mv_get (v := .int (S.1 6)) hX hC 12 (Nat.le_of_ble_eq_true rfl) wd_1412 rfl dX12_program_149 ?_
          refine lq_imul hx hb dX12_program_152 h (fun z24 h => ?_)
          refine lv_aload_n hx hb dX12_program_153 rfl (lv_at hl 0 rfl) ?_
          refine mv_get (v := .ref (E.2.2.1 5)) hX hC 13 (Nat.le_of_ble_eq_true rfl) wd_1413 rfl dX12_program_154 ?_
          refine lv_aload_n hx hb dX12_program_157 rfl (lv_at hl 0 rfl) ?_
          refine mv_get (v := .int (S.1 6)) hX hC 12 (Nat.le_of_ble_eq_true rfl) wd_1412 rfl dX12_program_158 ?_
          refine mq_ild (n := 2) hX hC 5 rfl rfl dX12_program_161 h (fun z25 h => ?_)
          refine lv_aload_n hx hb dX12_program_162 rfl (lv_at hl 0 rfl) ?_
          refine mv_get (v := .ref (E.2.2.1 3)) hX hC 6 (Nat.le_of_ble_eq_true rfl) wd_1406 rfl dX12_program_163 ?_
          refine lv_aload_n hx hb dX12_program_166 rfl (lv_at hl 0 rfl) ?_
          refine mv_get (v := .ref (E.2.2.1 46)) hX hC 58 (Nat.le_of_ble_eq_true rfl) wd_1458 rfl dX12_program_167 ?_
          refine lv_iload_n hx hb dX12_program_170 rfl (lv_at hl 1 rfl) ?_
          refine mq_ild (n := 1000) hX hC 46 rfl rfl dX12_program_171 h (fun z26 h => ?_)
          refine mq_lld (n := 4002) hX hC 3 rfl rfl dX12_program_172 h (fun z27 h => ?_)
          refine mv_calli [.ref (E.2.2.1 6), .int z24, .int z25, .long z27] (rest := []) hX hC (ct_find_r l S z24 z25 z27 _ h E _) (cw_X12_find hts (by omega) (by omega)) rfl hl.1 (Nat.le_of_ble_eq_true rfl) ⟨Nat.zero_le _, Nat.zero_le _⟩ dX12_program_173 (fun r28 S28 H locs hC h => ?_)
          refine lv_istore_n (lv' := [(2, .int r28), (0, .ref E.2.1), (1, .int x1)]) hx hb dX12_program_176 rfl hl (by decide) rfl (fun ls hl => ?_)
          refine lv_aload_n hx hb dX12_program_177 rfl (lv_at hl 1 rfl) ?_
          refine lv_aload_n hx hb dX12_program_178 rfl (lv_at hl 1 rfl) ?_
          refine mv_get (v := .ref (E.2.2.1 46)) hX hC 58 (Nat.le_of_ble_eq_true rfl) wd_1458 rfl dX12_program_179 ?_
          refine lv_iload_n hx hb dX12_program_182 rfl (lv_at hl 2 rfl) ?_
          refine mq_ild (n := 1000) hX hC 46 rfl rfl dX12_program_183 h (fun z29 h => ?_)
          refine mq_put (v := z29) hX hC 7 3 (Nat.le_of_ble_eq_true rfl) wd_1407 rfl rfl rfl mz_3 dX12_program_184 h (fun S30 H locs hC h => ?_)
          refine lv_iload_n hx hb dX12_program_187 rfl (lv_at hl 0 rfl) ?_
          refine lv_if_ge (tgt := 199) hx hb dX12_program_188 (by decide) (fun c31 => ?_) (fun c31 => ?_)
          · have h := h.1 c31
            refine lv_aload_n hx hb dX12_program_199 rfl (lv_at hl 1 rfl) ?_
            refine mv_get (v := .ref (E.2.2.1 7)) hX hC 15 (Nat.le_of_ble_eq_true rfl) wd_1415 rfl dX12_program_200 ?_
            refine lv_bipush (v := 12) hx hb dX12_program_203 (by decide) ?_
            refine lv_aload_n hx hb dX12_program_205 rfl (lv_at hl 1 rfl) ?_
            refine mv_get (v := .int (S30.1 6)) hX hC 12 (Nat.le_of_ble_eq_true rfl) wd_1412 rfl dX12_program_206 ?_
            refine lq_imul hx hb dX12_program_209 h (fun z32 h => ?_)
            refine lv_iload_n hx hb dX12_program_210 rfl (lv_at hl 0 rfl) ?_
            refine lq_iadd hx hb dX12_program_211 h (fun z33 h => ?_)
            refine mq_ild (n := 24) hX hC 7 rfl rfl dX12_program_212 h (fun z34 h => ?_)
            refine lv_aload_n hx hb dX12_program_213 rfl (lv_at hl 1 rfl) ?_
            refine mv_get (v := .ref (E.2.2.1 47)) hX hC 59 (Nat.le_of_ble_eq_true rfl) wd_1459 rfl dX12_program_214 ?_
            refine lv_iload_n hx hb dX12_program_217 rfl (lv_at hl 2 rfl) ?_
            refine mq_ild (n := 1000) hX hC 47 rfl rfl dX12_program_218 h (fun z35 h => ?_)
            refine lv_icmp_eq (tgt := 231) hx hb dX12_program_219 (by decide) (fun c36 => ?_) (fun c36 => ?_)
            · have h := h.1 c36
              refine lv_aload_n hx hb dX12_program_231 rfl (lv_at hl 1 rfl) ?_
              refine mv_get (v := .ref (E.2.2.1 13)) hX hC 21 (Nat.le_of_ble_eq_true rfl) wd_1421 rfl dX12_program_232 ?_
              refine lv_aload_n hx hb dX12_program_235 rfl (lv_at hl 1 rfl) ?_
              refine mv_get (v := .ref (E.2.2.1 48)) hX hC 60 (Nat.le_of_ble_eq_true rfl) wd_1460 rfl dX12_program_236 ?_
              refine lv_iload_n hx hb dX12_program_239 rfl (lv_at hl 2 rfl) ?_
              refine mq_ild (n := 1000) hX hC 48 rfl rfl dX12_program_240 h (fun z37 h => ?_)
              refine lv_iload_n hx hb dX12_program_241 rfl (lv_at hl 0 rfl) ?_
              refine mq_ist (n := 24000) (v := r28) hX hC 13 rfl rfl mf_13 dX12_program_242 h.1 h.2 (fun S38 H locs hC h => ?_)
              exact cut243 x1 S38 _ _ _ h hC (lv_sub hl [1, 2] rfl)
            · have h := h.2 c36
              refine lv_aload_n hx hb dX12_program_222 rfl (lv_at hl 1 rfl) ?_
              refine lv_bipush (v := 6) hx hb dX12_program_223 (by decide) ?_
              refine mv_callv [.int 6] (rest := []) hX hC (ct_wrong l S30 6 _ h E _) (cw_X12_wrong hts (by omega) (by omega)) rfl hl.1 (Nat.le_of_ble_eq_true rfl) ⟨Nat.zero_le _, Nat.zero_le _⟩ dX12_program_225 (fun S39 H locs hC h => ?_)
              refine lv_goto (tgt := 243) hx hb dX12_program_228 (by decide) ?_
              exact cut243 x1 S39 _ _ _ h hC (lv_sub hl [1, 2] rfl)
          · have h := h.2 c31
            refine lv_aload_n hx hb dX12_program_191 rfl (lv_at hl 1 rfl) ?_
            refine lv_iconst (v := 2) hx hb dX12_program_192 (by decide) ?_
            refine mv_callv [.int 2] (rest := []) hX hC (ct_wrong l S30 2 _ h E _) (cw_X12_wrong hts (by omega) (by omega)) rfl hl.1 (Nat.le_of_ble_eq_true rfl) ⟨Nat.zero_le _, Nat.zero_le _⟩ dX12_program_193 (fun S40 H locs hC h => ?_)
            refine lv_goto (tgt := 243) hx hb dX12_program_196 (by decide) ?_
            exact cut243 x1 S40 _ _ _ h hC (lv_sub hl [1, 2] rfl)
  have cut124 : ∀ (S : mS) (H : Heap) (locs : List Loc) (ls : Array Slot), wp_program_124 K S → mC E A s.heap S H locs → lv_has ls 3 [(0, .ref E.2.1)] → W p l e R s m args below meth c H locs 0 0 Q (F0 m 124 ls []) := by
    intro S H locs ls h hC hl
    unfold wp_program_124 at h
    refine lv_iconst (v := 0) hx hb dX12_program_124 (by decide) ?_
    refine lv_istore_n (lv' := [(1, .int 0), (0, .ref E.2.1)]) hx hb dX12_program_125 rfl hl (by decide) rfl (fun ls hl => ?_)
    obtain ⟨n9, h⟩ := h
    exact cut126 n9 0 S _ _ _ h hC (lv_sub hl [1, 0] rfl)
  have cut82 : ∀ (n82 : Nat) (S : mS) (H : Heap) (locs : List Loc) (ls : Array Slot), it (ls_program_82 K) n82 S → mC E A s.heap S H locs → lv_has ls 3 [(0, .ref E.2.1)] → W p l e R s m args below meth c H locs 0 0 Q (F0 m 82 ls []) := by
    intro n82
    induction n82 with
    | zero => intro S H locs ls h hC hl; exact h.elim
    | succ n82 ih82 =>
      intro S H locs ls h hC hl
      have h : wp_program_82 K (it (ls_program_82 K) n82) S := h
      unfold wp_program_82 at h
      refine lv_aload_n hx hb dX12_program_82 rfl (lv_at hl 0 rfl) ?_
      refine mv_get (v := .int (S.1 4)) hX hC 8 (Nat.le_of_ble_eq_true rfl) wd_1408 rfl dX12_program_83 ?_
      refine lv_if_ne (tgt := 124) hx hb dX12_program_86 (by decide) (fun c15 => ?_) (fun c15 => ?_)
      · have h := h.1 c15
        exact cut124 S _ _ _ h hC (lv_sub hl [0] rfl)
      · have h := h.2 c15
        refine lv_aload_n hx hb dX12_program_89 rfl (lv_at hl 0 rfl) ?_
        refine mv_get (v := .ref (E.2.2.1 1)) hX hC 4 (Nat.le_of_ble_eq_true rfl) wd_1404 rfl dX12_program_90 ?_
        refine lv_aload_n hx hb dX12_program_93 rfl (lv_at hl 0 rfl) ?_
        refine mv_get (v := .int (S.1 3)) hX hC 7 (Nat.le_of_ble_eq_true rfl) wd_1407 rfl dX12_program_94 ?_
        refine mq_ild (n := 4002) hX hC 1 rfl rfl dX12_program_97 h (fun z16 h => ?_)
        refine lv_if_eq (tgt := 124) hx hb dX12_program_98 (by decide) (fun c17 => ?_) (fun c17 => ?_)
        · have h := h.1 c17
          exact cut124 S _ _ _ h hC (lv_sub hl [0] rfl)
        · have h := h.2 c17
          refine lv_aload_n hx hb dX12_program_101 rfl (lv_at hl 0 rfl) ?_
          refine lv_iconst (v := 0) hx hb dX12_program_102 (by decide) ?_
          refine mv_calli [.int 0] (rest := []) hX hC (ct_isWord l S 0 _ h E _) (cw_X12_isWord hts (by omega) (by omega)) rfl hl.1 (Nat.le_of_ble_eq_true rfl) ⟨Nat.zero_le _, Nat.zero_le _⟩ dX12_program_103 (fun r18 S18 H locs hC h => ?_)
          refine lv_if_eq (tgt := 116) hx hb dX12_program_106 (by decide) (fun c19 => ?_) (fun c19 => ?_)
          · have h := h.1 c19
            refine lv_aload_n hx hb dX12_program_116 rfl (lv_at hl 0 rfl) ?_
            refine lv_iconst (v := 1) hx hb dX12_program_117 (by decide) ?_
            refine mv_callv [.int 1] (rest := []) hX hC (ct_wrong l S18 1 _ h E _) (cw_X12_wrong hts (by omega) (by omega)) rfl hl.1 (Nat.le_of_ble_eq_true rfl) ⟨Nat.zero_le _, Nat.zero_le _⟩ dX12_program_118 (fun S20 H locs hC h => ?_)
            refine lv_goto (tgt := 82) hx hb dX12_program_121 (by decide) ?_
            exact ih82 S20 _ _ _ h hC (lv_sub hl [0] rfl)
          · have h := h.2 c19
            refine lv_aload_n hx hb dX12_program_109 rfl (lv_at hl 0 rfl) ?_
            refine mv_callv [] (rest := []) hX hC (ct_toldRoutine l S18 _ h E _) (cw_X12_toldRoutine hts (by omega) (by omega)) rfl hl.1 (Nat.le_of_ble_eq_true rfl) ⟨Nat.zero_le _, Nat.zero_le _⟩ dX12_program_110 (fun S21 H locs hC h => ?_)
            refine lv_goto (tgt := 82) hx hb dX12_program_113 (by decide) ?_
            exact ih82 S21 _ _ _ h hC (lv_sub hl [0] rfl)
  have hl : lv_has ls 3 [(0, .ref E.2.1)] := hl
  unfold wp_program at h
  refine lv_aload_n hx hb dX12_program_0 rfl (lv_at hl 0 rfl) ?_
  refine lv_iconst (v := 0) hx hb dX12_program_1 (by decide) ?_
  refine mq_put (v := 0) hX hC 0 0 (Nat.le_of_ble_eq_true rfl) wd_1400 rfl rfl rfl mz_0 dX12_program_2 h (fun S1 H locs hC h => ?_)
  refine lv_aload_n hx hb dX12_program_5 rfl (lv_at hl 0 rfl) ?_
  refine mv_callv [] (rest := []) hX hC (ct_cutAll l S1 _ h E _) (cw_X12_cutAll hts (by omega) (by omega)) rfl hl.1 (Nat.le_of_ble_eq_true rfl) ⟨Nat.zero_le _, Nat.zero_le _⟩ dX12_program_6 (fun S2 H locs hC h => ?_)
  refine lv_aload_n hx hb dX12_program_9 rfl (lv_at hl 0 rfl) ?_
  refine lv_iconst (v := 1) hx hb dX12_program_10 (by decide) ?_
  refine lv_aload_n hx hb dX12_program_11 rfl (lv_at hl 0 rfl) ?_
  refine mv_get (v := .int (S2.1 5)) hX hC 11 (Nat.le_of_ble_eq_true rfl) wd_1411 rfl dX12_program_12 ?_
  refine lq_isub hx hb dX12_program_15 h (fun z3 h => ?_)
  refine mq_put (v := z3) hX hC 12 6 (Nat.le_of_ble_eq_true rfl) wd_1412 rfl rfl rfl mz_6 dX12_program_16 h (fun S4 H locs hC h => ?_)
  refine lv_aload_n hx hb dX12_program_19 rfl (lv_at hl 0 rfl) ?_
  refine mv_get (v := .ref (E.2.2.1 5)) hX hC 13 (Nat.le_of_ble_eq_true rfl) wd_1413 rfl dX12_program_20 ?_
  refine lv_aload_n hx hb dX12_program_23 rfl (lv_at hl 0 rfl) ?_
  refine mv_get (v := .int (S4.1 6)) hX hC 12 (Nat.le_of_ble_eq_true rfl) wd_1412 rfl dX12_program_24 ?_
  refine lv_iconst (v := 0) hx hb dX12_program_27 (by decide) ?_
  refine mq_ist (n := 2) (v := 0) hX hC 5 rfl rfl mf_5 dX12_program_28 h.1 h.2 (fun S5 H locs hC h => ?_)
  refine lv_aload_n hx hb dX12_program_29 rfl (lv_at hl 0 rfl) ?_
  refine lv_sipush (v := 12000) hx hb dX12_program_30 (by decide) ?_
  refine lv_aload_n hx hb dX12_program_33 rfl (lv_at hl 0 rfl) ?_
  refine mv_get (v := .int (S5.1 6)) hX hC 12 (Nat.le_of_ble_eq_true rfl) wd_1412 rfl dX12_program_34 ?_
  refine lq_imul hx hb dX12_program_37 h (fun z6 h => ?_)
  refine mq_put (v := z6) hX hC 23 7 (Nat.le_of_ble_eq_true rfl) wd_1423 rfl rfl rfl mz_7 dX12_program_38 h (fun S7 H locs hC h => ?_)
  refine lv_aload_n hx hb dX12_program_41 rfl (lv_at hl 0 rfl) ?_
  refine lv_sipush (v := 12000) hx hb dX12_program_42 (by decide) ?_
  refine lv_aload_n hx hb dX12_program_45 rfl (lv_at hl 0 rfl) ?_
  refine mv_get (v := .int (S7.1 6)) hX hC 12 (Nat.le_of_ble_eq_true rfl) wd_1412 rfl dX12_program_46 ?_
  refine lq_imul hx hb dX12_program_49 h (fun z8 h => ?_)
  refine mq_put (v := z8) hX hC 31 8 (Nat.le_of_ble_eq_true rfl) wd_1431 rfl rfl rfl mz_8 dX12_program_50 h (fun S9 H locs hC h => ?_)
  refine lv_aload_n hx hb dX12_program_53 rfl (lv_at hl 0 rfl) ?_
  refine lv_sipush (v := 500) hx hb dX12_program_54 (by decide) ?_
  refine lv_aload_n hx hb dX12_program_57 rfl (lv_at hl 0 rfl) ?_
  refine mv_get (v := .int (S9.1 6)) hX hC 12 (Nat.le_of_ble_eq_true rfl) wd_1412 rfl dX12_program_58 ?_
  refine lq_imul hx hb dX12_program_61 h (fun z10 h => ?_)
  refine mq_put (v := z10) hX hC 35 9 (Nat.le_of_ble_eq_true rfl) wd_1435 rfl rfl rfl mz_9 dX12_program_62 h (fun S11 H locs hC h => ?_)
  refine lv_aload_n hx hb dX12_program_65 rfl (lv_at hl 0 rfl) ?_
  refine lv_sipush (v := 500) hx hb dX12_program_66 (by decide) ?_
  refine lv_aload_n hx hb dX12_program_69 rfl (lv_at hl 0 rfl) ?_
  refine mv_get (v := .int (S11.1 6)) hX hC 12 (Nat.le_of_ble_eq_true rfl) wd_1412 rfl dX12_program_70 ?_
  refine lq_imul hx hb dX12_program_73 h (fun z12 h => ?_)
  refine mq_put (v := z12) hX hC 51 10 (Nat.le_of_ble_eq_true rfl) wd_1451 rfl rfl rfl mz_10 dX12_program_74 h (fun S13 H locs hC h => ?_)
  refine lv_aload_n hx hb dX12_program_77 rfl (lv_at hl 0 rfl) ?_
  refine lv_iconst (v := 0) hx hb dX12_program_78 (by decide) ?_
  refine mq_put (v := 0) hX hC 61 11 (Nat.le_of_ble_eq_true rfl) wd_1461 rfl rfl rfl mz_11 dX12_program_79 h (fun S14 H locs hC h => ?_)
  obtain ⟨n9, h⟩ := h
  exact cut82 n9 S14 _ _ _ h hC (lv_sub hl [0] rfl)
def wp_push (a0 : Int32) (S : mS) (K : mS → Prop) : Prop := inR (S.1 31) 4000 ∧ ∀ S1 : mS, S1 = sF S 88 (ix (S.1 31)) a0 → ∀ z2 : Int32, z2 = (S1.1 31) + 1 → ∀ S3 : mS, S3 = sZ S1 31 z2 → K S3
set_option maxHeartbeats 4000000 in
set_option maxRecDepth 100000 in
theorem ct_push (l : Launch) (S : mS) (a0 : Int32) (K : mS → Prop) (h : wp_push a0 S K) : mMv l yX12_push cX12_push 2 none 0 0 (fun E => [.int a0]) S K := by
  refine mv_ofv (by decide) rfl (fun _ => Nat.le_of_ble_eq_true rfl) ?_
  intro E p e R s m args below meth c A ls Q hRf hRl hX hC hl hret
  have hx := hX.1.1
  have hb := hX.1.2.1
  have hown := hX.1.2.2.2.1
  have hts := hX.1.2.2.2.2
  have hl : lv_has ls 2 [(0, .ref E.2.1), (1, .int a0)] := hl
  unfold wp_push at h
  refine lv_aload_n hx hb dX12_push_0 rfl (lv_at hl 0 rfl) ?_
  refine mv_get (v := .ref (E.2.2.1 88)) hX hC 120 (Nat.le_of_ble_eq_true rfl) wd_1520 rfl dX12_push_1 ?_
  refine lv_aload_n hx hb dX12_push_4 rfl (lv_at hl 0 rfl) ?_
  refine mv_get (v := .int (S.1 31)) hX hC 121 (Nat.le_of_ble_eq_true rfl) wd_1521 rfl dX12_push_5 ?_
  refine lv_iload_n hx hb dX12_push_8 rfl (lv_at hl 1 rfl) ?_
  refine mq_ist (n := 4000) (v := a0) hX hC 88 rfl rfl mf_88 dX12_push_9 h.1 h.2 (fun S1 H locs hC h => ?_)
  refine lv_aload_n hx hb dX12_push_10 rfl (lv_at hl 0 rfl) ?_
  refine lv_dup hx hb dX12_push_11 rfl ?_
  refine mv_get (v := .int (S1.1 31)) hX hC 121 (Nat.le_of_ble_eq_true rfl) wd_1521 rfl dX12_push_12 ?_
  refine lv_iconst (v := 1) hx hb dX12_push_15 (by decide) ?_
  refine lq_iadd hx hb dX12_push_16 h (fun z2 h => ?_)
  refine mq_put (v := z2) hX hC 121 31 (Nat.le_of_ble_eq_true rfl) wd_1521 rfl rfl rfl mz_31 dX12_push_17 h (fun S3 H locs hC h => ?_)
  exact hret _ _ _ _ _ hC h dX12_push_20
def wp_put (a0 : Int32) (a1 : Int32) (S : mS) (K : mS → Int32 → Prop) : Prop := ∀ S1 : mS, S1 = sZ S 0 0 → ((a0 < 0 → K S1 (-1)) ∧ (¬ a0 < 0 → (((S1.1 27) ≤ a0 → K S1 (-1)) ∧ (¬ (S1.1 27) ≤ a0 → ((a0 < 300 → ((¬ a1 = 0 → ((¬ a1 = 1 → K S1 (-1)) ∧ (a1 = 1 → inR a0 300 ∧ ∀ z7 : Int32, z7 = S1.2.1 75 (ix a0) → K S1 z7))) ∧ (a1 = 0 → inR a0 300 ∧ ∀ z8 : Int32, z8 = S1.2.1 74 (ix a0) → K S1 z8))) ∧ (¬ a0 < 300 → K S1 (-1)))))))
set_option maxHeartbeats 4000000 in
set_option maxRecDepth 100000 in
theorem ct_put (l : Launch) (S : mS) (a0 : Int32) (a1 : Int32) (K : mS → Int32 → Prop) (h : wp_put a0 a1 S K) : mMi l yX12_put cX12_put 3 (some .int) 0 0 (fun E => [.int a0, .int a1]) S K := by
  refine mv_ofi (by decide) rfl (fun _ => Nat.le_of_ble_eq_true rfl) ?_
  intro E p e R s m args below meth c A ls Q hRf hRl hX hC hl hret
  have hx := hX.1.1
  have hb := hX.1.2.1
  have hown := hX.1.2.2.2.1
  have hts := hX.1.2.2.2.2
  have hl : lv_has ls 3 [(0, .ref E.2.1), (1, .int a0), (2, .int a1)] := hl
  unfold wp_put at h
  refine lv_aload_n hx hb dX12_put_0 rfl (lv_at hl 0 rfl) ?_
  refine lv_iconst (v := 0) hx hb dX12_put_1 (by decide) ?_
  refine mq_put (v := 0) hX hC 0 0 (Nat.le_of_ble_eq_true rfl) wd_1400 rfl rfl rfl mz_0 dX12_put_2 h (fun S1 H locs hC h => ?_)
  refine lv_iload_n hx hb dX12_put_5 rfl (lv_at hl 1 rfl) ?_
  refine lv_if_lt (tgt := 24) hx hb dX12_put_6 (by decide) (fun c2 => ?_) (fun c2 => ?_)
  · have h := h.1 c2
    refine lv_iconst (v := -1) hx hb dX12_put_24 (by decide) ?_
    exact hret _ _ _ _ _ _ hC h dX12_put_25
  · have h := h.2 c2
    refine lv_iload_n hx hb dX12_put_9 rfl (lv_at hl 1 rfl) ?_
    refine lv_aload_n hx hb dX12_put_10 rfl (lv_at hl 0 rfl) ?_
    refine mv_get (v := .int (S1.1 27)) hX hC 102 (Nat.le_of_ble_eq_true rfl) wd_1502 rfl dX12_put_11 ?_
    refine lv_icmp_ge (tgt := 24) hx hb dX12_put_14 (by decide) (fun c3 => ?_) (fun c3 => ?_)
    · have h := h.1 c3
      refine lv_iconst (v := -1) hx hb dX12_put_24 (by decide) ?_
      exact hret _ _ _ _ _ _ hC h dX12_put_25
    · have h := h.2 c3
      refine lv_iload_n hx hb dX12_put_17 rfl (lv_at hl 1 rfl) ?_
      refine lv_sipush (v := 300) hx hb dX12_put_18 (by decide) ?_
      refine lv_icmp_lt (tgt := 26) hx hb dX12_put_21 (by decide) (fun c4 => ?_) (fun c4 => ?_)
      · have h := h.1 c4
        refine lv_iload_n hx hb dX12_put_26 rfl (lv_at hl 2 rfl) ?_
        refine lv_if_ne (tgt := 39) hx hb dX12_put_27 (by decide) (fun c5 => ?_) (fun c5 => ?_)
        · have h := h.1 c5
          refine lv_iload_n hx hb dX12_put_39 rfl (lv_at hl 2 rfl) ?_
          refine lv_iconst (v := 1) hx hb dX12_put_40 (by decide) ?_
          refine lv_icmp_ne (tgt := 53) hx hb dX12_put_41 (by decide) (fun c6 => ?_) (fun c6 => ?_)
          · have h := h.1 c6
            refine lv_iconst (v := -1) hx hb dX12_put_53 (by decide) ?_
            exact hret _ _ _ _ _ _ hC h dX12_put_54
          · have h := h.2 c6
            refine lv_aload_n hx hb dX12_put_44 rfl (lv_at hl 0 rfl) ?_
            refine mv_get (v := .ref (E.2.2.1 75)) hX hC 104 (Nat.le_of_ble_eq_true rfl) wd_1504 rfl dX12_put_45 ?_
            refine lv_iload_n hx hb dX12_put_48 rfl (lv_at hl 1 rfl) ?_
            refine mq_ild (n := 300) hX hC 75 rfl rfl dX12_put_49 h (fun z7 h => ?_)
            refine lv_goto (tgt := 54) hx hb dX12_put_50 (by decide) ?_
            exact hret _ _ _ _ _ _ hC h dX12_put_54
        · have h := h.2 c5
          refine lv_aload_n hx hb dX12_put_30 rfl (lv_at hl 0 rfl) ?_
          refine mv_get (v := .ref (E.2.2.1 74)) hX hC 103 (Nat.le_of_ble_eq_true rfl) wd_1503 rfl dX12_put_31 ?_
          refine lv_iload_n hx hb dX12_put_34 rfl (lv_at hl 1 rfl) ?_
          refine mq_ild (n := 300) hX hC 74 rfl rfl dX12_put_35 h (fun z8 h => ?_)
          refine lv_goto (tgt := 54) hx hb dX12_put_36 (by decide) ?_
          exact hret _ _ _ _ _ _ hC h dX12_put_54
      · have h := h.2 c4
        refine lv_iconst (v := -1) hx hb dX12_put_24 (by decide) ?_
        exact hret _ _ _ _ _ _ hC h dX12_put_25
