theorem wd_1403 : (Jvm.Cond.fieldLink "SleepersModel" (321 : Nat) "SleepersModel" "size" "I") ∈ tb := tb_at 1403 (by decide +kernel) (by decide +kernel)
theorem wd_1794 : (Jvm.Cond.methodLink "SleepersModel" (324 : Nat) ({ cls := "SleepersModel", name := "isDigit", desc := "(I)Z" } : Jvm.MethodName)) ∈ tb := tb_at 1794 (by decide +kernel) (by decide +kernel)
theorem wd_1795 : (Jvm.Cond.static ({ cls := "SleepersModel", name := "isDigit", desc := "(I)Z" } : Jvm.MethodName)) ∈ tb := tb_at 1795 (by decide +kernel) (by decide +kernel)
theorem wd_1796 : (Jvm.Cond.code ({ cls := "SleepersModel", name := "isDigit", desc := "(I)Z" } : Jvm.MethodName) prog_14_method_6_code (1 : Nat) (Option.some Jvm.ClassFile.FieldType.boolean)) ∈ tb := tb_at 1796 (by decide +kernel) (by decide +kernel)
theorem wd_1797 : (Jvm.Cond.constantLong "SleepersModel" (327 : Nat) (10 : Int64)) ∈ tb := tb_at 1797 (by decide +kernel) (by decide +kernel)
theorem wd_1798 : (Jvm.Cond.constantLong "SleepersModel" (329 : Nat) (48 : Int64)) ∈ tb := tb_at 1798 (by decide +kernel) (by decide +kernel)
theorem wd_1799 : (Jvm.Cond.methodLink "SleepersModel" (331 : Nat) ({ cls := "SleepersModel", name := "isSignOf", desc := "(I)Z" } : Jvm.MethodName)) ∈ tb := tb_at 1799 (by decide +kernel) (by decide +kernel)
theorem wd_1800 : (Jvm.Cond.static ({ cls := "SleepersModel", name := "isSignOf", desc := "(I)Z" } : Jvm.MethodName)) ∈ tb := tb_at 1800 (by decide +kernel) (by decide +kernel)
theorem wd_1801 : (Jvm.Cond.code ({ cls := "SleepersModel", name := "isSignOf", desc := "(I)Z" } : Jvm.MethodName) prog_14_method_8_code (1 : Nat) (Option.some Jvm.ClassFile.FieldType.boolean)) ∈ tb := tb_at 1801 (by decide +kernel) (by decide +kernel)
theorem dX12_cutAll_0 : decode cX12_cutAll 0 = .ok (.aload_n 0, 1) := by decide +kernel
theorem dX12_cutAll_1 : decode cX12_cutAll 1 = .ok (.aload_n 0, 1) := by decide +kernel
theorem dX12_cutAll_2 : decode cX12_cutAll 2 = .ok (.getfield 11, 3) := by decide +kernel
theorem dX12_cutAll_5 : decode cX12_cutAll 5 = .ok (.putfield 321, 3) := by decide +kernel
theorem dX12_cutAll_8 : decode cX12_cutAll 8 = .ok (.aload_n 0, 1) := by decide +kernel
theorem dX12_cutAll_9 : decode cX12_cutAll 9 = .ok (.iconst 0, 1) := by decide +kernel
theorem dX12_cutAll_10 : decode cX12_cutAll 10 = .ok (.putfield 11, 3) := by decide +kernel
theorem dX12_cutAll_13 : decode cX12_cutAll 13 = .ok (.iconst 0, 1) := by decide +kernel
theorem dX12_cutAll_14 : decode cX12_cutAll 14 = .ok (.istore_n 1, 1) := by decide +kernel
theorem dX12_cutAll_15 : decode cX12_cutAll 15 = .ok (.iconst 0, 1) := by decide +kernel
theorem dX12_cutAll_16 : decode cX12_cutAll 16 = .ok (.istore_n 2, 1) := by decide +kernel
theorem dX12_cutAll_17 : decode cX12_cutAll 17 = .ok (.iload_n 2, 1) := by decide +kernel
theorem dX12_cutAll_18 : decode cX12_cutAll 18 = .ok (.aload_n 0, 1) := by decide +kernel
theorem dX12_cutAll_19 : decode cX12_cutAll 19 = .ok (.getfield 321, 3) := by decide +kernel
theorem dX12_cutAll_22 : decode cX12_cutAll 22 = .ok (.if_icmp .ge 271, 3) := by decide +kernel
theorem dX12_cutAll_25 : decode cX12_cutAll 25 = .ok (.aload_n 0, 1) := by decide +kernel
theorem dX12_cutAll_26 : decode cX12_cutAll 26 = .ok (.getfield 14, 3) := by decide +kernel
theorem dX12_cutAll_29 : decode cX12_cutAll 29 = .ok (.iload_n 2, 1) := by decide +kernel
theorem dX12_cutAll_30 : decode cX12_cutAll 30 = .ok (.iaload, 1) := by decide +kernel
theorem dX12_cutAll_31 : decode cX12_cutAll 31 = .ok (.istore_n 3, 1) := by decide +kernel
theorem dX12_cutAll_32 : decode cX12_cutAll 32 = .ok (.iload_n 3, 1) := by decide +kernel
theorem dX12_cutAll_33 : decode cX12_cutAll 33 = .ok (.bipush 10, 2) := by decide +kernel
theorem dX12_cutAll_35 : decode cX12_cutAll 35 = .ok (.if_icmp .eq 9, 3) := by decide +kernel
theorem dX12_cutAll_38 : decode cX12_cutAll 38 = .ok (.iload_n 3, 1) := by decide +kernel
theorem dX12_cutAll_39 : decode cX12_cutAll 39 = .ok (.bipush 32, 2) := by decide +kernel
theorem dX12_cutAll_41 : decode cX12_cutAll 41 = .ok (.if_icmp .ne 9, 3) := by decide +kernel
theorem dX12_cutAll_44 : decode cX12_cutAll 44 = .ok (.iinc 2 1, 3) := by decide +kernel
theorem dX12_cutAll_47 : decode cX12_cutAll 47 = .ok (.goto (-30), 3) := by decide +kernel
theorem dX12_cutAll_50 : decode cX12_cutAll 50 = .ok (.iload_n 2, 1) := by decide +kernel
theorem dX12_cutAll_51 : decode cX12_cutAll 51 = .ok (.istore 4, 2) := by decide +kernel
theorem dX12_cutAll_53 : decode cX12_cutAll 53 = .ok (.lconst 0, 1) := by decide +kernel
theorem dX12_cutAll_54 : decode cX12_cutAll 54 = .ok (.lstore 5, 2) := by decide +kernel
theorem dX12_cutAll_56 : decode cX12_cutAll 56 = .ok (.aload_n 0, 1) := by decide +kernel
theorem dX12_cutAll_57 : decode cX12_cutAll 57 = .ok (.getfield 27, 3) := by decide +kernel
theorem dX12_cutAll_60 : decode cX12_cutAll 60 = .ok (.iload_n 1, 1) := by decide +kernel
theorem dX12_cutAll_61 : decode cX12_cutAll 61 = .ok (.iload_n 2, 1) := by decide +kernel
theorem dX12_cutAll_62 : decode cX12_cutAll 62 = .ok (.iastore, 1) := by decide +kernel
theorem dX12_cutAll_63 : decode cX12_cutAll 63 = .ok (.iload_n 3, 1) := by decide +kernel
theorem dX12_cutAll_64 : decode cX12_cutAll 64 = .ok (.invokestatic 317, 3) := by decide +kernel
theorem dX12_cutAll_67 : decode cX12_cutAll 67 = .ok (.ifCond .eq 97, 3) := by decide +kernel
theorem dX12_cutAll_70 : decode cX12_cutAll 70 = .ok (.iload_n 2, 1) := by decide +kernel
theorem dX12_cutAll_71 : decode cX12_cutAll 71 = .ok (.aload_n 0, 1) := by decide +kernel
theorem dX12_cutAll_72 : decode cX12_cutAll 72 = .ok (.getfield 321, 3) := by decide +kernel
theorem dX12_cutAll_75 : decode cX12_cutAll 75 = .ok (.if_icmp .ge 66, 3) := by decide +kernel
theorem dX12_cutAll_78 : decode cX12_cutAll 78 = .ok (.aload_n 0, 1) := by decide +kernel
theorem dX12_cutAll_79 : decode cX12_cutAll 79 = .ok (.getfield 14, 3) := by decide +kernel
theorem dX12_cutAll_82 : decode cX12_cutAll 82 = .ok (.iload_n 2, 1) := by decide +kernel
theorem dX12_cutAll_83 : decode cX12_cutAll 83 = .ok (.iaload, 1) := by decide +kernel
theorem dX12_cutAll_84 : decode cX12_cutAll 84 = .ok (.invokestatic 317, 3) := by decide +kernel
theorem dX12_cutAll_87 : decode cX12_cutAll 87 = .ok (.ifCond .ne 15, 3) := by decide +kernel
theorem dX12_cutAll_90 : decode cX12_cutAll 90 = .ok (.aload_n 0, 1) := by decide +kernel
theorem dX12_cutAll_91 : decode cX12_cutAll 91 = .ok (.getfield 14, 3) := by decide +kernel
theorem dX12_cutAll_94 : decode cX12_cutAll 94 = .ok (.iload_n 2, 1) := by decide +kernel
theorem dX12_cutAll_95 : decode cX12_cutAll 95 = .ok (.iaload, 1) := by decide +kernel
theorem dX12_cutAll_96 : decode cX12_cutAll 96 = .ok (.invokestatic 324, 3) := by decide +kernel
theorem dX12_cutAll_99 : decode cX12_cutAll 99 = .ok (.ifCond .eq 42, 3) := by decide +kernel
theorem dX12_cutAll_102 : decode cX12_cutAll 102 = .ok (.iload_n 2, 1) := by decide +kernel
theorem dX12_cutAll_103 : decode cX12_cutAll 103 = .ok (.iload 4, 2) := by decide +kernel
theorem dX12_cutAll_105 : decode cX12_cutAll 105 = .ok (.isub, 1) := by decide +kernel
theorem dX12_cutAll_106 : decode cX12_cutAll 106 = .ok (.bipush 12, 2) := by decide +kernel
theorem dX12_cutAll_108 : decode cX12_cutAll 108 = .ok (.if_icmp .ge 23, 3) := by decide +kernel
theorem dX12_cutAll_111 : decode cX12_cutAll 111 = .ok (.ldc2_w 311, 3) := by decide +kernel
theorem dX12_cutAll_114 : decode cX12_cutAll 114 = .ok (.lload 5, 2) := by decide +kernel
theorem dX12_cutAll_116 : decode cX12_cutAll 116 = .ok (.lmul, 1) := by decide +kernel
theorem dX12_cutAll_117 : decode cX12_cutAll 117 = .ok (.aload_n 0, 1) := by decide +kernel
theorem dX12_cutAll_118 : decode cX12_cutAll 118 = .ok (.getfield 14, 3) := by decide +kernel
theorem dX12_cutAll_121 : decode cX12_cutAll 121 = .ok (.iload_n 2, 1) := by decide +kernel
theorem dX12_cutAll_122 : decode cX12_cutAll 122 = .ok (.iaload, 1) := by decide +kernel
theorem dX12_cutAll_123 : decode cX12_cutAll 123 = .ok (.invokestatic 313, 3) := by decide +kernel
theorem dX12_cutAll_126 : decode cX12_cutAll 126 = .ok (.i2l, 1) := by decide +kernel
theorem dX12_cutAll_127 : decode cX12_cutAll 127 = .ok (.ladd, 1) := by decide +kernel
theorem dX12_cutAll_128 : decode cX12_cutAll 128 = .ok (.goto 5, 3) := by decide +kernel
theorem dX12_cutAll_131 : decode cX12_cutAll 131 = .ok (.lload 5, 2) := by decide +kernel
theorem dX12_cutAll_133 : decode cX12_cutAll 133 = .ok (.lstore 5, 2) := by decide +kernel
theorem dX12_cutAll_135 : decode cX12_cutAll 135 = .ok (.iinc 2 1, 3) := by decide +kernel
theorem dX12_cutAll_138 : decode cX12_cutAll 138 = .ok (.goto (-68), 3) := by decide +kernel
theorem dX12_cutAll_141 : decode cX12_cutAll 141 = .ok (.aload_n 0, 1) := by decide +kernel
theorem dX12_cutAll_142 : decode cX12_cutAll 142 = .ok (.getfield 24, 3) := by decide +kernel
theorem dX12_cutAll_145 : decode cX12_cutAll 145 = .ok (.iload_n 1, 1) := by decide +kernel
theorem dX12_cutAll_146 : decode cX12_cutAll 146 = .ok (.iload_n 2, 1) := by decide +kernel
theorem dX12_cutAll_147 : decode cX12_cutAll 147 = .ok (.iload 4, 2) := by decide +kernel
theorem dX12_cutAll_149 : decode cX12_cutAll 149 = .ok (.isub, 1) := by decide +kernel
theorem dX12_cutAll_150 : decode cX12_cutAll 150 = .ok (.bipush 12, 2) := by decide +kernel
theorem dX12_cutAll_152 : decode cX12_cutAll 152 = .ok (.if_icmp .le 7, 3) := by decide +kernel
theorem dX12_cutAll_155 : decode cX12_cutAll 155 = .ok (.iconst 4, 1) := by decide +kernel
theorem dX12_cutAll_156 : decode cX12_cutAll 156 = .ok (.goto 4, 3) := by decide +kernel
theorem dX12_cutAll_159 : decode cX12_cutAll 159 = .ok (.iconst 1, 1) := by decide +kernel
theorem dX12_cutAll_160 : decode cX12_cutAll 160 = .ok (.iastore, 1) := by decide +kernel
theorem dX12_cutAll_161 : decode cX12_cutAll 161 = .ok (.goto 118, 3) := by decide +kernel
theorem dX12_cutAll_164 : decode cX12_cutAll 164 = .ok (.iload_n 3, 1) := by decide +kernel
theorem dX12_cutAll_165 : decode cX12_cutAll 165 = .ok (.invokestatic 324, 3) := by decide +kernel
theorem dX12_cutAll_168 : decode cX12_cutAll 168 = .ok (.ifCond .eq 86, 3) := by decide +kernel
theorem dX12_cutAll_171 : decode cX12_cutAll 171 = .ok (.iload_n 2, 1) := by decide +kernel
theorem dX12_cutAll_172 : decode cX12_cutAll 172 = .ok (.aload_n 0, 1) := by decide +kernel
theorem dX12_cutAll_173 : decode cX12_cutAll 173 = .ok (.getfield 321, 3) := by decide +kernel
theorem dX12_cutAll_176 : decode cX12_cutAll 176 = .ok (.if_icmp .ge 55, 3) := by decide +kernel
theorem dX12_cutAll_179 : decode cX12_cutAll 179 = .ok (.aload_n 0, 1) := by decide +kernel
theorem dX12_cutAll_180 : decode cX12_cutAll 180 = .ok (.getfield 14, 3) := by decide +kernel
theorem dX12_cutAll_183 : decode cX12_cutAll 183 = .ok (.iload_n 2, 1) := by decide +kernel
theorem dX12_cutAll_184 : decode cX12_cutAll 184 = .ok (.iaload, 1) := by decide +kernel
theorem dX12_cutAll_185 : decode cX12_cutAll 185 = .ok (.invokestatic 324, 3) := by decide +kernel
theorem dX12_cutAll_188 : decode cX12_cutAll 188 = .ok (.ifCond .eq 43, 3) := by decide +kernel
theorem dX12_cutAll_191 : decode cX12_cutAll 191 = .ok (.iload_n 2, 1) := by decide +kernel
theorem dX12_cutAll_192 : decode cX12_cutAll 192 = .ok (.iload 4, 2) := by decide +kernel
theorem dX12_cutAll_194 : decode cX12_cutAll 194 = .ok (.isub, 1) := by decide +kernel
theorem dX12_cutAll_195 : decode cX12_cutAll 195 = .ok (.bipush 9, 2) := by decide +kernel
theorem dX12_cutAll_197 : decode cX12_cutAll 197 = .ok (.if_icmp .ge 24, 3) := by decide +kernel
theorem dX12_cutAll_200 : decode cX12_cutAll 200 = .ok (.ldc2_w 327, 3) := by decide +kernel
theorem dX12_cutAll_203 : decode cX12_cutAll 203 = .ok (.lload 5, 2) := by decide +kernel
theorem dX12_cutAll_205 : decode cX12_cutAll 205 = .ok (.lmul, 1) := by decide +kernel
theorem dX12_cutAll_206 : decode cX12_cutAll 206 = .ok (.aload_n 0, 1) := by decide +kernel
theorem dX12_cutAll_207 : decode cX12_cutAll 207 = .ok (.getfield 14, 3) := by decide +kernel
theorem dX12_cutAll_210 : decode cX12_cutAll 210 = .ok (.iload_n 2, 1) := by decide +kernel
theorem dX12_cutAll_211 : decode cX12_cutAll 211 = .ok (.iaload, 1) := by decide +kernel
theorem dX12_cutAll_212 : decode cX12_cutAll 212 = .ok (.i2l, 1) := by decide +kernel
theorem dX12_cutAll_213 : decode cX12_cutAll 213 = .ok (.ladd, 1) := by decide +kernel
theorem dX12_cutAll_214 : decode cX12_cutAll 214 = .ok (.ldc2_w 329, 3) := by decide +kernel
theorem dX12_cutAll_217 : decode cX12_cutAll 217 = .ok (.lsub, 1) := by decide +kernel
theorem dX12_cutAll_218 : decode cX12_cutAll 218 = .ok (.goto 5, 3) := by decide +kernel
theorem dX12_cutAll_221 : decode cX12_cutAll 221 = .ok (.lload 5, 2) := by decide +kernel
theorem dX12_cutAll_223 : decode cX12_cutAll 223 = .ok (.lstore 5, 2) := by decide +kernel
theorem dX12_cutAll_225 : decode cX12_cutAll 225 = .ok (.iinc 2 1, 3) := by decide +kernel
theorem dX12_cutAll_228 : decode cX12_cutAll 228 = .ok (.goto (-57), 3) := by decide +kernel
theorem dX12_cutAll_231 : decode cX12_cutAll 231 = .ok (.aload_n 0, 1) := by decide +kernel
theorem dX12_cutAll_232 : decode cX12_cutAll 232 = .ok (.getfield 24, 3) := by decide +kernel
theorem dX12_cutAll_235 : decode cX12_cutAll 235 = .ok (.iload_n 1, 1) := by decide +kernel
theorem dX12_cutAll_236 : decode cX12_cutAll 236 = .ok (.iload_n 2, 1) := by decide +kernel
theorem dX12_cutAll_237 : decode cX12_cutAll 237 = .ok (.iload 4, 2) := by decide +kernel
theorem dX12_cutAll_239 : decode cX12_cutAll 239 = .ok (.isub, 1) := by decide +kernel
theorem dX12_cutAll_240 : decode cX12_cutAll 240 = .ok (.bipush 9, 2) := by decide +kernel
theorem dX12_cutAll_242 : decode cX12_cutAll 242 = .ok (.if_icmp .le 7, 3) := by decide +kernel
theorem dX12_cutAll_245 : decode cX12_cutAll 245 = .ok (.iconst 4, 1) := by decide +kernel
theorem dX12_cutAll_246 : decode cX12_cutAll 246 = .ok (.goto 4, 3) := by decide +kernel
theorem dX12_cutAll_249 : decode cX12_cutAll 249 = .ok (.iconst 2, 1) := by decide +kernel
theorem dX12_cutAll_250 : decode cX12_cutAll 250 = .ok (.iastore, 1) := by decide +kernel
theorem dX12_cutAll_251 : decode cX12_cutAll 251 = .ok (.goto 28, 3) := by decide +kernel
theorem dX12_cutAll_254 : decode cX12_cutAll 254 = .ok (.iload_n 3, 1) := by decide +kernel
theorem dX12_cutAll_255 : decode cX12_cutAll 255 = .ok (.i2l, 1) := by decide +kernel
theorem dX12_cutAll_256 : decode cX12_cutAll 256 = .ok (.lstore 5, 2) := by decide +kernel
theorem dX12_cutAll_258 : decode cX12_cutAll 258 = .ok (.aload_n 0, 1) := by decide +kernel
theorem dX12_cutAll_259 : decode cX12_cutAll 259 = .ok (.getfield 24, 3) := by decide +kernel
theorem dX12_cutAll_262 : decode cX12_cutAll 262 = .ok (.iload_n 1, 1) := by decide +kernel
theorem dX12_cutAll_263 : decode cX12_cutAll 263 = .ok (.iload_n 3, 1) := by decide +kernel
theorem dX12_cutAll_264 : decode cX12_cutAll 264 = .ok (.invokestatic 331, 3) := by decide +kernel
theorem dX12_cutAll_267 : decode cX12_cutAll 267 = .ok (.ifCond .eq 7, 3) := by decide +kernel
theorem dX12_cutAll_270 : decode cX12_cutAll 270 = .ok (.iconst 3, 1) := by decide +kernel
theorem dX12_cutAll_271 : decode cX12_cutAll 271 = .ok (.goto 4, 3) := by decide +kernel
theorem dX12_cutAll_274 : decode cX12_cutAll 274 = .ok (.iconst 4, 1) := by decide +kernel
theorem dX12_cutAll_275 : decode cX12_cutAll 275 = .ok (.iastore, 1) := by decide +kernel
theorem dX12_cutAll_276 : decode cX12_cutAll 276 = .ok (.iinc 2 1, 3) := by decide +kernel
theorem dX12_cutAll_279 : decode cX12_cutAll 279 = .ok (.aload_n 0, 1) := by decide +kernel
theorem dX12_cutAll_280 : decode cX12_cutAll 280 = .ok (.getfield 30, 3) := by decide +kernel
theorem dX12_cutAll_283 : decode cX12_cutAll 283 = .ok (.iload_n 1, 1) := by decide +kernel
theorem dX12_cutAll_284 : decode cX12_cutAll 284 = .ok (.lload 5, 2) := by decide +kernel
theorem dX12_cutAll_286 : decode cX12_cutAll 286 = .ok (.lastore, 1) := by decide +kernel
theorem dX12_cutAll_287 : decode cX12_cutAll 287 = .ok (.iinc 1 1, 3) := by decide +kernel
theorem dX12_cutAll_290 : decode cX12_cutAll 290 = .ok (.goto (-273), 3) := by decide +kernel
theorem dX12_cutAll_293 : decode cX12_cutAll 293 = .ok (.aload_n 0, 1) := by decide +kernel
theorem dX12_cutAll_294 : decode cX12_cutAll 294 = .ok (.getfield 24, 3) := by decide +kernel
theorem dX12_cutAll_297 : decode cX12_cutAll 297 = .ok (.iload_n 1, 1) := by decide +kernel
theorem dX12_cutAll_298 : decode cX12_cutAll 298 = .ok (.iconst 0, 1) := by decide +kernel
theorem dX12_cutAll_299 : decode cX12_cutAll 299 = .ok (.iastore, 1) := by decide +kernel
theorem dX12_cutAll_300 : decode cX12_cutAll 300 = .ok (.aload_n 0, 1) := by decide +kernel
theorem dX12_cutAll_301 : decode cX12_cutAll 301 = .ok (.getfield 27, 3) := by decide +kernel
theorem dX12_cutAll_304 : decode cX12_cutAll 304 = .ok (.iload_n 1, 1) := by decide +kernel
theorem dX12_cutAll_305 : decode cX12_cutAll 305 = .ok (.aload_n 0, 1) := by decide +kernel
theorem dX12_cutAll_306 : decode cX12_cutAll 306 = .ok (.getfield 321, 3) := by decide +kernel
theorem dX12_cutAll_309 : decode cX12_cutAll 309 = .ok (.iastore, 1) := by decide +kernel
theorem dX12_cutAll_310 : decode cX12_cutAll 310 = .ok (.aload_n 0, 1) := by decide +kernel
theorem dX12_cutAll_311 : decode cX12_cutAll 311 = .ok (.iconst 0, 1) := by decide +kernel
theorem dX12_cutAll_312 : decode cX12_cutAll 312 = .ok (.putfield 334, 3) := by decide +kernel
theorem dX12_cutAll_315 : decode cX12_cutAll 315 = .ok (.aload_n 0, 1) := by decide +kernel
theorem dX12_cutAll_316 : decode cX12_cutAll 316 = .ok (.iconst 0, 1) := by decide +kernel
theorem dX12_cutAll_317 : decode cX12_cutAll 317 = .ok (.putfield 337, 3) := by decide +kernel
theorem dX12_cutAll_320 : decode cX12_cutAll 320 = .ok (.return_, 1) := by decide +kernel
theorem dX12_due_0 : decode cX12_due 0 = .ok (.iconst 0, 1) := by decide +kernel
theorem dX12_due_1 : decode cX12_due 1 = .ok (.istore_n 3, 1) := by decide +kernel
theorem dX12_due_2 : decode cX12_due 2 = .ok (.iload_n 3, 1) := by decide +kernel
theorem dX12_due_3 : decode cX12_due 3 = .ok (.aload_n 0, 1) := by decide +kernel
theorem dX12_due_4 : decode cX12_due 4 = .ok (.getfield 563, 3) := by decide +kernel
theorem dX12_due_7 : decode cX12_due 7 = .ok (.if_icmp .ge 47, 3) := by decide +kernel
theorem dX12_due_10 : decode cX12_due 10 = .ok (.aload_n 0, 1) := by decide +kernel
theorem dX12_due_11 : decode cX12_due 11 = .ok (.getfield 274, 3) := by decide +kernel
theorem dX12_due_14 : decode cX12_due 14 = .ok (.aload_n 0, 1) := by decide +kernel
theorem dX12_due_15 : decode cX12_due 15 = .ok (.getfield 295, 3) := by decide +kernel
theorem dX12_due_18 : decode cX12_due 18 = .ok (.iload_n 3, 1) := by decide +kernel
theorem dX12_due_19 : decode cX12_due 19 = .ok (.iaload, 1) := by decide +kernel
theorem dX12_due_20 : decode cX12_due 20 = .ok (.iaload, 1) := by decide +kernel
theorem dX12_due_21 : decode cX12_due 21 = .ok (.iconst 4, 1) := by decide +kernel
theorem dX12_due_22 : decode cX12_due 22 = .ok (.if_icmp .ne 26, 3) := by decide +kernel
theorem dX12_due_25 : decode cX12_due 25 = .ok (.aload_n 0, 1) := by decide +kernel
theorem dX12_due_26 : decode cX12_due 26 = .ok (.getfield 292, 3) := by decide +kernel
theorem dX12_due_29 : decode cX12_due 29 = .ok (.aload_n 0, 1) := by decide +kernel
theorem dX12_due_30 : decode cX12_due 30 = .ok (.getfield 295, 3) := by decide +kernel
theorem dX12_due_33 : decode cX12_due 33 = .ok (.iload_n 3, 1) := by decide +kernel
theorem dX12_due_34 : decode cX12_due 34 = .ok (.iaload, 1) := by decide +kernel
theorem dX12_due_35 : decode cX12_due 35 = .ok (.laload, 1) := by decide +kernel
theorem dX12_due_36 : decode cX12_due 36 = .ok (.lload_n 1, 1) := by decide +kernel
theorem dX12_due_37 : decode cX12_due 37 = .ok (.lcmp, 1) := by decide +kernel
theorem dX12_due_38 : decode cX12_due 38 = .ok (.ifCond .gt 10, 3) := by decide +kernel
theorem dX12_due_41 : decode cX12_due 41 = .ok (.aload_n 0, 1) := by decide +kernel
theorem dX12_due_42 : decode cX12_due 42 = .ok (.getfield 295, 3) := by decide +kernel
theorem dX12_due_45 : decode cX12_due 45 = .ok (.iload_n 3, 1) := by decide +kernel
theorem dX12_due_46 : decode cX12_due 46 = .ok (.iaload, 1) := by decide +kernel
theorem dX12_due_47 : decode cX12_due 47 = .ok (.ireturn, 1) := by decide +kernel
theorem dX12_due_48 : decode cX12_due 48 = .ok (.iinc 3 1, 3) := by decide +kernel
theorem dX12_due_51 : decode cX12_due 51 = .ok (.goto (-49), 3) := by decide +kernel
theorem dX12_due_54 : decode cX12_due 54 = .ok (.iconst (-1), 1) := by decide +kernel
theorem dX12_due_55 : decode cX12_due 55 = .ok (.ireturn, 1) := by decide +kernel
theorem dX12_enter_0 : decode cX12_enter 0 = .ok (.bipush 11, 2) := by decide +kernel
theorem dX12_enter_2 : decode cX12_enter 2 = .ok (.aload_n 0, 1) := by decide +kernel
theorem dX12_enter_3 : decode cX12_enter 3 = .ok (.getfield 600, 3) := by decide +kernel
theorem dX12_enter_6 : decode cX12_enter 6 = .ok (.imul, 1) := by decide +kernel
theorem dX12_enter_7 : decode cX12_enter 7 = .ok (.aload_n 0, 1) := by decide +kernel
theorem dX12_enter_8 : decode cX12_enter 8 = .ok (.getfield 237, 3) := by decide +kernel
theorem dX12_enter_11 : decode cX12_enter 11 = .ok (.aload_n 0, 1) := by decide +kernel
theorem dX12_enter_12 : decode cX12_enter 12 = .ok (.getfield 600, 3) := by decide +kernel
theorem dX12_enter_15 : decode cX12_enter 15 = .ok (.iaload, 1) := by decide +kernel
theorem dX12_enter_16 : decode cX12_enter 16 = .ok (.iadd, 1) := by decide +kernel
theorem dX12_enter_17 : decode cX12_enter 17 = .ok (.istore_n 2, 1) := by decide +kernel
theorem dX12_enter_18 : decode cX12_enter 18 = .ok (.aload_n 0, 1) := by decide +kernel
theorem dX12_enter_19 : decode cX12_enter 19 = .ok (.getfield 240, 3) := by decide +kernel
theorem dX12_enter_22 : decode cX12_enter 22 = .ok (.iload_n 2, 1) := by decide +kernel
theorem dX12_enter_23 : decode cX12_enter 23 = .ok (.iload_n 1, 1) := by decide +kernel
theorem dX12_enter_24 : decode cX12_enter 24 = .ok (.iastore, 1) := by decide +kernel
theorem dX12_enter_25 : decode cX12_enter 25 = .ok (.aload_n 0, 1) := by decide +kernel
theorem dX12_enter_26 : decode cX12_enter 26 = .ok (.getfield 243, 3) := by decide +kernel
theorem dX12_enter_29 : decode cX12_enter 29 = .ok (.iload_n 2, 1) := by decide +kernel
theorem dX12_enter_30 : decode cX12_enter 30 = .ok (.iconst 0, 1) := by decide +kernel
theorem dX12_enter_31 : decode cX12_enter 31 = .ok (.iastore, 1) := by decide +kernel
theorem dX12_enter_32 : decode cX12_enter 32 = .ok (.aload_n 0, 1) := by decide +kernel
theorem dX12_enter_33 : decode cX12_enter 33 = .ok (.getfield 246, 3) := by decide +kernel
theorem dX12_enter_36 : decode cX12_enter 36 = .ok (.iload_n 2, 1) := by decide +kernel
theorem dX12_enter_37 : decode cX12_enter 37 = .ok (.iconst 0, 1) := by decide +kernel
theorem dX12_enter_38 : decode cX12_enter 38 = .ok (.iastore, 1) := by decide +kernel
theorem dX12_enter_39 : decode cX12_enter 39 = .ok (.aload_n 0, 1) := by decide +kernel
theorem dX12_enter_40 : decode cX12_enter 40 = .ok (.getfield 237, 3) := by decide +kernel
theorem dX12_enter_43 : decode cX12_enter 43 = .ok (.aload_n 0, 1) := by decide +kernel
theorem dX12_enter_44 : decode cX12_enter 44 = .ok (.getfield 600, 3) := by decide +kernel
theorem dX12_enter_47 : decode cX12_enter 47 = .ok (.dup2, 1) := by decide +kernel
theorem dX12_enter_48 : decode cX12_enter 48 = .ok (.iaload, 1) := by decide +kernel
theorem dX12_enter_49 : decode cX12_enter 49 = .ok (.iconst 1, 1) := by decide +kernel
theorem dX12_enter_50 : decode cX12_enter 50 = .ok (.iadd, 1) := by decide +kernel
theorem dX12_enter_51 : decode cX12_enter 51 = .ok (.iastore, 1) := by decide +kernel
theorem dX12_enter_52 : decode cX12_enter 52 = .ok (.return_, 1) := by decide +kernel
theorem dX12_failing_0 : decode cX12_failing 0 = .ok (.iload_n 1, 1) := by decide +kernel
theorem dX12_failing_1 : decode cX12_failing 1 = .ok (.istore_n 3, 1) := by decide +kernel
theorem dX12_failing_2 : decode cX12_failing 2 = .ok (.iload_n 2, 1) := by decide +kernel
theorem dX12_failing_3 : decode cX12_failing 3 = .ok (.istore 4, 2) := by decide +kernel
theorem dX12_failing_5 : decode cX12_failing 5 = .ok (.iload_n 3, 1) := by decide +kernel
theorem dX12_failing_6 : decode cX12_failing 6 = .ok (.ifCond .lt 64, 3) := by decide +kernel
theorem dX12_failing_9 : decode cX12_failing 9 = .ok (.iload 4, 2) := by decide +kernel
theorem dX12_failing_11 : decode cX12_failing 11 = .ok (.ifCond .ne 19, 3) := by decide +kernel
theorem dX12_failing_14 : decode cX12_failing 14 = .ok (.aload_n 0, 1) := by decide +kernel
theorem dX12_failing_15 : decode cX12_failing 15 = .ok (.getfield 112, 3) := by decide +kernel
theorem dX12_failing_18 : decode cX12_failing 18 = .ok (.iload_n 3, 1) := by decide +kernel
theorem dX12_failing_19 : decode cX12_failing 19 = .ok (.baload, 1) := by decide +kernel
theorem dX12_failing_20 : decode cX12_failing 20 = .ok (.ifCond .eq 10, 3) := by decide +kernel
theorem dX12_failing_23 : decode cX12_failing 23 = .ok (.aload_n 0, 1) := by decide +kernel
theorem dX12_failing_24 : decode cX12_failing 24 = .ok (.getfield 131, 3) := by decide +kernel
theorem dX12_failing_27 : decode cX12_failing 27 = .ok (.iload_n 3, 1) := by decide +kernel
theorem dX12_failing_28 : decode cX12_failing 28 = .ok (.iaload, 1) := by decide +kernel
theorem dX12_failing_29 : decode cX12_failing 29 = .ok (.ireturn, 1) := by decide +kernel
theorem dX12_failing_30 : decode cX12_failing 30 = .ok (.iload 4, 2) := by decide +kernel
theorem dX12_failing_32 : decode cX12_failing 32 = .ok (.iconst 2, 1) := by decide +kernel
theorem dX12_failing_33 : decode cX12_failing 33 = .ok (.if_icmp .ge 19, 3) := by decide +kernel
theorem dX12_failing_36 : decode cX12_failing 36 = .ok (.aload_n 0, 1) := by decide +kernel
theorem dX12_failing_37 : decode cX12_failing 37 = .ok (.getfield 116, 3) := by decide +kernel
theorem dX12_failing_40 : decode cX12_failing 40 = .ok (.iload_n 3, 1) := by decide +kernel
theorem dX12_failing_41 : decode cX12_failing 41 = .ok (.baload, 1) := by decide +kernel
theorem dX12_failing_42 : decode cX12_failing 42 = .ok (.ifCond .eq 10, 3) := by decide +kernel
theorem dX12_failing_45 : decode cX12_failing 45 = .ok (.aload_n 0, 1) := by decide +kernel
theorem dX12_failing_46 : decode cX12_failing 46 = .ok (.getfield 134, 3) := by decide +kernel
theorem dX12_failing_49 : decode cX12_failing 49 = .ok (.iload_n 3, 1) := by decide +kernel
theorem dX12_failing_50 : decode cX12_failing 50 = .ok (.iaload, 1) := by decide +kernel
theorem dX12_failing_51 : decode cX12_failing 51 = .ok (.ireturn, 1) := by decide +kernel
theorem dX12_failing_52 : decode cX12_failing 52 = .ok (.aload_n 0, 1) := by decide +kernel
theorem dX12_failing_53 : decode cX12_failing 53 = .ok (.getfield 106, 3) := by decide +kernel
theorem dX12_failing_56 : decode cX12_failing 56 = .ok (.iload_n 3, 1) := by decide +kernel
theorem dX12_failing_57 : decode cX12_failing 57 = .ok (.iaload, 1) := by decide +kernel
theorem dX12_failing_58 : decode cX12_failing 58 = .ok (.istore 4, 2) := by decide +kernel
theorem dX12_failing_60 : decode cX12_failing 60 = .ok (.aload_n 0, 1) := by decide +kernel
theorem dX12_failing_61 : decode cX12_failing 61 = .ok (.getfield 103, 3) := by decide +kernel
theorem dX12_failing_64 : decode cX12_failing 64 = .ok (.iload_n 3, 1) := by decide +kernel
theorem dX12_failing_65 : decode cX12_failing 65 = .ok (.iaload, 1) := by decide +kernel
theorem dX12_failing_66 : decode cX12_failing 66 = .ok (.istore_n 3, 1) := by decide +kernel
theorem dX12_failing_67 : decode cX12_failing 67 = .ok (.goto (-62), 3) := by decide +kernel
theorem dX12_failing_70 : decode cX12_failing 70 = .ok (.iconst (-1), 1) := by decide +kernel
theorem dX12_failing_71 : decode cX12_failing 71 = .ok (.ireturn, 1) := by decide +kernel
def wp_cutAll_279 (K : mS → Prop) (k17 : Int32 × Int32 × mS → Prop) (x1 : Int32) (x2 : Int32) (x5 : Int64) (S : mS) : Prop := inR x1 4002 ∧ ∀ S37 : mS, S37 = sG S 3 (ix x1) x5 → ∀ z38 : Int32, z38 = x1 + 1 → k17 (z38, x2, S37)
def wp_cutAll_275 (K : mS → Prop) (k17 : Int32 × Int32 × mS → Prop) (x1 : Int32) (x2 : Int32) (x5 : Int64) (y1 : Int32) (y2 : Int32) (S : mS) : Prop := inR y1 4002 ∧ ∀ S54 : mS, S54 = sF S 1 (ix y1) y2 → ∀ z55 : Int32, z55 = x2 + 1 → wp_cutAll_279 K k17 x1 z55 x5 S54
def wp_cutAll_250 (K : mS → Prop) (k17 : Int32 × Int32 × mS → Prop) (x1 : Int32) (x2 : Int32) (x5 : Int64) (y1 : Int32) (y2 : Int32) (S : mS) : Prop := inR y1 4002 ∧ ∀ S53 : mS, S53 = sF S 1 (ix y1) y2 → wp_cutAll_279 K k17 x1 x2 x5 S53
def wp_cutAll_231 (K : mS → Prop) (k17 : Int32 × Int32 × mS → Prop) (x1 : Int32) (x2 : Int32) (x4 : Int32) (x5 : Int64) (S : mS) : Prop := ∀ z51 : Int32, z51 = x2 - x4 → ((z51 ≤ 9 → wp_cutAll_250 K k17 x1 x2 x5 x1 2 S) ∧ (¬ z51 ≤ 9 → wp_cutAll_250 K k17 x1 x2 x5 x1 4 S))
def wp_cutAll_223 (K : mS → Prop) (k17 : Int32 × Int32 × mS → Prop) (k171 : Int32 × Int32 × Int32 × Int64 × mS → Prop) (x1 : Int32) (x2 : Int32) (x4 : Int32) (y0 : Int64) (S : mS) : Prop := ∀ z50 : Int32, z50 = x2 + 1 → k171 (x1, z50, x4, y0, S)
def wp_cutAll_171 (K : mS → Prop) (k17 : Int32 × Int32 × mS → Prop) (k171 : Int32 × Int32 × Int32 × Int64 × mS → Prop) (x1 : Int32) (x2 : Int32) (x4 : Int32) (x5 : Int64) (S : mS) : Prop := (((S.1 2) ≤ x2 → wp_cutAll_231 K k17 x1 x2 x4 x5 S) ∧ (¬ (S.1 2) ≤ x2 → inR x2 4000 ∧ ∀ z40 : Int32, z40 = S.2.1 0 (ix x2) → wp_isDigit z40 S (fun (S41 : mS) (r41 : Int32) => ((r41 = 0 → wp_cutAll_231 K k17 x1 x2 x4 x5 S41) ∧ (¬ r41 = 0 → ∀ z43 : Int32, z43 = x2 - x4 → ((9 ≤ z43 → wp_cutAll_223 K k17 k171 x1 x2 x4 x5 S41) ∧ (¬ 9 ≤ z43 → ∀ z45 : Int64, z45 = 10 * x5 → inR x2 4000 ∧ ∀ z46 : Int32, z46 = S41.2.1 0 (ix x2) → ∀ z47 : Int64, z47 = Int32.toInt64 z46 → ∀ z48 : Int64, z48 = z45 + z47 → ∀ z49 : Int64, z49 = z48 - 48 → wp_cutAll_223 K k17 k171 x1 x2 x4 z49 S41)))))))
def ls_cutAll_171 (K : mS → Prop) (k17 : Int32 × Int32 × mS → Prop) (k171 : Int32 × Int32 × Int32 × Int64 × mS → Prop) (u : Int32 × Int32 × Int32 × Int64 × mS) : Prop := wp_cutAll_171 K k17 k171 u.1 u.2.1 u.2.2.1 u.2.2.2.1 u.2.2.2.2
def wp_cutAll_160 (K : mS → Prop) (k17 : Int32 × Int32 × mS → Prop) (x1 : Int32) (x2 : Int32) (x5 : Int64) (y1 : Int32) (y2 : Int32) (S : mS) : Prop := inR y1 4002 ∧ ∀ S36 : mS, S36 = sF S 1 (ix y1) y2 → wp_cutAll_279 K k17 x1 x2 x5 S36
def wp_cutAll_141 (K : mS → Prop) (k17 : Int32 × Int32 × mS → Prop) (x1 : Int32) (x2 : Int32) (x4 : Int32) (x5 : Int64) (S : mS) : Prop := ∀ z34 : Int32, z34 = x2 - x4 → ((z34 ≤ 12 → wp_cutAll_160 K k17 x1 x2 x5 x1 1 S) ∧ (¬ z34 ≤ 12 → wp_cutAll_160 K k17 x1 x2 x5 x1 4 S))
def wp_cutAll_133 (K : mS → Prop) (k17 : Int32 × Int32 × mS → Prop) (k70 : Int32 × Int32 × Int32 × Int64 × mS → Prop) (x1 : Int32) (x2 : Int32) (x4 : Int32) (y0 : Int64) (S : mS) : Prop := ∀ z33 : Int32, z33 = x2 + 1 → k70 (x1, z33, x4, y0, S)
def wp_cutAll_102 (K : mS → Prop) (k17 : Int32 × Int32 × mS → Prop) (k70 : Int32 × Int32 × Int32 × Int64 × mS → Prop) (x1 : Int32) (x2 : Int32) (x4 : Int32) (x5 : Int64) (S : mS) : Prop := ∀ z26 : Int32, z26 = x2 - x4 → ((12 ≤ z26 → wp_cutAll_133 K k17 k70 x1 x2 x4 x5 S) ∧ (¬ 12 ≤ z26 → ∀ z28 : Int64, z28 = 37 * x5 → inR x2 4000 ∧ ∀ z29 : Int32, z29 = S.2.1 0 (ix x2) → wp_rank z29 S (fun (S30 : mS) (r30 : Int32) => ∀ z31 : Int64, z31 = Int32.toInt64 r30 → ∀ z32 : Int64, z32 = z28 + z31 → wp_cutAll_133 K k17 k70 x1 x2 x4 z32 S30)))
def wp_cutAll_70 (K : mS → Prop) (k17 : Int32 × Int32 × mS → Prop) (k70 : Int32 × Int32 × Int32 × Int64 × mS → Prop) (x1 : Int32) (x2 : Int32) (x4 : Int32) (x5 : Int64) (S : mS) : Prop := (((S.1 2) ≤ x2 → wp_cutAll_141 K k17 x1 x2 x4 x5 S) ∧ (¬ (S.1 2) ≤ x2 → inR x2 4000 ∧ ∀ z20 : Int32, z20 = S.2.1 0 (ix x2) → wp_isLetter z20 S (fun (S21 : mS) (r21 : Int32) => ((¬ r21 = 0 → wp_cutAll_102 K k17 k70 x1 x2 x4 x5 S21) ∧ (r21 = 0 → inR x2 4000 ∧ ∀ z23 : Int32, z23 = S21.2.1 0 (ix x2) → wp_isDigit z23 S21 (fun (S24 : mS) (r24 : Int32) => ((r24 = 0 → wp_cutAll_141 K k17 x1 x2 x4 x5 S24) ∧ (¬ r24 = 0 → wp_cutAll_102 K k17 k70 x1 x2 x4 x5 S24))))))))
def ls_cutAll_70 (K : mS → Prop) (k17 : Int32 × Int32 × mS → Prop) (k70 : Int32 × Int32 × Int32 × Int64 × mS → Prop) (u : Int32 × Int32 × Int32 × Int64 × mS) : Prop := wp_cutAll_70 K k17 k70 u.1 u.2.1 u.2.2.1 u.2.2.2.1 u.2.2.2.2
def wp_cutAll_44 (K : mS → Prop) (k17 : Int32 × Int32 × mS → Prop) (x1 : Int32) (x2 : Int32) (S : mS) : Prop := ∀ z56 : Int32, z56 = x2 + 1 → k17 (x1, z56, S)
def wp_cutAll_17 (K : mS → Prop) (k17 : Int32 × Int32 × mS → Prop) (x1 : Int32) (x2 : Int32) (S : mS) : Prop := (((S.1 2) ≤ x2 → inR x1 4002 ∧ ∀ S4 : mS, S4 = sF S 1 (ix x1) 0 → inR x1 4002 ∧ ∀ S5 : mS, S5 = sF S4 2 (ix x1) (S4.1 2) → ∀ S6 : mS, S6 = sZ S5 3 0 → ∀ S7 : mS, S7 = sZ S6 4 0 → K S7) ∧ (¬ (S.1 2) ≤ x2 → inR x2 4000 ∧ ∀ z8 : Int32, z8 = S.2.1 0 (ix x2) → ((z8 = 10 → wp_cutAll_44 K k17 x1 x2 S) ∧ (¬ z8 = 10 → ((¬ z8 = 32 → inR x1 4002 ∧ ∀ S11 : mS, S11 = sF S 2 (ix x1) x2 → wp_isLetter z8 S11 (fun (S12 : mS) (r12 : Int32) => ((r12 = 0 → wp_isDigit z8 S12 (fun (S14 : mS) (r14 : Int32) => ((r14 = 0 → ∀ z16 : Int64, z16 = Int32.toInt64 z8 → wp_isSignOf z8 S14 (fun (S17 : mS) (r17 : Int32) => ((r17 = 0 → wp_cutAll_275 K k17 x1 x2 z16 x1 4 S17) ∧ (¬ r17 = 0 → wp_cutAll_275 K k17 x1 x2 z16 x1 3 S17)))) ∧ (¬ r14 = 0 → (∃ n9, it (ls_cutAll_171 K k17) n9 (x1, x2, x2, 0, S14)))))) ∧ (¬ r12 = 0 → (∃ n9, it (ls_cutAll_70 K k17) n9 (x1, x2, x2, 0, S12)))))) ∧ (z8 = 32 → wp_cutAll_44 K k17 x1 x2 S))))))
def ls_cutAll_17 (K : mS → Prop) (k17 : Int32 × Int32 × mS → Prop) (u : Int32 × Int32 × mS) : Prop := wp_cutAll_17 K k17 u.1 u.2.1 u.2.2
def wp_cutAll (S : mS) (K : mS → Prop) : Prop := ∀ S1 : mS, S1 = sZ S 2 (S.1 1) → ∀ S2 : mS, S2 = sZ S1 1 0 → (∃ n9, it (ls_cutAll_17 K) n9 (0, 0, S2))
theorem cw_X12_isDigit {R : Room} {s : State} {args : Array Value} {fr lo : Nat} (hts : ∀ w ∈ tb, w.before args s = true) (h1 : fr + 1 ≤ R.frames) (h2 : 8 + (1 + 11) + lo ≤ R.locals) : CallB R s args RX12 324 yX12_isDigit cX12_isDigit 1 (some .boolean) (.code yX12_isDigit cX12_isDigit 1 (some .boolean) :: tb) (mRm fr lo) 0 0 1 ∧ (Cond.static yX12_isDigit).before args s = true := cwS 1 hts (gd_S wd_1794 wd_1795 wd_15 wd_1796) rfl rfl rfl (by decide +kernel) ⟨h1, h2⟩
theorem cw_X12_isSignOf {R : Room} {s : State} {args : Array Value} {fr lo : Nat} (hts : ∀ w ∈ tb, w.before args s = true) (h1 : fr + 1 ≤ R.frames) (h2 : 8 + (1 + 11) + lo ≤ R.locals) : CallB R s args RX12 331 yX12_isSignOf cX12_isSignOf 1 (some .boolean) (.code yX12_isSignOf cX12_isSignOf 1 (some .boolean) :: tb) (mRm fr lo) 0 0 1 ∧ (Cond.static yX12_isSignOf).before args s = true := cwS 1 hts (gd_S wd_1799 wd_1800 wd_15 wd_1801) rfl rfl rfl (by decide +kernel) ⟨h1, h2⟩
theorem cw_X12_rank {R : Room} {s : State} {args : Array Value} {fr lo : Nat} (hts : ∀ w ∈ tb, w.before args s = true) (h1 : fr + 1 ≤ R.frames) (h2 : 8 + (1 + 11) + lo ≤ R.locals) : CallB R s args RX12 313 yX12_rank cX12_rank 1 (some .int) (.code yX12_rank cX12_rank 1 (some .int) :: tb) (mRm fr lo) 0 0 1 ∧ (Cond.static yX12_rank).before args s = true := cwS 1 hts (gd_S wd_1394 wd_1395 wd_15 wd_1396) rfl rfl rfl (by decide +kernel) ⟨h1, h2⟩
set_option maxHeartbeats 4000000 in
set_option maxRecDepth 100000 in
theorem ct_cutAll (l : Launch) (S : mS) (K : mS → Prop) (h : wp_cutAll S K) : mMv l yX12_cutAll cX12_cutAll 7 none 2 40 (fun E => []) S K := by
  refine mv_ofv (by decide) rfl (fun _ => Nat.le_of_ble_eq_true rfl) ?_
  intro E p e R s m args below meth c A ls Q hRf hRl hX hC hl hret
  have hx := hX.1.1
  have hb := hX.1.2.1
  have hown := hX.1.2.2.2.1
  have hts := hX.1.2.2.2.2
  have cut17 : ∀ (n17 : Nat) (x1 : Int32) (x2 : Int32) (S : mS) (H : Heap) (locs : List Loc) (ls : Array Slot), it (ls_cutAll_17 K) n17 (x1, x2, S) → mC E A s.heap S H locs → lv_has ls 7 [(0, .ref E.2.1), (1, .int x1), (2, .int x2)] → W p l e R s m args below meth c H locs 0 0 Q (F0 m 17 ls []) := by
    intro n17
    induction n17 with
    | zero => intro x1 x2 S H locs ls h hC hl; exact h.elim
    | succ n17 ih17 =>
      have cut279 : ∀ (x1 : Int32) (x2 : Int32) (x5 : Int64) (S : mS) (H : Heap) (locs : List Loc) (ls : Array Slot), wp_cutAll_279 K (it (ls_cutAll_17 K) n17) x1 x2 x5 S → mC E A s.heap S H locs → lv_has ls 7 [(0, .ref E.2.1), (1, .int x1), (2, .int x2), (5, .long x5)] → W p l e R s m args below meth c H locs 0 0 Q (F0 m 279 ls []) := by
        intro x1 x2 x5 S H locs ls h hC hl
        unfold wp_cutAll_279 at h
        refine lv_aload_n hx hb dX12_cutAll_279 rfl (lv_at hl 0 rfl) ?_
        refine mv_get (v := .ref (E.2.2.1 3)) hX hC 6 (Nat.le_of_ble_eq_true rfl) wd_1406 rfl dX12_cutAll_280 ?_
        refine lv_iload_n hx hb dX12_cutAll_283 rfl (lv_at hl 1 rfl) ?_
        refine lv_lload hx hb dX12_cutAll_284 (lv_at hl 3 rfl) ?_
        refine mq_lst (n := 4002) (v := x5) hX hC 3 rfl rfl mf_3 dX12_cutAll_286 h.1 h.2 (fun S37 H locs hC h => ?_)
        obtain ⟨z38, ez38⟩ : ∃ y : Int32, y = x1 + 1 := ⟨_, rfl⟩
        have h := h z38 ez38
        refine lv_iinc (v := z38) (lv' := [(1, .int z38), (0, .ref E.2.1), (2, .int x2), (5, .long x5)]) hx hb dX12_cutAll_287 hl (k := 1) rfl (by rw [ez38]; rfl) (by decide) rfl (fun ls hl => ?_)
        refine lv_goto (tgt := 17) hx hb dX12_cutAll_290 (by decide) ?_
        exact ih17 z38 x2 S37 _ _ _ h hC (lv_sub hl [1, 0, 2] rfl)
      have cut275 : ∀ (x1 : Int32) (x2 : Int32) (x5 : Int64) (y1 : Int32) (y2 : Int32) (S : mS) (H : Heap) (locs : List Loc) (ls : Array Slot), wp_cutAll_275 K (it (ls_cutAll_17 K) n17) x1 x2 x5 y1 y2 S → mC E A s.heap S H locs → lv_has ls 7 [(0, .ref E.2.1), (1, .int x1), (2, .int x2), (5, .long x5)] → W p l e R s m args below meth c H locs 0 0 Q (F0 m 275 ls [.int y2, .int y1, .ref (E.2.2.1 1)]) := by
        intro x1 x2 x5 y1 y2 S H locs ls h hC hl
        unfold wp_cutAll_275 at h
        refine mq_ist (n := 4002) (v := y2) hX hC 1 rfl rfl mf_1 dX12_cutAll_275 h.1 h.2 (fun S54 H locs hC h => ?_)
        obtain ⟨z55, ez55⟩ : ∃ y : Int32, y = x2 + 1 := ⟨_, rfl⟩
        have h := h z55 ez55
        refine lv_iinc (v := z55) (lv' := [(2, .int z55), (0, .ref E.2.1), (1, .int x1), (5, .long x5)]) hx hb dX12_cutAll_276 hl (k := 2) rfl (by rw [ez55]; rfl) (by decide) rfl (fun ls hl => ?_)
        exact cut279 x1 z55 x5 S54 _ _ _ h hC (lv_sub hl [1, 2, 0, 3] rfl)
      have cut250 : ∀ (x1 : Int32) (x2 : Int32) (x5 : Int64) (y1 : Int32) (y2 : Int32) (S : mS) (H : Heap) (locs : List Loc) (ls : Array Slot), wp_cutAll_250 K (it (ls_cutAll_17 K) n17) x1 x2 x5 y1 y2 S → mC E A s.heap S H locs → lv_has ls 7 [(0, .ref E.2.1), (1, .int x1), (2, .int x2), (5, .long x5)] → W p l e R s m args below meth c H locs 0 0 Q (F0 m 250 ls [.int y2, .int y1, .ref (E.2.2.1 1)]) := by
        intro x1 x2 x5 y1 y2 S H locs ls h hC hl
        unfold wp_cutAll_250 at h
        refine mq_ist (n := 4002) (v := y2) hX hC 1 rfl rfl mf_1 dX12_cutAll_250 h.1 h.2 (fun S53 H locs hC h => ?_)
        refine lv_goto (tgt := 279) hx hb dX12_cutAll_251 (by decide) ?_
        exact cut279 x1 x2 x5 S53 _ _ _ h hC (lv_sub hl [0, 1, 2, 3] rfl)
      have cut231 : ∀ (x1 : Int32) (x2 : Int32) (x4 : Int32) (x5 : Int64) (S : mS) (H : Heap) (locs : List Loc) (ls : Array Slot), wp_cutAll_231 K (it (ls_cutAll_17 K) n17) x1 x2 x4 x5 S → mC E A s.heap S H locs → lv_has ls 7 [(0, .ref E.2.1), (1, .int x1), (2, .int x2), (4, .int x4), (5, .long x5)] → W p l e R s m args below meth c H locs 0 0 Q (F0 m 231 ls []) := by
        intro x1 x2 x4 x5 S H locs ls h hC hl
        unfold wp_cutAll_231 at h
        refine lv_aload_n hx hb dX12_cutAll_231 rfl (lv_at hl 0 rfl) ?_
        refine mv_get (v := .ref (E.2.2.1 1)) hX hC 4 (Nat.le_of_ble_eq_true rfl) wd_1404 rfl dX12_cutAll_232 ?_
        refine lv_iload_n hx hb dX12_cutAll_235 rfl (lv_at hl 1 rfl) ?_
        refine lv_iload_n hx hb dX12_cutAll_236 rfl (lv_at hl 2 rfl) ?_
        refine lv_iload hx hb dX12_cutAll_237 (lv_at hl 3 rfl) ?_
        refine lq_isub hx hb dX12_cutAll_239 h (fun z51 h => ?_)
        refine lv_bipush (v := 9) hx hb dX12_cutAll_240 (by decide) ?_
        refine lv_icmp_le (tgt := 249) hx hb dX12_cutAll_242 (by decide) (fun c52 => ?_) (fun c52 => ?_)
        · have h := h.1 c52
          refine lv_iconst (v := 2) hx hb dX12_cutAll_249 (by decide) ?_
          exact cut250 x1 x2 x5 x1 2 S _ _ _ h hC (lv_sub hl [0, 1, 2, 4] rfl)
        · have h := h.2 c52
          refine lv_iconst (v := 4) hx hb dX12_cutAll_245 (by decide) ?_
          refine lv_goto (tgt := 250) hx hb dX12_cutAll_246 (by decide) ?_
          exact cut250 x1 x2 x5 x1 4 S _ _ _ h hC (lv_sub hl [0, 1, 2, 4] rfl)
      have cut171 : ∀ (n171 : Nat) (x1 : Int32) (x2 : Int32) (x4 : Int32) (x5 : Int64) (S : mS) (H : Heap) (locs : List Loc) (ls : Array Slot), it (ls_cutAll_171 K (it (ls_cutAll_17 K) n17)) n171 (x1, x2, x4, x5, S) → mC E A s.heap S H locs → lv_has ls 7 [(0, .ref E.2.1), (1, .int x1), (2, .int x2), (4, .int x4), (5, .long x5)] → W p l e R s m args below meth c H locs 0 0 Q (F0 m 171 ls []) := by
        intro n171
        induction n171 with
        | zero => intro x1 x2 x4 x5 S H locs ls h hC hl; exact h.elim
        | succ n171 ih171 =>
          have cut223 : ∀ (x1 : Int32) (x2 : Int32) (x4 : Int32) (y0 : Int64) (S : mS) (H : Heap) (locs : List Loc) (ls : Array Slot), wp_cutAll_223 K (it (ls_cutAll_17 K) n17) (it (ls_cutAll_171 K (it (ls_cutAll_17 K) n17)) n171) x1 x2 x4 y0 S → mC E A s.heap S H locs → lv_has ls 7 [(0, .ref E.2.1), (1, .int x1), (2, .int x2), (4, .int x4)] → W p l e R s m args below meth c H locs 0 0 Q (F0 m 223 ls [.long y0]) := by
            intro x1 x2 x4 y0 S H locs ls h hC hl
            unfold wp_cutAll_223 at h
            refine lv_lstore (lv' := [(5, .long y0), (0, .ref E.2.1), (1, .int x1), (2, .int x2), (4, .int x4)]) hx hb dX12_cutAll_223 hl (by decide) rfl (fun ls hl => ?_)
            obtain ⟨z50, ez50⟩ : ∃ y : Int32, y = x2 + 1 := ⟨_, rfl⟩
            have h := h z50 ez50
            refine lv_iinc (v := z50) (lv' := [(2, .int z50), (5, .long y0), (0, .ref E.2.1), (1, .int x1), (4, .int x4)]) hx hb dX12_cutAll_225 hl (k := 3) rfl (by rw [ez50]; rfl) (by decide) rfl (fun ls hl => ?_)
            refine lv_goto (tgt := 171) hx hb dX12_cutAll_228 (by decide) ?_
            exact ih171 x1 z50 x4 y0 S _ _ _ h hC (lv_sub hl [2, 3, 0, 4, 1] rfl)
          intro x1 x2 x4 x5 S H locs ls h hC hl
          have h : wp_cutAll_171 K (it (ls_cutAll_17 K) n17) (it (ls_cutAll_171 K (it (ls_cutAll_17 K) n17)) n171) x1 x2 x4 x5 S := h
          unfold wp_cutAll_171 at h
          refine lv_iload_n hx hb dX12_cutAll_171 rfl (lv_at hl 2 rfl) ?_
          refine lv_aload_n hx hb dX12_cutAll_172 rfl (lv_at hl 0 rfl) ?_
          refine mv_get (v := .int (S.1 2)) hX hC 3 (Nat.le_of_ble_eq_true rfl) wd_1403 rfl dX12_cutAll_173 ?_
          refine lv_icmp_ge (tgt := 231) hx hb dX12_cutAll_176 (by decide) (fun c39 => ?_) (fun c39 => ?_)
          · have h := h.1 c39
            exact cut231 x1 x2 x4 x5 S _ _ _ h hC (lv_sub hl [0, 1, 2, 3, 4] rfl)
          · have h := h.2 c39
            refine lv_aload_n hx hb dX12_cutAll_179 rfl (lv_at hl 0 rfl) ?_
            refine mv_get (v := .ref (E.2.2.1 0)) hX hC 1 (Nat.le_of_ble_eq_true rfl) wd_1401 rfl dX12_cutAll_180 ?_
            refine lv_iload_n hx hb dX12_cutAll_183 rfl (lv_at hl 2 rfl) ?_
            refine mq_ild (n := 4000) hX hC 0 rfl rfl dX12_cutAll_184 h (fun z40 h => ?_)
            refine mv_calls1 [.int z40] (rest := []) hX hC (ct_isDigit l S z40 _ h E _) (cw_X12_isDigit hts (by omega) (by omega)) rfl hl.1 (Nat.le_of_ble_eq_true rfl) ⟨Nat.zero_le _, Nat.zero_le _⟩ dX12_cutAll_185 (fun r41 S41 H locs hC h => ?_)
            refine lv_if_eq (tgt := 231) hx hb dX12_cutAll_188 (by decide) (fun c42 => ?_) (fun c42 => ?_)
            · have h := h.1 c42
              exact cut231 x1 x2 x4 x5 S41 _ _ _ h hC (lv_sub hl [0, 1, 2, 3, 4] rfl)
            · have h := h.2 c42
              refine lv_iload_n hx hb dX12_cutAll_191 rfl (lv_at hl 2 rfl) ?_
              refine lv_iload hx hb dX12_cutAll_192 (lv_at hl 3 rfl) ?_
              refine lq_isub hx hb dX12_cutAll_194 h (fun z43 h => ?_)
              refine lv_bipush (v := 9) hx hb dX12_cutAll_195 (by decide) ?_
              refine lv_icmp_ge (tgt := 221) hx hb dX12_cutAll_197 (by decide) (fun c44 => ?_) (fun c44 => ?_)
              · have h := h.1 c44
                refine lv_lload hx hb dX12_cutAll_221 (lv_at hl 4 rfl) ?_
                exact cut223 x1 x2 x4 x5 S41 _ _ _ h hC (lv_sub hl [0, 1, 2, 3] rfl)
              · have h := h.2 c44
                refine lv_ldc2 (v := 10) hx hb hown (hts _ wd_1797) dX12_cutAll_200 ?_
                refine lv_lload hx hb dX12_cutAll_203 (lv_at hl 4 rfl) ?_
                refine lq_lmul hx hb dX12_cutAll_205 h (fun z45 h => ?_)
                refine lv_aload_n hx hb dX12_cutAll_206 rfl (lv_at hl 0 rfl) ?_
                refine mv_get (v := .ref (E.2.2.1 0)) hX hC 1 (Nat.le_of_ble_eq_true rfl) wd_1401 rfl dX12_cutAll_207 ?_
                refine lv_iload_n hx hb dX12_cutAll_210 rfl (lv_at hl 2 rfl) ?_
                refine mq_ild (n := 4000) hX hC 0 rfl rfl dX12_cutAll_211 h (fun z46 h => ?_)
                refine lq_i2l hx hb dX12_cutAll_212 h (fun z47 h => ?_)
                refine lq_ladd hx hb dX12_cutAll_213 h (fun z48 h => ?_)
                refine lv_ldc2 (v := 48) hx hb hown (hts _ wd_1798) dX12_cutAll_214 ?_
                refine lq_lsub hx hb dX12_cutAll_217 h (fun z49 h => ?_)
                refine lv_goto (tgt := 223) hx hb dX12_cutAll_218 (by decide) ?_
                exact cut223 x1 x2 x4 z49 S41 _ _ _ h hC (lv_sub hl [0, 1, 2, 3] rfl)
      have cut160 : ∀ (x1 : Int32) (x2 : Int32) (x5 : Int64) (y1 : Int32) (y2 : Int32) (S : mS) (H : Heap) (locs : List Loc) (ls : Array Slot), wp_cutAll_160 K (it (ls_cutAll_17 K) n17) x1 x2 x5 y1 y2 S → mC E A s.heap S H locs → lv_has ls 7 [(0, .ref E.2.1), (1, .int x1), (2, .int x2), (5, .long x5)] → W p l e R s m args below meth c H locs 0 0 Q (F0 m 160 ls [.int y2, .int y1, .ref (E.2.2.1 1)]) := by
        intro x1 x2 x5 y1 y2 S H locs ls h hC hl
        unfold wp_cutAll_160 at h
        refine mq_ist (n := 4002) (v := y2) hX hC 1 rfl rfl mf_1 dX12_cutAll_160 h.1 h.2 (fun S36 H locs hC h => ?_)
        refine lv_goto (tgt := 279) hx hb dX12_cutAll_161 (by decide) ?_
        exact cut279 x1 x2 x5 S36 _ _ _ h hC (lv_sub hl [0, 1, 2, 3] rfl)
      have cut141 : ∀ (x1 : Int32) (x2 : Int32) (x4 : Int32) (x5 : Int64) (S : mS) (H : Heap) (locs : List Loc) (ls : Array Slot), wp_cutAll_141 K (it (ls_cutAll_17 K) n17) x1 x2 x4 x5 S → mC E A s.heap S H locs → lv_has ls 7 [(0, .ref E.2.1), (1, .int x1), (2, .int x2), (4, .int x4), (5, .long x5)] → W p l e R s m args below meth c H locs 0 0 Q (F0 m 141 ls []) := by
        intro x1 x2 x4 x5 S H locs ls h hC hl
        unfold wp_cutAll_141 at h
        refine lv_aload_n hx hb dX12_cutAll_141 rfl (lv_at hl 0 rfl) ?_
        refine mv_get (v := .ref (E.2.2.1 1)) hX hC 4 (Nat.le_of_ble_eq_true rfl) wd_1404 rfl dX12_cutAll_142 ?_
        refine lv_iload_n hx hb dX12_cutAll_145 rfl (lv_at hl 1 rfl) ?_
        refine lv_iload_n hx hb dX12_cutAll_146 rfl (lv_at hl 2 rfl) ?_
        refine lv_iload hx hb dX12_cutAll_147 (lv_at hl 3 rfl) ?_
        refine lq_isub hx hb dX12_cutAll_149 h (fun z34 h => ?_)
        refine lv_bipush (v := 12) hx hb dX12_cutAll_150 (by decide) ?_
        refine lv_icmp_le (tgt := 159) hx hb dX12_cutAll_152 (by decide) (fun c35 => ?_) (fun c35 => ?_)
        · have h := h.1 c35
          refine lv_iconst (v := 1) hx hb dX12_cutAll_159 (by decide) ?_
          exact cut160 x1 x2 x5 x1 1 S _ _ _ h hC (lv_sub hl [0, 1, 2, 4] rfl)
        · have h := h.2 c35
          refine lv_iconst (v := 4) hx hb dX12_cutAll_155 (by decide) ?_
          refine lv_goto (tgt := 160) hx hb dX12_cutAll_156 (by decide) ?_
          exact cut160 x1 x2 x5 x1 4 S _ _ _ h hC (lv_sub hl [0, 1, 2, 4] rfl)
      have cut70 : ∀ (n70 : Nat) (x1 : Int32) (x2 : Int32) (x4 : Int32) (x5 : Int64) (S : mS) (H : Heap) (locs : List Loc) (ls : Array Slot), it (ls_cutAll_70 K (it (ls_cutAll_17 K) n17)) n70 (x1, x2, x4, x5, S) → mC E A s.heap S H locs → lv_has ls 7 [(0, .ref E.2.1), (1, .int x1), (2, .int x2), (4, .int x4), (5, .long x5)] → W p l e R s m args below meth c H locs 0 0 Q (F0 m 70 ls []) := by
        intro n70
        induction n70 with
        | zero => intro x1 x2 x4 x5 S H locs ls h hC hl; exact h.elim
        | succ n70 ih70 =>
          have cut133 : ∀ (x1 : Int32) (x2 : Int32) (x4 : Int32) (y0 : Int64) (S : mS) (H : Heap) (locs : List Loc) (ls : Array Slot), wp_cutAll_133 K (it (ls_cutAll_17 K) n17) (it (ls_cutAll_70 K (it (ls_cutAll_17 K) n17)) n70) x1 x2 x4 y0 S → mC E A s.heap S H locs → lv_has ls 7 [(0, .ref E.2.1), (1, .int x1), (2, .int x2), (4, .int x4)] → W p l e R s m args below meth c H locs 0 0 Q (F0 m 133 ls [.long y0]) := by
            intro x1 x2 x4 y0 S H locs ls h hC hl
            unfold wp_cutAll_133 at h
            refine lv_lstore (lv' := [(5, .long y0), (0, .ref E.2.1), (1, .int x1), (2, .int x2), (4, .int x4)]) hx hb dX12_cutAll_133 hl (by decide) rfl (fun ls hl => ?_)
            obtain ⟨z33, ez33⟩ : ∃ y : Int32, y = x2 + 1 := ⟨_, rfl⟩
            have h := h z33 ez33
            refine lv_iinc (v := z33) (lv' := [(2, .int z33), (5, .long y0), (0, .ref E.2.1), (1, .int x1), (4, .int x4)]) hx hb dX12_cutAll_135 hl (k := 3) rfl (by rw [ez33]; rfl) (by decide) rfl (fun ls hl => ?_)
            refine lv_goto (tgt := 70) hx hb dX12_cutAll_138 (by decide) ?_
            exact ih70 x1 z33 x4 y0 S _ _ _ h hC (lv_sub hl [2, 3, 0, 4, 1] rfl)
          have cut102 : ∀ (x1 : Int32) (x2 : Int32) (x4 : Int32) (x5 : Int64) (S : mS) (H : Heap) (locs : List Loc) (ls : Array Slot), wp_cutAll_102 K (it (ls_cutAll_17 K) n17) (it (ls_cutAll_70 K (it (ls_cutAll_17 K) n17)) n70) x1 x2 x4 x5 S → mC E A s.heap S H locs → lv_has ls 7 [(0, .ref E.2.1), (1, .int x1), (2, .int x2), (4, .int x4), (5, .long x5)] → W p l e R s m args below meth c H locs 0 0 Q (F0 m 102 ls []) := by
            intro x1 x2 x4 x5 S H locs ls h hC hl
            unfold wp_cutAll_102 at h
            refine lv_iload_n hx hb dX12_cutAll_102 rfl (lv_at hl 2 rfl) ?_
            refine lv_iload hx hb dX12_cutAll_103 (lv_at hl 3 rfl) ?_
            refine lq_isub hx hb dX12_cutAll_105 h (fun z26 h => ?_)
            refine lv_bipush (v := 12) hx hb dX12_cutAll_106 (by decide) ?_
            refine lv_icmp_ge (tgt := 131) hx hb dX12_cutAll_108 (by decide) (fun c27 => ?_) (fun c27 => ?_)
            · have h := h.1 c27
              refine lv_lload hx hb dX12_cutAll_131 (lv_at hl 4 rfl) ?_
              exact cut133 x1 x2 x4 x5 S _ _ _ h hC (lv_sub hl [0, 1, 2, 3] rfl)
            · have h := h.2 c27
              refine lv_ldc2 (v := 37) hx hb hown (hts _ wd_1393) dX12_cutAll_111 ?_
              refine lv_lload hx hb dX12_cutAll_114 (lv_at hl 4 rfl) ?_
              refine lq_lmul hx hb dX12_cutAll_116 h (fun z28 h => ?_)
              refine lv_aload_n hx hb dX12_cutAll_117 rfl (lv_at hl 0 rfl) ?_
              refine mv_get (v := .ref (E.2.2.1 0)) hX hC 1 (Nat.le_of_ble_eq_true rfl) wd_1401 rfl dX12_cutAll_118 ?_
              refine lv_iload_n hx hb dX12_cutAll_121 rfl (lv_at hl 2 rfl) ?_
              refine mq_ild (n := 4000) hX hC 0 rfl rfl dX12_cutAll_122 h (fun z29 h => ?_)
              refine mv_calls1 [.int z29] (rest := [.long z28]) hX hC (ct_rank l S z29 _ h E _) (cw_X12_rank hts (by omega) (by omega)) rfl hl.1 (Nat.le_of_ble_eq_true rfl) ⟨Nat.zero_le _, Nat.zero_le _⟩ dX12_cutAll_123 (fun r30 S30 H locs hC h => ?_)
              refine lq_i2l hx hb dX12_cutAll_126 h (fun z31 h => ?_)
              refine lq_ladd hx hb dX12_cutAll_127 h (fun z32 h => ?_)
              refine lv_goto (tgt := 133) hx hb dX12_cutAll_128 (by decide) ?_
              exact cut133 x1 x2 x4 z32 S30 _ _ _ h hC (lv_sub hl [0, 1, 2, 3] rfl)
          intro x1 x2 x4 x5 S H locs ls h hC hl
          have h : wp_cutAll_70 K (it (ls_cutAll_17 K) n17) (it (ls_cutAll_70 K (it (ls_cutAll_17 K) n17)) n70) x1 x2 x4 x5 S := h
          unfold wp_cutAll_70 at h
          refine lv_iload_n hx hb dX12_cutAll_70 rfl (lv_at hl 2 rfl) ?_
          refine lv_aload_n hx hb dX12_cutAll_71 rfl (lv_at hl 0 rfl) ?_
          refine mv_get (v := .int (S.1 2)) hX hC 3 (Nat.le_of_ble_eq_true rfl) wd_1403 rfl dX12_cutAll_72 ?_
          refine lv_icmp_ge (tgt := 141) hx hb dX12_cutAll_75 (by decide) (fun c19 => ?_) (fun c19 => ?_)
          · have h := h.1 c19
            exact cut141 x1 x2 x4 x5 S _ _ _ h hC (lv_sub hl [0, 1, 2, 3, 4] rfl)
          · have h := h.2 c19
            refine lv_aload_n hx hb dX12_cutAll_78 rfl (lv_at hl 0 rfl) ?_
            refine mv_get (v := .ref (E.2.2.1 0)) hX hC 1 (Nat.le_of_ble_eq_true rfl) wd_1401 rfl dX12_cutAll_79 ?_
            refine lv_iload_n hx hb dX12_cutAll_82 rfl (lv_at hl 2 rfl) ?_
            refine mq_ild (n := 4000) hX hC 0 rfl rfl dX12_cutAll_83 h (fun z20 h => ?_)
            refine mv_calls1 [.int z20] (rest := []) hX hC (ct_isLetter l S z20 _ h E _) (cw_X12_isLetter hts (by omega) (by omega)) rfl hl.1 (Nat.le_of_ble_eq_true rfl) ⟨Nat.zero_le _, Nat.zero_le _⟩ dX12_cutAll_84 (fun r21 S21 H locs hC h => ?_)
            refine lv_if_ne (tgt := 102) hx hb dX12_cutAll_87 (by decide) (fun c22 => ?_) (fun c22 => ?_)
            · have h := h.1 c22
              exact cut102 x1 x2 x4 x5 S21 _ _ _ h hC (lv_sub hl [0, 1, 2, 3, 4] rfl)
            · have h := h.2 c22
              refine lv_aload_n hx hb dX12_cutAll_90 rfl (lv_at hl 0 rfl) ?_
              refine mv_get (v := .ref (E.2.2.1 0)) hX hC 1 (Nat.le_of_ble_eq_true rfl) wd_1401 rfl dX12_cutAll_91 ?_
              refine lv_iload_n hx hb dX12_cutAll_94 rfl (lv_at hl 2 rfl) ?_
              refine mq_ild (n := 4000) hX hC 0 rfl rfl dX12_cutAll_95 h (fun z23 h => ?_)
              refine mv_calls1 [.int z23] (rest := []) hX hC (ct_isDigit l S21 z23 _ h E _) (cw_X12_isDigit hts (by omega) (by omega)) rfl hl.1 (Nat.le_of_ble_eq_true rfl) ⟨Nat.zero_le _, Nat.zero_le _⟩ dX12_cutAll_96 (fun r24 S24 H locs hC h => ?_)
              refine lv_if_eq (tgt := 141) hx hb dX12_cutAll_99 (by decide) (fun c25 => ?_) (fun c25 => ?_)
              · have h := h.1 c25
                exact cut141 x1 x2 x4 x5 S24 _ _ _ h hC (lv_sub hl [0, 1, 2, 3, 4] rfl)
              · have h := h.2 c25
                exact cut102 x1 x2 x4 x5 S24 _ _ _ h hC (lv_sub hl [0, 1, 2, 3, 4] rfl)
      have cut44 : ∀ (x1 : Int32) (x2 : Int32) (S : mS) (H : Heap) (locs : List Loc) (ls : Array Slot), wp_cutAll_44 K (it (ls_cutAll_17 K) n17) x1 x2 S → mC E A s.heap S H locs → lv_has ls 7 [(0, .ref E.2.1), (1, .int x1), (2, .int x2)] → W p l e R s m args below meth c H locs 0 0 Q (F0 m 44 ls []) := by
        intro x1 x2 S H locs ls h hC hl
        unfold wp_cutAll_44 at h
        obtain ⟨z56, ez56⟩ : ∃ y : Int32, y = x2 + 1 := ⟨_, rfl⟩
        have h := h z56 ez56
        refine lv_iinc (v := z56) (lv' := [(2, .int z56), (0, .ref E.2.1), (1, .int x1)]) hx hb dX12_cutAll_44 hl (k := 2) rfl (by rw [ez56]; rfl) (by decide) rfl (fun ls hl => ?_)
        refine lv_goto (tgt := 17) hx hb dX12_cutAll_47 (by decide) ?_
        exact ih17 x1 z56 S _ _ _ h hC (lv_sub hl [1, 2, 0] rfl)
      intro x1 x2 S H locs ls h hC hl
      have h : wp_cutAll_17 K (it (ls_cutAll_17 K) n17) x1 x2 S := h
      unfold wp_cutAll_17 at h
      refine lv_iload_n hx hb dX12_cutAll_17 rfl (lv_at hl 2 rfl) ?_
      refine lv_aload_n hx hb dX12_cutAll_18 rfl (lv_at hl 0 rfl) ?_
      refine mv_get (v := .int (S.1 2)) hX hC 3 (Nat.le_of_ble_eq_true rfl) wd_1403 rfl dX12_cutAll_19 ?_
      refine lv_icmp_ge (tgt := 293) hx hb dX12_cutAll_22 (by decide) (fun c3 => ?_) (fun c3 => ?_)
      · have h := h.1 c3
        refine lv_aload_n hx hb dX12_cutAll_293 rfl (lv_at hl 0 rfl) ?_
        refine mv_get (v := .ref (E.2.2.1 1)) hX hC 4 (Nat.le_of_ble_eq_true rfl) wd_1404 rfl dX12_cutAll_294 ?_
        refine lv_iload_n hx hb dX12_cutAll_297 rfl (lv_at hl 1 rfl) ?_
        refine lv_iconst (v := 0) hx hb dX12_cutAll_298 (by decide) ?_
        refine mq_ist (n := 4002) (v := 0) hX hC 1 rfl rfl mf_1 dX12_cutAll_299 h.1 h.2 (fun S4 H locs hC h => ?_)
        refine lv_aload_n hx hb dX12_cutAll_300 rfl (lv_at hl 0 rfl) ?_
        refine mv_get (v := .ref (E.2.2.1 2)) hX hC 5 (Nat.le_of_ble_eq_true rfl) wd_1405 rfl dX12_cutAll_301 ?_
        refine lv_iload_n hx hb dX12_cutAll_304 rfl (lv_at hl 1 rfl) ?_
        refine lv_aload_n hx hb dX12_cutAll_305 rfl (lv_at hl 0 rfl) ?_
        refine mv_get (v := .int (S4.1 2)) hX hC 3 (Nat.le_of_ble_eq_true rfl) wd_1403 rfl dX12_cutAll_306 ?_
        refine mq_ist (n := 4002) (v := S4.1 2) hX hC 2 rfl rfl mf_2 dX12_cutAll_309 h.1 h.2 (fun S5 H locs hC h => ?_)
        refine lv_aload_n hx hb dX12_cutAll_310 rfl (lv_at hl 0 rfl) ?_
        refine lv_iconst (v := 0) hx hb dX12_cutAll_311 (by decide) ?_
        refine mq_put (v := 0) hX hC 7 3 (Nat.le_of_ble_eq_true rfl) wd_1407 rfl rfl rfl mz_3 dX12_cutAll_312 h (fun S6 H locs hC h => ?_)
        refine lv_aload_n hx hb dX12_cutAll_315 rfl (lv_at hl 0 rfl) ?_
        refine lv_iconst (v := 0) hx hb dX12_cutAll_316 (by decide) ?_
        refine mq_put (v := 0) hX hC 8 4 (Nat.le_of_ble_eq_true rfl) wd_1408 rfl rfl rfl mz_4 dX12_cutAll_317 h (fun S7 H locs hC h => ?_)
        exact hret _ _ _ _ _ hC h dX12_cutAll_320
      · have h := h.2 c3
        refine lv_aload_n hx hb dX12_cutAll_25 rfl (lv_at hl 0 rfl) ?_
        refine mv_get (v := .ref (E.2.2.1 0)) hX hC 1 (Nat.le_of_ble_eq_true rfl) wd_1401 rfl dX12_cutAll_26 ?_
        refine lv_iload_n hx hb dX12_cutAll_29 rfl (lv_at hl 2 rfl) ?_
        refine mq_ild (n := 4000) hX hC 0 rfl rfl dX12_cutAll_30 h (fun z8 h => ?_)
        refine lv_istore_n (lv' := [(3, .int z8), (0, .ref E.2.1), (1, .int x1), (2, .int x2)]) hx hb dX12_cutAll_31 rfl hl (by decide) rfl (fun ls hl => ?_)
        refine lv_iload_n hx hb dX12_cutAll_32 rfl (lv_at hl 0 rfl) ?_
        refine lv_bipush (v := 10) hx hb dX12_cutAll_33 (by decide) ?_
        refine lv_icmp_eq (tgt := 44) hx hb dX12_cutAll_35 (by decide) (fun c9 => ?_) (fun c9 => ?_)
        · have h := h.1 c9
          exact cut44 x1 x2 S _ _ _ h hC (lv_sub hl [1, 2, 3] rfl)
        · have h := h.2 c9
          refine lv_iload_n hx hb dX12_cutAll_38 rfl (lv_at hl 0 rfl) ?_
          refine lv_bipush (v := 32) hx hb dX12_cutAll_39 (by decide) ?_
          refine lv_icmp_ne (tgt := 50) hx hb dX12_cutAll_41 (by decide) (fun c10 => ?_) (fun c10 => ?_)
          · have h := h.1 c10
            refine lv_iload_n hx hb dX12_cutAll_50 rfl (lv_at hl 3 rfl) ?_
            refine lv_istore (lv' := [(4, .int x2), (3, .int z8), (0, .ref E.2.1), (1, .int x1), (2, .int x2)]) hx hb dX12_cutAll_51 hl (by decide) rfl (fun ls hl => ?_)
            refine lv_lconst (v := 0) hx hb dX12_cutAll_53 (by decide) ?_
            refine lv_lstore (lv' := [(5, .long 0), (4, .int x2), (3, .int z8), (0, .ref E.2.1), (1, .int x1), (2, .int x2)]) hx hb dX12_cutAll_54 hl (by decide) rfl (fun ls hl => ?_)
            refine lv_aload_n hx hb dX12_cutAll_56 rfl (lv_at hl 3 rfl) ?_
            refine mv_get (v := .ref (E.2.2.1 2)) hX hC 5 (Nat.le_of_ble_eq_true rfl) wd_1405 rfl dX12_cutAll_57 ?_
            refine lv_iload_n hx hb dX12_cutAll_60 rfl (lv_at hl 4 rfl) ?_
            refine lv_iload_n hx hb dX12_cutAll_61 rfl (lv_at hl 5 rfl) ?_
            refine mq_ist (n := 4002) (v := x2) hX hC 2 rfl rfl mf_2 dX12_cutAll_62 h.1 h.2 (fun S11 H locs hC h => ?_)
            refine lv_iload_n hx hb dX12_cutAll_63 rfl (lv_at hl 2 rfl) ?_
            refine mv_calls1 [.int z8] (rest := []) hX hC (ct_isLetter l S11 z8 _ h E _) (cw_X12_isLetter hts (by omega) (by omega)) rfl hl.1 (Nat.le_of_ble_eq_true rfl) ⟨Nat.zero_le _, Nat.zero_le _⟩ dX12_cutAll_64 (fun r12 S12 H locs hC h => ?_)
            refine lv_if_eq (tgt := 164) hx hb dX12_cutAll_67 (by decide) (fun c13 => ?_) (fun c13 => ?_)
            · have h := h.1 c13
              refine lv_iload_n hx hb dX12_cutAll_164 rfl (lv_at hl 2 rfl) ?_
              refine mv_calls1 [.int z8] (rest := []) hX hC (ct_isDigit l S12 z8 _ h E _) (cw_X12_isDigit hts (by omega) (by omega)) rfl hl.1 (Nat.le_of_ble_eq_true rfl) ⟨Nat.zero_le _, Nat.zero_le _⟩ dX12_cutAll_165 (fun r14 S14 H locs hC h => ?_)
              refine lv_if_eq (tgt := 254) hx hb dX12_cutAll_168 (by decide) (fun c15 => ?_) (fun c15 => ?_)
              · have h := h.1 c15
                refine lv_iload_n hx hb dX12_cutAll_254 rfl (lv_at hl 2 rfl) ?_
                refine lq_i2l hx hb dX12_cutAll_255 h (fun z16 h => ?_)
                refine lv_lstore (lv' := [(5, .long z16), (4, .int x2), (3, .int z8), (0, .ref E.2.1), (1, .int x1), (2, .int x2)]) hx hb dX12_cutAll_256 hl (by decide) rfl (fun ls hl => ?_)
                refine lv_aload_n hx hb dX12_cutAll_258 rfl (lv_at hl 3 rfl) ?_
                refine mv_get (v := .ref (E.2.2.1 1)) hX hC 4 (Nat.le_of_ble_eq_true rfl) wd_1404 rfl dX12_cutAll_259 ?_
                refine lv_iload_n hx hb dX12_cutAll_262 rfl (lv_at hl 4 rfl) ?_
                refine lv_iload_n hx hb dX12_cutAll_263 rfl (lv_at hl 2 rfl) ?_
                refine mv_calls1 [.int z8] (rest := [.int x1, .ref (E.2.2.1 1)]) hX hC (ct_isSignOf l S14 z8 _ h E _) (cw_X12_isSignOf hts (by omega) (by omega)) rfl hl.1 (Nat.le_of_ble_eq_true rfl) ⟨Nat.zero_le _, Nat.zero_le _⟩ dX12_cutAll_264 (fun r17 S17 H locs hC h => ?_)
                refine lv_if_eq (tgt := 274) hx hb dX12_cutAll_267 (by decide) (fun c18 => ?_) (fun c18 => ?_)
                · have h := h.1 c18
                  refine lv_iconst (v := 4) hx hb dX12_cutAll_274 (by decide) ?_
                  exact cut275 x1 x2 z16 x1 4 S17 _ _ _ h hC (lv_sub hl [3, 4, 5, 0] rfl)
                · have h := h.2 c18
                  refine lv_iconst (v := 3) hx hb dX12_cutAll_270 (by decide) ?_
                  refine lv_goto (tgt := 275) hx hb dX12_cutAll_271 (by decide) ?_
                  exact cut275 x1 x2 z16 x1 3 S17 _ _ _ h hC (lv_sub hl [3, 4, 5, 0] rfl)
              · have h := h.2 c15
                obtain ⟨n9, h⟩ := h
                exact cut171 n9 x1 x2 x2 0 S14 _ _ _ h hC (lv_sub hl [3, 4, 5, 1, 0] rfl)
            · have h := h.2 c13
              obtain ⟨n9, h⟩ := h
              exact cut70 n9 x1 x2 x2 0 S12 _ _ _ h hC (lv_sub hl [3, 4, 5, 1, 0] rfl)
          · have h := h.2 c10
            exact cut44 x1 x2 S _ _ _ h hC (lv_sub hl [1, 2, 3] rfl)
  have hl : lv_has ls 7 [(0, .ref E.2.1)] := hl
  unfold wp_cutAll at h
  refine lv_aload_n hx hb dX12_cutAll_0 rfl (lv_at hl 0 rfl) ?_
  refine lv_aload_n hx hb dX12_cutAll_1 rfl (lv_at hl 0 rfl) ?_
  refine mv_get (v := .int (S.1 1)) hX hC 2 (Nat.le_of_ble_eq_true rfl) wd_1402 rfl dX12_cutAll_2 ?_
  refine mq_put (v := S.1 1) hX hC 3 2 (Nat.le_of_ble_eq_true rfl) wd_1403 rfl rfl rfl mz_2 dX12_cutAll_5 h (fun S1 H locs hC h => ?_)
  refine lv_aload_n hx hb dX12_cutAll_8 rfl (lv_at hl 0 rfl) ?_
  refine lv_iconst (v := 0) hx hb dX12_cutAll_9 (by decide) ?_
  refine mq_put (v := 0) hX hC 2 1 (Nat.le_of_ble_eq_true rfl) wd_1402 rfl rfl rfl mz_1 dX12_cutAll_10 h (fun S2 H locs hC h => ?_)
  refine lv_iconst (v := 0) hx hb dX12_cutAll_13 (by decide) ?_
  refine lv_istore_n (lv' := [(1, .int 0), (0, .ref E.2.1)]) hx hb dX12_cutAll_14 rfl hl (by decide) rfl (fun ls hl => ?_)
  refine lv_iconst (v := 0) hx hb dX12_cutAll_15 (by decide) ?_
  refine lv_istore_n (lv' := [(2, .int 0), (1, .int 0), (0, .ref E.2.1)]) hx hb dX12_cutAll_16 rfl hl (by decide) rfl (fun ls hl => ?_)
  obtain ⟨n9, h⟩ := h
  exact cut17 n9 0 0 S2 _ _ _ h hC (lv_sub hl [2, 1, 0] rfl)
def wp_due_48 (K : mS → Int32 → Prop) (k2 : Int64 × Int32 × mS → Prop) (x1 : Int64) (x3 : Int32) (S : mS) : Prop := ∀ z10 : Int32, z10 = x3 + 1 → k2 (x1, z10, S)
def wp_due_2 (K : mS → Int32 → Prop) (k2 : Int64 × Int32 × mS → Prop) (x1 : Int64) (x3 : Int32) (S : mS) : Prop := (((S.1 30) ≤ x3 → K S (-1)) ∧ (¬ (S.1 30) ≤ x3 → inR x3 100300 ∧ ∀ z2 : Int32, z2 = S.2.1 87 (ix x3) → inR z2 100300 ∧ ∀ z3 : Int32, z3 = S.2.1 80 (ix z2) → ((¬ z3 = 4 → wp_due_48 K k2 x1 x3 S) ∧ (z3 = 4 → inR x3 100300 ∧ ∀ z5 : Int32, z5 = S.2.1 87 (ix x3) → inR z5 100300 ∧ ∀ z6 : Int64, z6 = S.2.2 86 (ix z5) → ∀ z7 : Int32, z7 = lg_cmp z6 x1 → ((0 < z7 → wp_due_48 K k2 x1 x3 S) ∧ (¬ 0 < z7 → inR x3 100300 ∧ ∀ z9 : Int32, z9 = S.2.1 87 (ix x3) → K S z9))))))
def ls_due_2 (K : mS → Int32 → Prop) (k2 : Int64 × Int32 × mS → Prop) (u : Int64 × Int32 × mS) : Prop := wp_due_2 K k2 u.1 u.2.1 u.2.2
def wp_due (a0 : Int64) (S : mS) (K : mS → Int32 → Prop) : Prop := (∃ n9, it (ls_due_2 K) n9 (a0, 0, S))
set_option maxHeartbeats 4000000 in
set_option maxRecDepth 100000 in
theorem ct_due (l : Launch) (S : mS) (a0 : Int64) (K : mS → Int32 → Prop) (h : wp_due a0 S K) : mMi l yX12_due cX12_due 4 (some .int) 0 0 (fun E => [.long a0]) S K := by
  refine mv_ofi (by decide) rfl (fun _ => Nat.le_of_ble_eq_true rfl) ?_
  intro E p e R s m args below meth c A ls Q hRf hRl hX hC hl hret
  have hx := hX.1.1
  have hb := hX.1.2.1
  have hown := hX.1.2.2.2.1
  have hts := hX.1.2.2.2.2
  have cut2 : ∀ (n2 : Nat) (x1 : Int64) (x3 : Int32) (S : mS) (H : Heap) (locs : List Loc) (ls : Array Slot), it (ls_due_2 K) n2 (x1, x3, S) → mC E A s.heap S H locs → lv_has ls 4 [(0, .ref E.2.1), (1, .long x1), (3, .int x3)] → W p l e R s m args below meth c H locs 0 0 Q (F0 m 2 ls []) := by
    intro n2
    induction n2 with
    | zero => intro x1 x3 S H locs ls h hC hl; exact h.elim
    | succ n2 ih2 =>
      have cut48 : ∀ (x1 : Int64) (x3 : Int32) (S : mS) (H : Heap) (locs : List Loc) (ls : Array Slot), wp_due_48 K (it (ls_due_2 K) n2) x1 x3 S → mC E A s.heap S H locs → lv_has ls 4 [(0, .ref E.2.1), (1, .long x1), (3, .int x3)] → W p l e R s m args below meth c H locs 0 0 Q (F0 m 48 ls []) := by
        intro x1 x3 S H locs ls h hC hl
        unfold wp_due_48 at h
        obtain ⟨z10, ez10⟩ : ∃ y : Int32, y = x3 + 1 := ⟨_, rfl⟩
        have h := h z10 ez10
        refine lv_iinc (v := z10) (lv' := [(3, .int z10), (0, .ref E.2.1), (1, .long x1)]) hx hb dX12_due_48 hl (k := 2) rfl (by rw [ez10]; rfl) (by decide) rfl (fun ls hl => ?_)
        refine lv_goto (tgt := 2) hx hb dX12_due_51 (by decide) ?_
        exact ih2 x1 z10 S _ _ _ h hC (lv_sub hl [1, 2, 0] rfl)
      intro x1 x3 S H locs ls h hC hl
      have h : wp_due_2 K (it (ls_due_2 K) n2) x1 x3 S := h
      unfold wp_due_2 at h
      refine lv_iload_n hx hb dX12_due_2 rfl (lv_at hl 2 rfl) ?_
      refine lv_aload_n hx hb dX12_due_3 rfl (lv_at hl 0 rfl) ?_
      refine mv_get (v := .int (S.1 30)) hX hC 119 (Nat.le_of_ble_eq_true rfl) wd_1519 rfl dX12_due_4 ?_
      refine lv_icmp_ge (tgt := 54) hx hb dX12_due_7 (by decide) (fun c1 => ?_) (fun c1 => ?_)
      · have h := h.1 c1
        refine lv_iconst (v := -1) hx hb dX12_due_54 (by decide) ?_
        exact hret _ _ _ _ _ _ hC h dX12_due_55
      · have h := h.2 c1
        refine lv_aload_n hx hb dX12_due_10 rfl (lv_at hl 0 rfl) ?_
        refine mv_get (v := .ref (E.2.2.1 80)) hX hC 111 (Nat.le_of_ble_eq_true rfl) wd_1511 rfl dX12_due_11 ?_
        refine lv_aload_n hx hb dX12_due_14 rfl (lv_at hl 0 rfl) ?_
        refine mv_get (v := .ref (E.2.2.1 87)) hX hC 118 (Nat.le_of_ble_eq_true rfl) wd_1518 rfl dX12_due_15 ?_
        refine lv_iload_n hx hb dX12_due_18 rfl (lv_at hl 2 rfl) ?_
        refine mq_ild (n := 100300) hX hC 87 rfl rfl dX12_due_19 h (fun z2 h => ?_)
        refine mq_ild (n := 100300) hX hC 80 rfl rfl dX12_due_20 h (fun z3 h => ?_)
        refine lv_iconst (v := 4) hx hb dX12_due_21 (by decide) ?_
        refine lv_icmp_ne (tgt := 48) hx hb dX12_due_22 (by decide) (fun c4 => ?_) (fun c4 => ?_)
        · have h := h.1 c4
          exact cut48 x1 x3 S _ _ _ h hC (lv_sub hl [0, 1, 2] rfl)
        · have h := h.2 c4
          refine lv_aload_n hx hb dX12_due_25 rfl (lv_at hl 0 rfl) ?_
          refine mv_get (v := .ref (E.2.2.1 86)) hX hC 117 (Nat.le_of_ble_eq_true rfl) wd_1517 rfl dX12_due_26 ?_
          refine lv_aload_n hx hb dX12_due_29 rfl (lv_at hl 0 rfl) ?_
          refine mv_get (v := .ref (E.2.2.1 87)) hX hC 118 (Nat.le_of_ble_eq_true rfl) wd_1518 rfl dX12_due_30 ?_
          refine lv_iload_n hx hb dX12_due_33 rfl (lv_at hl 2 rfl) ?_
          refine mq_ild (n := 100300) hX hC 87 rfl rfl dX12_due_34 h (fun z5 h => ?_)
          refine mq_lld (n := 100300) hX hC 86 rfl rfl dX12_due_35 h (fun z6 h => ?_)
          refine lv_lload_n hx hb dX12_due_36 rfl (lv_at hl 1 rfl) ?_
          refine lq_lcmp hx hb dX12_due_37 h (fun z7 h => ?_)
          refine lv_if_gt (tgt := 48) hx hb dX12_due_38 (by decide) (fun c8 => ?_) (fun c8 => ?_)
          · have h := h.1 c8
            exact cut48 x1 x3 S _ _ _ h hC (lv_sub hl [0, 1, 2] rfl)
          · have h := h.2 c8
            refine lv_aload_n hx hb dX12_due_41 rfl (lv_at hl 0 rfl) ?_
            refine mv_get (v := .ref (E.2.2.1 87)) hX hC 118 (Nat.le_of_ble_eq_true rfl) wd_1518 rfl dX12_due_42 ?_
            refine lv_iload_n hx hb dX12_due_45 rfl (lv_at hl 2 rfl) ?_
            refine mq_ild (n := 100300) hX hC 87 rfl rfl dX12_due_46 h (fun z9 h => ?_)
            exact hret _ _ _ _ _ _ hC h dX12_due_47
  have hl : lv_has ls 4 [(0, .ref E.2.1), (1, .long a0)] := hl
  unfold wp_due at h
  refine lv_iconst (v := 0) hx hb dX12_due_0 (by decide) ?_
  refine lv_istore_n (lv' := [(3, .int 0), (0, .ref E.2.1), (1, .long a0)]) hx hb dX12_due_1 rfl hl (by decide) rfl (fun ls hl => ?_)
  obtain ⟨n9, h⟩ := h
  exact cut2 n9 a0 0 S _ _ _ h hC (lv_sub hl [1, 2, 0] rfl)
def wp_enter (a0 : Int32) (S : mS) (K : mS → Prop) : Prop := ∀ z1 : Int32, z1 = 11 * (S.1 33) → inR (S.1 33) 200 ∧ ∀ z2 : Int32, z2 = S.2.1 68 (ix (S.1 33)) → ∀ z3 : Int32, z3 = z1 + z2 → inR z3 2200 ∧ ∀ S4 : mS, S4 = sF S 69 (ix z3) a0 → inR z3 2200 ∧ ∀ S5 : mS, S5 = sF S4 70 (ix z3) 0 → inR z3 2200 ∧ ∀ S6 : mS, S6 = sF S5 71 (ix z3) 0 → inR (S6.1 33) 200 ∧ ∀ z7 : Int32, z7 = S6.2.1 68 (ix (S6.1 33)) → ∀ z8 : Int32, z8 = z7 + 1 → inR (S6.1 33) 200 ∧ ∀ S9 : mS, S9 = sF S6 68 (ix (S6.1 33)) z8 → K S9
set_option maxHeartbeats 4000000 in
set_option maxRecDepth 100000 in
theorem ct_enter (l : Launch) (S : mS) (a0 : Int32) (K : mS → Prop) (h : wp_enter a0 S K) : mMv l yX12_enter cX12_enter 3 none 0 0 (fun E => [.int a0]) S K := by
  refine mv_ofv (by decide) rfl (fun _ => Nat.le_of_ble_eq_true rfl) ?_
  intro E p e R s m args below meth c A ls Q hRf hRl hX hC hl hret
  have hx := hX.1.1
  have hb := hX.1.2.1
  have hown := hX.1.2.2.2.1
  have hts := hX.1.2.2.2.2
  have hl : lv_has ls 3 [(0, .ref E.2.1), (1, .int a0)] := hl
  unfold wp_enter at h
  refine lv_bipush (v := 11) hx hb dX12_enter_0 (by decide) ?_
  refine lv_aload_n hx hb dX12_enter_2 rfl (lv_at hl 0 rfl) ?_
  refine mv_get (v := .int (S.1 33)) hX hC 123 (Nat.le_of_ble_eq_true rfl) wd_1523 rfl dX12_enter_3 ?_
  refine lq_imul hx hb dX12_enter_6 h (fun z1 h => ?_)
  refine lv_aload_n hx hb dX12_enter_7 rfl (lv_at hl 0 rfl) ?_
  refine mv_get (v := .ref (E.2.2.1 68)) hX hC 92 (Nat.le_of_ble_eq_true rfl) wd_1492 rfl dX12_enter_8 ?_
  refine lv_aload_n hx hb dX12_enter_11 rfl (lv_at hl 0 rfl) ?_
  refine mv_get (v := .int (S.1 33)) hX hC 123 (Nat.le_of_ble_eq_true rfl) wd_1523 rfl dX12_enter_12 ?_
  refine mq_ild (n := 200) hX hC 68 rfl rfl dX12_enter_15 h (fun z2 h => ?_)
  refine lq_iadd hx hb dX12_enter_16 h (fun z3 h => ?_)
  refine lv_istore_n (lv' := [(2, .int z3), (0, .ref E.2.1), (1, .int a0)]) hx hb dX12_enter_17 rfl hl (by decide) rfl (fun ls hl => ?_)
  refine lv_aload_n hx hb dX12_enter_18 rfl (lv_at hl 1 rfl) ?_
  refine mv_get (v := .ref (E.2.2.1 69)) hX hC 93 (Nat.le_of_ble_eq_true rfl) wd_1493 rfl dX12_enter_19 ?_
  refine lv_iload_n hx hb dX12_enter_22 rfl (lv_at hl 0 rfl) ?_
  refine lv_iload_n hx hb dX12_enter_23 rfl (lv_at hl 2 rfl) ?_
  refine mq_ist (n := 2200) (v := a0) hX hC 69 rfl rfl mf_69 dX12_enter_24 h.1 h.2 (fun S4 H locs hC h => ?_)
  refine lv_aload_n hx hb dX12_enter_25 rfl (lv_at hl 1 rfl) ?_
  refine mv_get (v := .ref (E.2.2.1 70)) hX hC 94 (Nat.le_of_ble_eq_true rfl) wd_1494 rfl dX12_enter_26 ?_
  refine lv_iload_n hx hb dX12_enter_29 rfl (lv_at hl 0 rfl) ?_
  refine lv_iconst (v := 0) hx hb dX12_enter_30 (by decide) ?_
  refine mq_ist (n := 2200) (v := 0) hX hC 70 rfl rfl mf_70 dX12_enter_31 h.1 h.2 (fun S5 H locs hC h => ?_)
  refine lv_aload_n hx hb dX12_enter_32 rfl (lv_at hl 1 rfl) ?_
  refine mv_get (v := .ref (E.2.2.1 71)) hX hC 95 (Nat.le_of_ble_eq_true rfl) wd_1495 rfl dX12_enter_33 ?_
  refine lv_iload_n hx hb dX12_enter_36 rfl (lv_at hl 0 rfl) ?_
  refine lv_iconst (v := 0) hx hb dX12_enter_37 (by decide) ?_
  refine mq_ist (n := 2200) (v := 0) hX hC 71 rfl rfl mf_71 dX12_enter_38 h.1 h.2 (fun S6 H locs hC h => ?_)
  refine lv_aload_n hx hb dX12_enter_39 rfl (lv_at hl 1 rfl) ?_
  refine mv_get (v := .ref (E.2.2.1 68)) hX hC 92 (Nat.le_of_ble_eq_true rfl) wd_1492 rfl dX12_enter_40 ?_
  refine lv_aload_n hx hb dX12_enter_43 rfl (lv_at hl 1 rfl) ?_
  refine mv_get (v := .int (S6.1 33)) hX hC 123 (Nat.le_of_ble_eq_true rfl) wd_1523 rfl dX12_enter_44 ?_
  refine lv_dup2_11 hx hb dX12_enter_47 rfl rfl ?_
  refine mq_ild (n := 200) hX hC 68 rfl rfl dX12_enter_48 h (fun z7 h => ?_)
  refine lv_iconst (v := 1) hx hb dX12_enter_49 (by decide) ?_
  refine lq_iadd hx hb dX12_enter_50 h (fun z8 h => ?_)
  refine mq_ist (n := 200) (v := z8) hX hC 68 rfl rfl mf_68 dX12_enter_51 h.1 h.2 (fun S9 H locs hC h => ?_)
  exact hret _ _ _ _ _ hC h dX12_enter_52
def wp_failing_52 (K : mS → Int32 → Prop) (k5 : Int32 × Int32 × mS → Prop) (x3 : Int32) (S : mS) : Prop := inR x3 1000 ∧ ∀ z10 : Int32, z10 = S.2.1 26 (ix x3) → inR x3 1000 ∧ ∀ z11 : Int32, z11 = S.2.1 25 (ix x3) → k5 (z11, z10, S)
def wp_failing_30 (K : mS → Int32 → Prop) (k5 : Int32 × Int32 × mS → Prop) (x3 : Int32) (x4 : Int32) (S : mS) : Prop := ((2 ≤ x4 → wp_failing_52 K k5 x3 S) ∧ (¬ 2 ≤ x4 → inR x3 1000 ∧ ∀ z7 : Int32, z7 = S.2.1 29 (ix x3) → ((z7 = 0 → wp_failing_52 K k5 x3 S) ∧ (¬ z7 = 0 → inR x3 1000 ∧ ∀ z9 : Int32, z9 = S.2.1 35 (ix x3) → K S z9))))
def wp_failing_5 (K : mS → Int32 → Prop) (k5 : Int32 × Int32 × mS → Prop) (x3 : Int32) (x4 : Int32) (S : mS) : Prop := ((x3 < 0 → K S (-1)) ∧ (¬ x3 < 0 → ((¬ x4 = 0 → wp_failing_30 K k5 x3 x4 S) ∧ (x4 = 0 → inR x3 1000 ∧ ∀ z3 : Int32, z3 = S.2.1 28 (ix x3) → ((z3 = 0 → wp_failing_30 K k5 x3 x4 S) ∧ (¬ z3 = 0 → inR x3 1000 ∧ ∀ z5 : Int32, z5 = S.2.1 34 (ix x3) → K S z5))))))
def ls_failing_5 (K : mS → Int32 → Prop) (k5 : Int32 × Int32 × mS → Prop) (u : Int32 × Int32 × mS) : Prop := wp_failing_5 K k5 u.1 u.2.1 u.2.2
def wp_failing (a0 : Int32) (a1 : Int32) (S : mS) (K : mS → Int32 → Prop) : Prop := (∃ n9, it (ls_failing_5 K) n9 (a0, a1, S))
set_option maxHeartbeats 4000000 in
set_option maxRecDepth 100000 in
theorem ct_failing (l : Launch) (S : mS) (a0 : Int32) (a1 : Int32) (K : mS → Int32 → Prop) (h : wp_failing a0 a1 S K) : mMi l yX12_failing cX12_failing 5 (some .int) 0 0 (fun E => [.int a0, .int a1]) S K := by
  refine mv_ofi (by decide) rfl (fun _ => Nat.le_of_ble_eq_true rfl) ?_
  intro E p e R s m args below meth c A ls Q hRf hRl hX hC hl hret
  have hx := hX.1.1
  have hb := hX.1.2.1
  have hown := hX.1.2.2.2.1
  have hts := hX.1.2.2.2.2
  have cut5 : ∀ (n5 : Nat) (x3 : Int32) (x4 : Int32) (S : mS) (H : Heap) (locs : List Loc) (ls : Array Slot), it (ls_failing_5 K) n5 (x3, x4, S) → mC E A s.heap S H locs → lv_has ls 5 [(0, .ref E.2.1), (3, .int x3), (4, .int x4)] → W p l e R s m args below meth c H locs 0 0 Q (F0 m 5 ls []) := by
    intro n5
    induction n5 with
    | zero => intro x3 x4 S H locs ls h hC hl; exact h.elim
    | succ n5 ih5 =>
      have cut52 : ∀ (x3 : Int32) (S : mS) (H : Heap) (locs : List Loc) (ls : Array Slot), wp_failing_52 K (it (ls_failing_5 K) n5) x3 S → mC E A s.heap S H locs → lv_has ls 5 [(0, .ref E.2.1), (3, .int x3)] → W p l e R s m args below meth c H locs 0 0 Q (F0 m 52 ls []) := by
        intro x3 S H locs ls h hC hl
        unfold wp_failing_52 at h
        refine lv_aload_n hx hb dX12_failing_52 rfl (lv_at hl 0 rfl) ?_
        refine mv_get (v := .ref (E.2.2.1 26)) hX hC 37 (Nat.le_of_ble_eq_true rfl) wd_1437 rfl dX12_failing_53 ?_
        refine lv_iload_n hx hb dX12_failing_56 rfl (lv_at hl 1 rfl) ?_
        refine mq_ild (n := 1000) hX hC 26 rfl rfl dX12_failing_57 h (fun z10 h => ?_)
        refine lv_istore (lv' := [(4, .int z10), (0, .ref E.2.1), (3, .int x3)]) hx hb dX12_failing_58 hl (by decide) rfl (fun ls hl => ?_)
        refine lv_aload_n hx hb dX12_failing_60 rfl (lv_at hl 1 rfl) ?_
        refine mv_get (v := .ref (E.2.2.1 25)) hX hC 36 (Nat.le_of_ble_eq_true rfl) wd_1436 rfl dX12_failing_61 ?_
        refine lv_iload_n hx hb dX12_failing_64 rfl (lv_at hl 2 rfl) ?_
        refine mq_ild (n := 1000) hX hC 25 rfl rfl dX12_failing_65 h (fun z11 h => ?_)
        refine lv_istore_n (lv' := [(3, .int z11), (4, .int z10), (0, .ref E.2.1)]) hx hb dX12_failing_66 rfl hl (by decide) rfl (fun ls hl => ?_)
        refine lv_goto (tgt := 5) hx hb dX12_failing_67 (by decide) ?_
        exact ih5 z11 z10 S _ _ _ h hC (lv_sub hl [2, 0, 1] rfl)
      have cut30 : ∀ (x3 : Int32) (x4 : Int32) (S : mS) (H : Heap) (locs : List Loc) (ls : Array Slot), wp_failing_30 K (it (ls_failing_5 K) n5) x3 x4 S → mC E A s.heap S H locs → lv_has ls 5 [(0, .ref E.2.1), (3, .int x3), (4, .int x4)] → W p l e R s m args below meth c H locs 0 0 Q (F0 m 30 ls []) := by
        intro x3 x4 S H locs ls h hC hl
        unfold wp_failing_30 at h
        refine lv_iload hx hb dX12_failing_30 (lv_at hl 2 rfl) ?_
        refine lv_iconst (v := 2) hx hb dX12_failing_32 (by decide) ?_
        refine lv_icmp_ge (tgt := 52) hx hb dX12_failing_33 (by decide) (fun c6 => ?_) (fun c6 => ?_)
        · have h := h.1 c6
          exact cut52 x3 S _ _ _ h hC (lv_sub hl [0, 1] rfl)
        · have h := h.2 c6
          refine lv_aload_n hx hb dX12_failing_36 rfl (lv_at hl 0 rfl) ?_
          refine mv_get (v := .ref (E.2.2.1 29)) hX hC 40 (Nat.le_of_ble_eq_true rfl) wd_1440 rfl dX12_failing_37 ?_
          refine lv_iload_n hx hb dX12_failing_40 rfl (lv_at hl 1 rfl) ?_
          refine mq_zld (n := 1000) hX hC 29 rfl rfl dX12_failing_41 h (fun z7 h => ?_)
          refine lv_if_eq (tgt := 52) hx hb dX12_failing_42 (by decide) (fun c8 => ?_) (fun c8 => ?_)
          · have h := h.1 c8
            exact cut52 x3 S _ _ _ h hC (lv_sub hl [0, 1] rfl)
          · have h := h.2 c8
            refine lv_aload_n hx hb dX12_failing_45 rfl (lv_at hl 0 rfl) ?_
            refine mv_get (v := .ref (E.2.2.1 35)) hX hC 46 (Nat.le_of_ble_eq_true rfl) wd_1446 rfl dX12_failing_46 ?_
            refine lv_iload_n hx hb dX12_failing_49 rfl (lv_at hl 1 rfl) ?_
            refine mq_ild (n := 1000) hX hC 35 rfl rfl dX12_failing_50 h (fun z9 h => ?_)
            exact hret _ _ _ _ _ _ hC h dX12_failing_51
      intro x3 x4 S H locs ls h hC hl
      have h : wp_failing_5 K (it (ls_failing_5 K) n5) x3 x4 S := h
      unfold wp_failing_5 at h
      refine lv_iload_n hx hb dX12_failing_5 rfl (lv_at hl 1 rfl) ?_
      refine lv_if_lt (tgt := 70) hx hb dX12_failing_6 (by decide) (fun c1 => ?_) (fun c1 => ?_)
      · have h := h.1 c1
        refine lv_iconst (v := -1) hx hb dX12_failing_70 (by decide) ?_
        exact hret _ _ _ _ _ _ hC h dX12_failing_71
      · have h := h.2 c1
        refine lv_iload hx hb dX12_failing_9 (lv_at hl 2 rfl) ?_
        refine lv_if_ne (tgt := 30) hx hb dX12_failing_11 (by decide) (fun c2 => ?_) (fun c2 => ?_)
        · have h := h.1 c2
          exact cut30 x3 x4 S _ _ _ h hC (lv_sub hl [0, 1, 2] rfl)
        · have h := h.2 c2
          refine lv_aload_n hx hb dX12_failing_14 rfl (lv_at hl 0 rfl) ?_
          refine mv_get (v := .ref (E.2.2.1 28)) hX hC 39 (Nat.le_of_ble_eq_true rfl) wd_1439 rfl dX12_failing_15 ?_
          refine lv_iload_n hx hb dX12_failing_18 rfl (lv_at hl 1 rfl) ?_
          refine mq_zld (n := 1000) hX hC 28 rfl rfl dX12_failing_19 h (fun z3 h => ?_)
          refine lv_if_eq (tgt := 30) hx hb dX12_failing_20 (by decide) (fun c4 => ?_) (fun c4 => ?_)
          · have h := h.1 c4
            exact cut30 x3 x4 S _ _ _ h hC (lv_sub hl [0, 1, 2] rfl)
          · have h := h.2 c4
            refine lv_aload_n hx hb dX12_failing_23 rfl (lv_at hl 0 rfl) ?_
            refine mv_get (v := .ref (E.2.2.1 34)) hX hC 45 (Nat.le_of_ble_eq_true rfl) wd_1445 rfl dX12_failing_24 ?_
            refine lv_iload_n hx hb dX12_failing_27 rfl (lv_at hl 1 rfl) ?_
            refine mq_ild (n := 1000) hX hC 34 rfl rfl dX12_failing_28 h (fun z5 h => ?_)
            exact hret _ _ _ _ _ _ hC h dX12_failing_29
  have hl : lv_has ls 5 [(0, .ref E.2.1), (1, .int a0), (2, .int a1)] := hl
  unfold wp_failing at h
  refine lv_iload_n hx hb dX12_failing_0 rfl (lv_at hl 1 rfl) ?_
  refine lv_istore_n (lv' := [(3, .int a0), (0, .ref E.2.1), (1, .int a0), (2, .int a1)]) hx hb dX12_failing_1 rfl hl (by decide) rfl (fun ls hl => ?_)
  refine lv_iload_n hx hb dX12_failing_2 rfl (lv_at hl 3 rfl) ?_
  refine lv_istore (lv' := [(4, .int a1), (3, .int a0), (0, .ref E.2.1), (1, .int a0), (2, .int a1)]) hx hb dX12_failing_3 hl (by decide) rfl (fun ls hl => ?_)
  obtain ⟨n9, h⟩ := h
  exact cut5 n9 a0 a1 S _ _ _ h hC (lv_sub hl [2, 1, 0] rfl)
