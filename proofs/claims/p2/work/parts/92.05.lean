theorem wd_353 : (Jvm.Cond.fieldLink "Sleepers$Tables" (87 : Nat) "Sleepers$Scopes" "finishAt" "[I") ∈ tb := tb_at 353 (by decide +kernel) (by decide +kernel)
theorem wd_400 : (Jvm.Cond.fieldLink "Sleepers$Tables" (30 : Nat) "Sleepers$Program" "op" "[I") ∈ tb := tb_at 400 (by decide +kernel) (by decide +kernel)
theorem wd_403 : (Jvm.Cond.fieldLink "Sleepers$Tables" (35 : Nat) "Sleepers$Program" "arg" "[I") ∈ tb := tb_at 403 (by decide +kernel) (by decide +kernel)
theorem wd_407 : (Jvm.Cond.fieldLink "Sleepers$Tables" (62 : Nat) "Sleepers$Program" "scope" "[I") ∈ tb := tb_at 407 (by decide +kernel) (by decide +kernel)
theorem wd_417 : (Jvm.Cond.fieldLink "Sleepers$Tables" (45 : Nat) "Sleepers$Program" "start" "[I") ∈ tb := tb_at 417 (by decide +kernel) (by decide +kernel)
theorem wd_420 : (Jvm.Cond.fieldLink "Sleepers$Tables" (65 : Nat) "Sleepers$Program" "end" "[I") ∈ tb := tb_at 420 (by decide +kernel) (by decide +kernel)
theorem wd_430 : (Jvm.Cond.fieldLink "Sleepers$Tables" (52 : Nat) "Sleepers$Program" "standAt" "[I") ∈ tb := tb_at 430 (by decide +kernel) (by decide +kernel)
theorem wd_806 : (Jvm.Cond.methodLink "Sleepers$Tables" (38 : Nat) ({ cls := "Sleepers$Tables", name := "follow", desc := "(II)V" } : Jvm.MethodName)) ∈ tb := tb_at 806 (by decide +kernel) (by decide +kernel)
theorem wd_808 : (Jvm.Cond.instanceMethod ({ cls := "Sleepers$Tables", name := "follow", desc := "(II)V" } : Jvm.MethodName)) ∈ tb := tb_at 808 (by decide +kernel) (by decide +kernel)
theorem wd_809 : (Jvm.Cond.code ({ cls := "Sleepers$Tables", name := "follow", desc := "(II)V" } : Jvm.MethodName) prog_10_method_6_code (7 : Nat) (Option.none : Option Jvm.ClassFile.FieldType)) ∈ tb := tb_at 809 (by decide +kernel) (by decide +kernel)
theorem wd_835 : (Jvm.Cond.methodLink "Sleepers$Tables" (93 : Nat) ({ cls := "Sleepers$Tables", name := "followFinish", desc := "(II)V" } : Jvm.MethodName)) ∈ tb := tb_at 835 (by decide +kernel) (by decide +kernel)
theorem wd_837 : (Jvm.Cond.instanceMethod ({ cls := "Sleepers$Tables", name := "followFinish", desc := "(II)V" } : Jvm.MethodName)) ∈ tb := tb_at 837 (by decide +kernel) (by decide +kernel)
theorem wd_838 : (Jvm.Cond.code ({ cls := "Sleepers$Tables", name := "followFinish", desc := "(II)V" } : Jvm.MethodName) prog_10_method_7_code (6 : Nat) (Option.none : Option Jvm.ClassFile.FieldType)) ∈ tb := tb_at 838 (by decide +kernel) (by decide +kernel)
theorem sl_X8_follow : Cond.selects RX8 yX8_follow yX8_follow ∈ tb := sl_of (y := ⟨"Sleepers$Tables", "follow", "(II)V"⟩) (n := 5) (by decide +kernel) (by decide +kernel)
theorem sl_X8_followFinish : Cond.selects RX8 yX8_followFinish yX8_followFinish ∈ tb := sl_of (y := ⟨"Sleepers$Tables", "followFinish", "(II)V"⟩) (n := 5) (by decide +kernel) (by decide +kernel)
theorem dX8_follow_0 : decode cX8_follow 0 = .ok (.aload_n 0, 1) := by decide +kernel
theorem dX8_follow_1 : decode cX8_follow 1 = .ok (.getfield 26, 3) := by decide +kernel
theorem dX8_follow_4 : decode cX8_follow 4 = .ok (.getfield 58, 3) := by decide +kernel
theorem dX8_follow_7 : decode cX8_follow 7 = .ok (.astore_n 3, 1) := by decide +kernel
theorem dX8_follow_8 : decode cX8_follow 8 = .ok (.aload_n 0, 1) := by decide +kernel
theorem dX8_follow_9 : decode cX8_follow 9 = .ok (.getfield 26, 3) := by decide +kernel
theorem dX8_follow_12 : decode cX8_follow 12 = .ok (.getfield 62, 3) := by decide +kernel
theorem dX8_follow_15 : decode cX8_follow 15 = .ok (.iload_n 2, 1) := by decide +kernel
theorem dX8_follow_16 : decode cX8_follow 16 = .ok (.iaload, 1) := by decide +kernel
theorem dX8_follow_17 : decode cX8_follow 17 = .ok (.istore 4, 2) := by decide +kernel
theorem dX8_follow_19 : decode cX8_follow 19 = .ok (.aload_n 0, 1) := by decide +kernel
theorem dX8_follow_20 : decode cX8_follow 20 = .ok (.getfield 26, 3) := by decide +kernel
theorem dX8_follow_23 : decode cX8_follow 23 = .ok (.getfield 35, 3) := by decide +kernel
theorem dX8_follow_26 : decode cX8_follow 26 = .ok (.iload_n 2, 1) := by decide +kernel
theorem dX8_follow_27 : decode cX8_follow 27 = .ok (.iaload, 1) := by decide +kernel
theorem dX8_follow_28 : decode cX8_follow 28 = .ok (.istore 5, 2) := by decide +kernel
theorem dX8_follow_30 : decode cX8_follow 30 = .ok (.aload_n 0, 1) := by decide +kernel
theorem dX8_follow_31 : decode cX8_follow 31 = .ok (.getfield 26, 3) := by decide +kernel
theorem dX8_follow_34 : decode cX8_follow 34 = .ok (.getfield 65, 3) := by decide +kernel
theorem dX8_follow_37 : decode cX8_follow 37 = .ok (.iload_n 1, 1) := by decide +kernel
theorem dX8_follow_38 : decode cX8_follow 38 = .ok (.iaload, 1) := by decide +kernel
theorem dX8_follow_39 : decode cX8_follow 39 = .ok (.istore 6, 2) := by decide +kernel
theorem dX8_follow_41 : decode cX8_follow 41 = .ok (.aload_n 0, 1) := by decide +kernel
theorem dX8_follow_42 : decode cX8_follow 42 = .ok (.getfield 26, 3) := by decide +kernel
theorem dX8_follow_45 : decode cX8_follow 45 = .ok (.getfield 30, 3) := by decide +kernel
theorem dX8_follow_48 : decode cX8_follow 48 = .ok (.iload_n 2, 1) := by decide +kernel
theorem dX8_follow_49 : decode cX8_follow 49 = .ok (.iaload, 1) := by decide +kernel
theorem dX8_follow_50 : decode cX8_follow 50 = .ok (.tableswitch 311 9 35 #[156, 156, 311, 311, 311, 311, 193, 209, 218, 233, 248, 178, 263, 311, 297, 308, 311, 311, 311, 311, 311, 311, 311, 311, 311, 311, 122], 122) := by decide +kernel
theorem dX8_follow_172 : decode cX8_follow 172 = .ok (.aload_n 0, 1) := by decide +kernel
theorem dX8_follow_173 : decode cX8_follow 173 = .ok (.aload_n 3, 1) := by decide +kernel
theorem dX8_follow_174 : decode cX8_follow 174 = .ok (.iload 4, 2) := by decide +kernel
theorem dX8_follow_176 : decode cX8_follow 176 = .ok (.iload 6, 2) := by decide +kernel
theorem dX8_follow_178 : decode cX8_follow 178 = .ok (.invokevirtual 68, 3) := by decide +kernel
theorem dX8_follow_181 : decode cX8_follow 181 = .ok (.invokevirtual 48, 3) := by decide +kernel
theorem dX8_follow_184 : decode cX8_follow 184 = .ok (.aload_n 0, 1) := by decide +kernel
theorem dX8_follow_185 : decode cX8_follow 185 = .ok (.aload_n 3, 1) := by decide +kernel
theorem dX8_follow_186 : decode cX8_follow 186 = .ok (.iload 4, 2) := by decide +kernel
theorem dX8_follow_188 : decode cX8_follow 188 = .ok (.iload 6, 2) := by decide +kernel
theorem dX8_follow_190 : decode cX8_follow 190 = .ok (.invokevirtual 74, 3) := by decide +kernel
theorem dX8_follow_193 : decode cX8_follow 193 = .ok (.invokevirtual 48, 3) := by decide +kernel
theorem dX8_follow_196 : decode cX8_follow 196 = .ok (.aload_n 0, 1) := by decide +kernel
theorem dX8_follow_197 : decode cX8_follow 197 = .ok (.iload_n 2, 1) := by decide +kernel
theorem dX8_follow_198 : decode cX8_follow 198 = .ok (.iconst 1, 1) := by decide +kernel
theorem dX8_follow_199 : decode cX8_follow 199 = .ok (.iadd, 1) := by decide +kernel
theorem dX8_follow_200 : decode cX8_follow 200 = .ok (.invokevirtual 48, 3) := by decide +kernel
theorem dX8_follow_203 : decode cX8_follow 203 = .ok (.goto 165, 3) := by decide +kernel
theorem dX8_follow_206 : decode cX8_follow 206 = .ok (.aload_n 0, 1) := by decide +kernel
theorem dX8_follow_207 : decode cX8_follow 207 = .ok (.aload_n 3, 1) := by decide +kernel
theorem dX8_follow_208 : decode cX8_follow 208 = .ok (.iload 4, 2) := by decide +kernel
theorem dX8_follow_210 : decode cX8_follow 210 = .ok (.iload 6, 2) := by decide +kernel
theorem dX8_follow_212 : decode cX8_follow 212 = .ok (.invokevirtual 74, 3) := by decide +kernel
theorem dX8_follow_215 : decode cX8_follow 215 = .ok (.invokevirtual 48, 3) := by decide +kernel
theorem dX8_follow_218 : decode cX8_follow 218 = .ok (.aload_n 0, 1) := by decide +kernel
theorem dX8_follow_219 : decode cX8_follow 219 = .ok (.iload_n 2, 1) := by decide +kernel
theorem dX8_follow_220 : decode cX8_follow 220 = .ok (.iconst 1, 1) := by decide +kernel
theorem dX8_follow_221 : decode cX8_follow 221 = .ok (.iadd, 1) := by decide +kernel
theorem dX8_follow_222 : decode cX8_follow 222 = .ok (.invokevirtual 48, 3) := by decide +kernel
theorem dX8_follow_225 : decode cX8_follow 225 = .ok (.goto 143, 3) := by decide +kernel
theorem dX8_follow_228 : decode cX8_follow 228 = .ok (.aload_n 0, 1) := by decide +kernel
theorem dX8_follow_229 : decode cX8_follow 229 = .ok (.aload_n 3, 1) := by decide +kernel
theorem dX8_follow_230 : decode cX8_follow 230 = .ok (.iload 4, 2) := by decide +kernel
theorem dX8_follow_232 : decode cX8_follow 232 = .ok (.iload 6, 2) := by decide +kernel
theorem dX8_follow_234 : decode cX8_follow 234 = .ok (.invokevirtual 74, 3) := by decide +kernel
theorem dX8_follow_237 : decode cX8_follow 237 = .ok (.invokevirtual 48, 3) := by decide +kernel
theorem dX8_follow_240 : decode cX8_follow 240 = .ok (.goto 128, 3) := by decide +kernel
theorem dX8_follow_243 : decode cX8_follow 243 = .ok (.aload_n 0, 1) := by decide +kernel
theorem dX8_follow_244 : decode cX8_follow 244 = .ok (.iload 5, 2) := by decide +kernel
theorem dX8_follow_246 : decode cX8_follow 246 = .ok (.invokevirtual 48, 3) := by decide +kernel
theorem dX8_follow_249 : decode cX8_follow 249 = .ok (.aload_n 0, 1) := by decide +kernel
theorem dX8_follow_250 : decode cX8_follow 250 = .ok (.iload_n 2, 1) := by decide +kernel
theorem dX8_follow_251 : decode cX8_follow 251 = .ok (.iconst 1, 1) := by decide +kernel
theorem dX8_follow_252 : decode cX8_follow 252 = .ok (.iadd, 1) := by decide +kernel
theorem dX8_follow_253 : decode cX8_follow 253 = .ok (.invokevirtual 48, 3) := by decide +kernel
theorem dX8_follow_256 : decode cX8_follow 256 = .ok (.goto 112, 3) := by decide +kernel
theorem dX8_follow_259 : decode cX8_follow 259 = .ok (.aload_n 0, 1) := by decide +kernel
theorem dX8_follow_260 : decode cX8_follow 260 = .ok (.iload 5, 2) := by decide +kernel
theorem dX8_follow_262 : decode cX8_follow 262 = .ok (.invokevirtual 48, 3) := by decide +kernel
theorem dX8_follow_265 : decode cX8_follow 265 = .ok (.goto 103, 3) := by decide +kernel
theorem dX8_follow_268 : decode cX8_follow 268 = .ok (.aload_n 0, 1) := by decide +kernel
theorem dX8_follow_269 : decode cX8_follow 269 = .ok (.aload_n 3, 1) := by decide +kernel
theorem dX8_follow_270 : decode cX8_follow 270 = .ok (.iload 4, 2) := by decide +kernel
theorem dX8_follow_272 : decode cX8_follow 272 = .ok (.iload 5, 2) := by decide +kernel
theorem dX8_follow_274 : decode cX8_follow 274 = .ok (.invokevirtual 77, 3) := by decide +kernel
theorem dX8_follow_277 : decode cX8_follow 277 = .ok (.invokevirtual 48, 3) := by decide +kernel
theorem dX8_follow_280 : decode cX8_follow 280 = .ok (.goto 88, 3) := by decide +kernel
theorem dX8_follow_283 : decode cX8_follow 283 = .ok (.aload_n 0, 1) := by decide +kernel
theorem dX8_follow_284 : decode cX8_follow 284 = .ok (.aload_n 3, 1) := by decide +kernel
theorem dX8_follow_285 : decode cX8_follow 285 = .ok (.iload 4, 2) := by decide +kernel
theorem dX8_follow_287 : decode cX8_follow 287 = .ok (.iload 5, 2) := by decide +kernel
theorem dX8_follow_289 : decode cX8_follow 289 = .ok (.invokevirtual 80, 3) := by decide +kernel
theorem dX8_follow_292 : decode cX8_follow 292 = .ok (.invokevirtual 48, 3) := by decide +kernel
theorem dX8_follow_295 : decode cX8_follow 295 = .ok (.goto 73, 3) := by decide +kernel
theorem dX8_follow_298 : decode cX8_follow 298 = .ok (.aload_n 0, 1) := by decide +kernel
theorem dX8_follow_299 : decode cX8_follow 299 = .ok (.aload_n 3, 1) := by decide +kernel
theorem dX8_follow_300 : decode cX8_follow 300 = .ok (.iload 4, 2) := by decide +kernel
theorem dX8_follow_302 : decode cX8_follow 302 = .ok (.iload 6, 2) := by decide +kernel
theorem dX8_follow_304 : decode cX8_follow 304 = .ok (.invokevirtual 68, 3) := by decide +kernel
theorem dX8_follow_307 : decode cX8_follow 307 = .ok (.invokevirtual 48, 3) := by decide +kernel
theorem dX8_follow_310 : decode cX8_follow 310 = .ok (.goto 58, 3) := by decide +kernel
theorem dX8_follow_313 : decode cX8_follow 313 = .ok (.aload_n 0, 1) := by decide +kernel
theorem dX8_follow_314 : decode cX8_follow 314 = .ok (.aload_n 3, 1) := by decide +kernel
theorem dX8_follow_315 : decode cX8_follow 315 = .ok (.iload 5, 2) := by decide +kernel
theorem dX8_follow_317 : decode cX8_follow 317 = .ok (.iconst 2, 1) := by decide +kernel
theorem dX8_follow_318 : decode cX8_follow 318 = .ok (.invokevirtual 83, 3) := by decide +kernel
theorem dX8_follow_321 : decode cX8_follow 321 = .ok (.ifCond .eq 13, 3) := by decide +kernel
theorem dX8_follow_324 : decode cX8_follow 324 = .ok (.aload_n 3, 1) := by decide +kernel
theorem dX8_follow_325 : decode cX8_follow 325 = .ok (.getfield 87, 3) := by decide +kernel
theorem dX8_follow_328 : decode cX8_follow 328 = .ok (.iload 5, 2) := by decide +kernel
theorem dX8_follow_330 : decode cX8_follow 330 = .ok (.iaload, 1) := by decide +kernel
theorem dX8_follow_331 : decode cX8_follow 331 = .ok (.goto 10, 3) := by decide +kernel
theorem dX8_follow_334 : decode cX8_follow 334 = .ok (.aload_n 3, 1) := by decide +kernel
theorem dX8_follow_335 : decode cX8_follow 335 = .ok (.getfield 90, 3) := by decide +kernel
theorem dX8_follow_338 : decode cX8_follow 338 = .ok (.iload 5, 2) := by decide +kernel
theorem dX8_follow_340 : decode cX8_follow 340 = .ok (.iaload, 1) := by decide +kernel
theorem dX8_follow_341 : decode cX8_follow 341 = .ok (.invokevirtual 48, 3) := by decide +kernel
theorem dX8_follow_344 : decode cX8_follow 344 = .ok (.goto 24, 3) := by decide +kernel
theorem dX8_follow_347 : decode cX8_follow 347 = .ok (.aload_n 0, 1) := by decide +kernel
theorem dX8_follow_348 : decode cX8_follow 348 = .ok (.iload 5, 2) := by decide +kernel
theorem dX8_follow_350 : decode cX8_follow 350 = .ok (.iload 6, 2) := by decide +kernel
theorem dX8_follow_352 : decode cX8_follow 352 = .ok (.invokevirtual 93, 3) := by decide +kernel
theorem dX8_follow_355 : decode cX8_follow 355 = .ok (.goto 13, 3) := by decide +kernel
theorem dX8_follow_358 : decode cX8_follow 358 = .ok (.goto 10, 3) := by decide +kernel
theorem dX8_follow_361 : decode cX8_follow 361 = .ok (.aload_n 0, 1) := by decide +kernel
theorem dX8_follow_362 : decode cX8_follow 362 = .ok (.iload_n 2, 1) := by decide +kernel
theorem dX8_follow_363 : decode cX8_follow 363 = .ok (.iconst 1, 1) := by decide +kernel
theorem dX8_follow_364 : decode cX8_follow 364 = .ok (.iadd, 1) := by decide +kernel
theorem dX8_follow_365 : decode cX8_follow 365 = .ok (.invokevirtual 48, 3) := by decide +kernel
theorem dX8_follow_368 : decode cX8_follow 368 = .ok (.return_, 1) := by decide +kernel
theorem dX8_set_0 : decode cX8_set 0 = .ok (.aload_n 0, 1) := by decide +kernel
theorem dX8_set_1 : decode cX8_set 1 = .ok (.aload_n 1, 1) := by decide +kernel
theorem dX8_set_2 : decode cX8_set 2 = .ok (.putfield 26, 3) := by decide +kernel
theorem dX8_set_5 : decode cX8_set 5 = .ok (.aload_n 0, 1) := by decide +kernel
theorem dX8_set_6 : decode cX8_set 6 = .ok (.dup, 1) := by decide +kernel
theorem dX8_set_7 : decode cX8_set 7 = .ok (.getfield 42, 3) := by decide +kernel
theorem dX8_set_10 : decode cX8_set 10 = .ok (.iconst 1, 1) := by decide +kernel
theorem dX8_set_11 : decode cX8_set 11 = .ok (.iadd, 1) := by decide +kernel
theorem dX8_set_12 : decode cX8_set 12 = .ok (.putfield 42, 3) := by decide +kernel
theorem dX8_set_15 : decode cX8_set 15 = .ok (.aload_n 0, 1) := by decide +kernel
theorem dX8_set_16 : decode cX8_set 16 = .ok (.iconst 0, 1) := by decide +kernel
theorem dX8_set_17 : decode cX8_set 17 = .ok (.putfield 22, 3) := by decide +kernel
theorem dX8_set_20 : decode cX8_set 20 = .ok (.iload_n 3, 1) := by decide +kernel
theorem dX8_set_21 : decode cX8_set 21 = .ok (.ifCond .ne 19, 3) := by decide +kernel
theorem dX8_set_24 : decode cX8_set 24 = .ok (.aload_n 0, 1) := by decide +kernel
theorem dX8_set_25 : decode cX8_set 25 = .ok (.aload_n 0, 1) := by decide +kernel
theorem dX8_set_26 : decode cX8_set 26 = .ok (.getfield 26, 3) := by decide +kernel
theorem dX8_set_29 : decode cX8_set 29 = .ok (.getfield 45, 3) := by decide +kernel
theorem dX8_set_32 : decode cX8_set 32 = .ok (.iload_n 2, 1) := by decide +kernel
theorem dX8_set_33 : decode cX8_set 33 = .ok (.iaload, 1) := by decide +kernel
theorem dX8_set_34 : decode cX8_set 34 = .ok (.invokevirtual 48, 3) := by decide +kernel
theorem dX8_set_37 : decode cX8_set 37 = .ok (.goto 24, 3) := by decide +kernel
theorem dX8_set_40 : decode cX8_set 40 = .ok (.aload_n 0, 1) := by decide +kernel
theorem dX8_set_41 : decode cX8_set 41 = .ok (.iload_n 2, 1) := by decide +kernel
theorem dX8_set_42 : decode cX8_set 42 = .ok (.aload_n 0, 1) := by decide +kernel
theorem dX8_set_43 : decode cX8_set 43 = .ok (.getfield 26, 3) := by decide +kernel
theorem dX8_set_46 : decode cX8_set 46 = .ok (.getfield 52, 3) := by decide +kernel
theorem dX8_set_49 : decode cX8_set 49 = .ok (.iload_n 2, 1) := by decide +kernel
theorem dX8_set_50 : decode cX8_set 50 = .ok (.bipush 16, 2) := by decide +kernel
theorem dX8_set_52 : decode cX8_set 52 = .ok (.imul, 1) := by decide +kernel
theorem dX8_set_53 : decode cX8_set 53 = .ok (.iload_n 3, 1) := by decide +kernel
theorem dX8_set_54 : decode cX8_set 54 = .ok (.iadd, 1) := by decide +kernel
theorem dX8_set_55 : decode cX8_set 55 = .ok (.iconst 1, 1) := by decide +kernel
theorem dX8_set_56 : decode cX8_set 56 = .ok (.isub, 1) := by decide +kernel
theorem dX8_set_57 : decode cX8_set 57 = .ok (.iaload, 1) := by decide +kernel
theorem dX8_set_58 : decode cX8_set 58 = .ok (.invokevirtual 38, 3) := by decide +kernel
theorem dX8_set_61 : decode cX8_set 61 = .ok (.return_, 1) := by decide +kernel
def wp_X8_follow_341 (K : kS → Prop) (y0 : Nat) (y1 : Int32) (S : kS) : Prop := hasO S y0 8 ∧ wp_X8_reach y0 y1 S (fun (S126 : kS) => K S126)
def wp_X8_follow (t0 : Nat) (a0 : Int32) (a1 : Int32) (S : kS) (K : kS → Prop) : Prop := hasO S t0 8 ∧ ∀ z1 : Option Nat, z1 = S.2.1 55 t0 → ∃ q2 : Nat, z1 = some q2 ∧ hasO S q2 5 ∧ ∀ z3 : Option Nat, z3 = S.2.1 31 q2 → hasO S t0 8 ∧ ∀ z4 : Option Nat, z4 = S.2.1 55 t0 → ∃ q5 : Nat, z4 = some q5 ∧ hasO S q5 5 ∧ ∀ z6 : Option Nat, z6 = S.2.1 30 q5 → ∃ q7 : Nat, z6 = some q7 ∧ hasA S q7 8064 0 ∧ inR a1 8064 ∧ ∀ z8 : Int32, z8 = S.2.2.1 q7 (ix a1) → hasO S t0 8 ∧ ∀ z9 : Option Nat, z9 = S.2.1 55 t0 → ∃ q10 : Nat, z9 = some q10 ∧ hasO S q10 5 ∧ ∀ z11 : Option Nat, z11 = S.2.1 29 q10 → ∃ q12 : Nat, z11 = some q12 ∧ hasA S q12 8064 0 ∧ inR a1 8064 ∧ ∀ z13 : Int32, z13 = S.2.2.1 q12 (ix a1) → hasO S t0 8 ∧ ∀ z14 : Option Nat, z14 = S.2.1 55 t0 → ∃ q15 : Nat, z14 = some q15 ∧ hasO S q15 5 ∧ ∀ z16 : Option Nat, z16 = S.2.1 33 q15 → ∃ q17 : Nat, z16 = some q17 ∧ hasA S q17 12 0 ∧ inR a0 12 ∧ ∀ z18 : Int32, z18 = S.2.2.1 q17 (ix a0) → hasO S t0 8 ∧ ∀ z19 : Option Nat, z19 = S.2.1 55 t0 → ∃ q20 : Nat, z19 = some q20 ∧ hasO S q20 5 ∧ ∀ z21 : Option Nat, z21 = S.2.1 28 q20 → ∃ q22 : Nat, z21 = some q22 ∧ hasA S q22 8064 0 ∧ inR a1 8064 ∧ ∀ z23 : Int32, z23 = S.2.2.1 q22 (ix a1) → ((z23 = 9 → ∃ q25 : Nat, z3 = some q25 ∧ hasO S q25 7 ∧ wp_X7_failureTo q25 z8 z18 S (fun (S26 : kS) (r26 : Int32) => hasO S26 t0 8 ∧ wp_X8_reach t0 r26 S26 (fun (S27 : kS) => ∀ z28 : Int32, z28 = a1 + 1 → hasO S27 t0 8 ∧ wp_X8_reach t0 z28 S27 (fun (S29 : kS) => K S29)))) ∧ (¬ z23 = 9 → ((z23 = 10 → ∃ q31 : Nat, z3 = some q31 ∧ hasO S q31 7 ∧ wp_X7_failureTo q31 z8 z18 S (fun (S32 : kS) (r32 : Int32) => hasO S32 t0 8 ∧ wp_X8_reach t0 r32 S32 (fun (S33 : kS) => ∀ z34 : Int32, z34 = a1 + 1 → hasO S33 t0 8 ∧ wp_X8_reach t0 z34 S33 (fun (S35 : kS) => K S35)))) ∧ (¬ z23 = 10 → ((z23 = 11 → ∀ z37 : Int32, z37 = a1 + 1 → hasO S t0 8 ∧ wp_X8_reach t0 z37 S (fun (S38 : kS) => K S38)) ∧ (¬ z23 = 11 → ((z23 = 12 → ∀ z40 : Int32, z40 = a1 + 1 → hasO S t0 8 ∧ wp_X8_reach t0 z40 S (fun (S41 : kS) => K S41)) ∧ (¬ z23 = 12 → ((z23 = 13 → ∀ z43 : Int32, z43 = a1 + 1 → hasO S t0 8 ∧ wp_X8_reach t0 z43 S (fun (S44 : kS) => K S44)) ∧ (¬ z23 = 13 → ((z23 = 14 → ∀ z46 : Int32, z46 = a1 + 1 → hasO S t0 8 ∧ wp_X8_reach t0 z46 S (fun (S47 : kS) => K S47)) ∧ (¬ z23 = 14 → ((z23 = 15 → hasO S t0 8 ∧ wp_X8_reach t0 z13 S (fun (S49 : kS) => ∀ z50 : Int32, z50 = a1 + 1 → hasO S49 t0 8 ∧ wp_X8_reach t0 z50 S49 (fun (S51 : kS) => K S51))) ∧ (¬ z23 = 15 → ((z23 = 16 → hasO S t0 8 ∧ wp_X8_reach t0 z13 S (fun (S53 : kS) => K S53)) ∧ (¬ z23 = 16 → ((z23 = 17 → ∃ q55 : Nat, z3 = some q55 ∧ hasO S q55 7 ∧ wp_X7_breakTo q55 z8 z13 S (fun (S56 : kS) (r56 : Int32) => hasO S56 t0 8 ∧ wp_X8_reach t0 r56 S56 (fun (S57 : kS) => K S57))) ∧ (¬ z23 = 17 → ((z23 = 18 → ∃ q59 : Nat, z3 = some q59 ∧ hasO S q59 7 ∧ wp_X7_continueTo q59 z8 z13 S (fun (S60 : kS) (r60 : Int32) => hasO S60 t0 8 ∧ wp_X8_reach t0 r60 S60 (fun (S61 : kS) => K S61))) ∧ (¬ z23 = 18 → ((z23 = 19 → ∃ q63 : Nat, z3 = some q63 ∧ hasO S q63 7 ∧ wp_X7_cancelTo q63 z8 z18 S (fun (S64 : kS) (r64 : Int32) => hasO S64 t0 8 ∧ wp_X8_reach t0 r64 S64 (fun (S65 : kS) => K S65))) ∧ (¬ z23 = 19 → ((z23 = 20 → ∃ q67 : Nat, z3 = some q67 ∧ hasO S q67 7 ∧ wp_X7_failureTo q67 z8 z18 S (fun (S68 : kS) (r68 : Int32) => hasO S68 t0 8 ∧ wp_X8_reach t0 r68 S68 (fun (S69 : kS) => K S69))) ∧ (¬ z23 = 20 → ((z23 = 21 → ∃ q71 : Nat, z3 = some q71 ∧ hasO S q71 7 ∧ wp_X7_is q71 z13 2 S (fun (S72 : kS) (r72 : Int32) => ((r72 = 0 → hasO S72 q71 7 ∧ ∀ z74 : Option Nat, z74 = S72.2.1 48 q71 → ∃ q75 : Nat, z74 = some q75 ∧ hasA S72 q75 460 0 ∧ inR z13 460 ∧ ∀ z76 : Int32, z76 = S72.2.2.1 q75 (ix z13) → wp_X8_follow_341 K t0 z76 S72) ∧ (¬ r72 = 0 → hasO S72 q71 7 ∧ ∀ z77 : Option Nat, z77 = S72.2.1 47 q71 → ∃ q78 : Nat, z77 = some q78 ∧ hasA S72 q78 460 0 ∧ inR z13 460 ∧ ∀ z79 : Int32, z79 = S72.2.2.1 q78 (ix z13) → wp_X8_follow_341 K t0 z79 S72)))) ∧ (¬ z23 = 21 → ((z23 = 22 → ∀ z81 : Int32, z81 = a1 + 1 → hasO S t0 8 ∧ wp_X8_reach t0 z81 S (fun (S82 : kS) => K S82)) ∧ (¬ z23 = 22 → ((z23 = 23 → hasO S t0 8 ∧ wp_X8_followFinish t0 z13 z18 S (fun (S84 : kS) => K S84)) ∧ (¬ z23 = 23 → ((z23 = 24 → K S) ∧ (¬ z23 = 24 → ((z23 = 25 → ∀ z87 : Int32, z87 = a1 + 1 → hasO S t0 8 ∧ wp_X8_reach t0 z87 S (fun (S88 : kS) => K S88)) ∧ (¬ z23 = 25 → ((z23 = 26 → ∀ z90 : Int32, z90 = a1 + 1 → hasO S t0 8 ∧ wp_X8_reach t0 z90 S (fun (S91 : kS) => K S91)) ∧ (¬ z23 = 26 → ((z23 = 27 → ∀ z93 : Int32, z93 = a1 + 1 → hasO S t0 8 ∧ wp_X8_reach t0 z93 S (fun (S94 : kS) => K S94)) ∧ (¬ z23 = 27 → ((z23 = 28 → ∀ z96 : Int32, z96 = a1 + 1 → hasO S t0 8 ∧ wp_X8_reach t0 z96 S (fun (S97 : kS) => K S97)) ∧ (¬ z23 = 28 → ((z23 = 29 → ∀ z99 : Int32, z99 = a1 + 1 → hasO S t0 8 ∧ wp_X8_reach t0 z99 S (fun (S100 : kS) => K S100)) ∧ (¬ z23 = 29 → ((z23 = 30 → ∀ z102 : Int32, z102 = a1 + 1 → hasO S t0 8 ∧ wp_X8_reach t0 z102 S (fun (S103 : kS) => K S103)) ∧ (¬ z23 = 30 → ((z23 = 31 → ∀ z105 : Int32, z105 = a1 + 1 → hasO S t0 8 ∧ wp_X8_reach t0 z105 S (fun (S106 : kS) => K S106)) ∧ (¬ z23 = 31 → ((z23 = 32 → ∀ z108 : Int32, z108 = a1 + 1 → hasO S t0 8 ∧ wp_X8_reach t0 z108 S (fun (S109 : kS) => K S109)) ∧ (¬ z23 = 32 → ((z23 = 33 → ∀ z111 : Int32, z111 = a1 + 1 → hasO S t0 8 ∧ wp_X8_reach t0 z111 S (fun (S112 : kS) => K S112)) ∧ (¬ z23 = 33 → ((z23 = 34 → ∀ z114 : Int32, z114 = a1 + 1 → hasO S t0 8 ∧ wp_X8_reach t0 z114 S (fun (S115 : kS) => K S115)) ∧ (¬ z23 = 34 → ((z23 = 35 → ∃ q117 : Nat, z3 = some q117 ∧ hasO S q117 7 ∧ wp_X7_cancelTo q117 z8 z18 S (fun (S118 : kS) (r118 : Int32) => hasO S118 t0 8 ∧ wp_X8_reach t0 r118 S118 (fun (S119 : kS) => hasO S119 q117 7 ∧ wp_X7_failureTo q117 z8 z18 S119 (fun (S120 : kS) (r120 : Int32) => hasO S120 t0 8 ∧ wp_X8_reach t0 r120 S120 (fun (S121 : kS) => ∀ z122 : Int32, z122 = a1 + 1 → hasO S121 t0 8 ∧ wp_X8_reach t0 z122 S121 (fun (S123 : kS) => K S123)))))) ∧ (¬ z23 = 35 → ∀ z124 : Int32, z124 = a1 + 1 → hasO S t0 8 ∧ wp_X8_reach t0 z124 S (fun (S125 : kS) => K S125)))))))))))))))))))))))))))))))))))))))))))))))))))))))
theorem cw_X8_93 {R : Room} {s : State} {args : Array Value} {fr lo : Nat} (hts : ∀ w ∈ tb, w.before args s = true) (h1 : fr + 1 ≤ R.frames) (h2 : 8 + (6 + 11) + lo ≤ R.locals) : CallW R s args RX8 RX8 93 yX8_followFinish cX8_followFinish 6 none (.code yX8_followFinish cX8_followFinish 6 none :: tb) (mRm fr lo) 0 0 2 := cwV 2 hts (gd_V wd_835 wd_837 sl_X8_followFinish wd_8 wd_838) rfl rfl rfl (by decide +kernel) ⟨h1, h2⟩
set_option maxHeartbeats 4000000 in
set_option maxRecDepth 100000 in
theorem kt_X8_follow (l : Launch) (S : kS) (t0 : Nat) (a0 : Int32) (a1 : Int32) (K : kS → Prop) (h : wp_X8_follow t0 a0 a1 S K) : kMv l yX8_follow cX8_follow 7 none 4 95 [.ref t0, .int a0, .int a1] S K := by
  refine kv_ofv (own := RX8) (by decide) rfl (Nat.le_of_ble_eq_true rfl) ?_
  intro E p e R s m args below meth c A ls Q hRf hRl hX hC hl hret
  have hx := hX.1.1
  have hb := hX.1.2.1
  have hown := hX.1.2.2.2.1
  have hts := hX.1.2.2.2.2
  have cut341 : ∀ (y0 : Nat) (y1 : Int32) (S : kS) (H : Heap) (locs : List Loc) (ls : Array Slot), wp_X8_follow_341 K y0 y1 S → cM E A s.heap S H locs → lv_has ls 7 [] → W p l e R s m args below meth c H locs 0 0 Q (F0 m 341 ls [.int y1, .ref y0]) := by
    intro y0 y1 S H locs ls h hC hl
    unfold wp_X8_follow_341 at h
    refine kv_callv [.int y1] (rest := []) (ci := 8) rfl hX hC h.1 (kt_X8_reach l S y0 y1 _ h.2 E _) (cw_X8_48 hts (by omega) (by omega)) rfl hl.1 (Nat.le_of_ble_eq_true rfl) ⟨Nat.zero_le _, Nat.zero_le _⟩ dX8_follow_341 (fun S126 H locs hC h => ?_)
    refine lv_goto (tgt := 368) hx hb dX8_follow_344 (by decide) ?_
    exact hret _ _ _ _ _ hC h dX8_follow_368
  have hl : lv_has ls 7 [(0, .ref t0), (1, .int a0), (2, .int a1)] := hl
  unfold wp_X8_follow at h
  refine lv_aload_n hx hb dX8_follow_0 rfl (lv_at hl 0 rfl) ?_
  refine cq_getr (ci := 8) (k := 4) (f := 55) hX hC rfl in_X8 (by decide) wd_181 (fun _ h9 => h9) (fun _ _ => rfl) dX8_follow_1 h (fun z1 h => ?_)
  obtain ⟨q2, e9, hh⟩ := h
  subst e9
  have h := hh
  clear hh
  refine cq_getr (ci := 5) (k := 4) (f := 31) hX hC rfl in_X5 (by decide) wd_411 (fun _ h9 => h9) (fun _ _ => rfl) dX8_follow_4 h (fun z3 h => ?_)
  refine lo_astore_n (lv' := [(3, va_rf z3), (0, .ref t0), (1, .int a0), (2, .int a1)]) hx hb dX8_follow_7 rfl hl (by decide) (by rcases z3 with _ | _ <;> rfl) (fun ls hl => ?_)
  refine lv_aload_n hx hb dX8_follow_8 rfl (lv_at hl 1 rfl) ?_
  refine cq_getr (ci := 8) (k := 4) (f := 55) hX hC rfl in_X8 (by decide) wd_181 (fun _ h9 => h9) (fun _ _ => rfl) dX8_follow_9 h (fun z4 h => ?_)
  obtain ⟨q5, e9, hh⟩ := h
  subst e9
  have h := hh
  clear hh
  refine cq_getr (ci := 5) (k := 3) (f := 30) hX hC rfl in_X5 (by decide) wd_407 (fun _ h9 => h9) (fun _ _ => rfl) dX8_follow_12 h (fun z6 h => ?_)
  refine lv_iload_n hx hb dX8_follow_15 rfl (lv_at hl 3 rfl) ?_
  obtain ⟨q7, e9, hh⟩ := h
  subst e9
  have h := hh
  clear hh
  refine cq_ild hX hC dX8_follow_16 h (fun z8 h => ?_)
  refine lv_istore (lv' := [(4, .int z8), (3, va_rf z3), (0, .ref t0), (1, .int a0), (2, .int a1)]) hx hb dX8_follow_17 hl (by decide) (by rcases z3 with _ | _ <;> rfl) (fun ls hl => ?_)
  refine lv_aload_n hx hb dX8_follow_19 rfl (lv_at hl 2 rfl) ?_
  refine cq_getr (ci := 8) (k := 4) (f := 55) hX hC rfl in_X8 (by decide) wd_181 (fun _ h9 => h9) (fun _ _ => rfl) dX8_follow_20 h (fun z9 h => ?_)
  obtain ⟨q10, e9, hh⟩ := h
  subst e9
  have h := hh
  clear hh
  refine cq_getr (ci := 5) (k := 2) (f := 29) hX hC rfl in_X5 (by decide) wd_403 (fun _ h9 => h9) (fun _ _ => rfl) dX8_follow_23 h (fun z11 h => ?_)
  refine lv_iload_n hx hb dX8_follow_26 rfl (lv_at hl 4 rfl) ?_
  obtain ⟨q12, e9, hh⟩ := h
  subst e9
  have h := hh
  clear hh
  refine cq_ild hX hC dX8_follow_27 h (fun z13 h => ?_)
  refine lv_istore (lv' := [(5, .int z13), (4, .int z8), (3, va_rf z3), (0, .ref t0), (1, .int a0), (2, .int a1)]) hx hb dX8_follow_28 hl (by decide) (by rcases z3 with _ | _ <;> rfl) (fun ls hl => ?_)
  refine lv_aload_n hx hb dX8_follow_30 rfl (lv_at hl 3 rfl) ?_
  refine cq_getr (ci := 8) (k := 4) (f := 55) hX hC rfl in_X8 (by decide) wd_181 (fun _ h9 => h9) (fun _ _ => rfl) dX8_follow_31 h (fun z14 h => ?_)
  obtain ⟨q15, e9, hh⟩ := h
  subst e9
  have h := hh
  clear hh
  refine cq_getr (ci := 5) (k := 7) (f := 33) hX hC rfl in_X5 (by decide) wd_420 (fun _ h9 => h9) (fun _ _ => rfl) dX8_follow_34 h (fun z16 h => ?_)
  refine lv_iload_n hx hb dX8_follow_37 rfl (lv_at hl 4 rfl) ?_
  obtain ⟨q17, e9, hh⟩ := h
  subst e9
  have h := hh
  clear hh
  refine cq_ild hX hC dX8_follow_38 h (fun z18 h => ?_)
  refine lv_istore (lv' := [(6, .int z18), (5, .int z13), (4, .int z8), (3, va_rf z3), (0, .ref t0), (1, .int a0), (2, .int a1)]) hx hb dX8_follow_39 hl (by decide) (by rcases z3 with _ | _ <;> rfl) (fun ls hl => ?_)
  refine lv_aload_n hx hb dX8_follow_41 rfl (lv_at hl 4 rfl) ?_
  refine cq_getr (ci := 8) (k := 4) (f := 55) hX hC rfl in_X8 (by decide) wd_181 (fun _ h9 => h9) (fun _ _ => rfl) dX8_follow_42 h (fun z19 h => ?_)
  obtain ⟨q20, e9, hh⟩ := h
  subst e9
  have h := hh
  clear hh
  refine cq_getr (ci := 5) (k := 1) (f := 28) hX hC rfl in_X5 (by decide) wd_400 (fun _ h9 => h9) (fun _ _ => rfl) dX8_follow_45 h (fun z21 h => ?_)
  refine lv_iload_n hx hb dX8_follow_48 rfl (lv_at hl 6 rfl) ?_
  obtain ⟨q22, e9, hh⟩ := h
  subst e9
  have h := hh
  clear hh
  refine cq_ild hX hC dX8_follow_49 h (fun z23 h => ?_)
  rcases Decidable.em (z23 = 9) with c24 | c24
  · have h := h.1 c24
    refine lv_tableIn (tgt := 206) hx hb dX8_follow_50 (by rw [c24]; decide) (by rw [c24]; decide) (by rw [c24]; rfl) (by decide) ?_
    refine lv_aload_n hx hb dX8_follow_206 rfl (lv_at hl 4 rfl) ?_
    refine lo_aload_n hx hb dX8_follow_207 rfl (lv_at hl 3 rfl) ?_
    refine lv_iload hx hb dX8_follow_208 (lv_at hl 2 rfl) ?_
    refine lv_iload hx hb dX8_follow_210 (lv_at hl 0 rfl) ?_
    obtain ⟨q25, e9, hh⟩ := h
    subst e9
    have h := hh
    clear hh
    refine kv_calli [.int z8, .int z18] (rest := [.ref t0]) (ci := 7) rfl hX hC h.1 (kt_X7_failureTo l S q25 z8 z18 _ h.2 E _) (cw_X8_74 hts (by omega) (by omega)) rfl hl.1 (Nat.le_of_ble_eq_true rfl) ⟨Nat.zero_le _, Nat.zero_le _⟩ dX8_follow_212 (fun r26 S26 H locs hC h => ?_)
    refine kv_callv [.int r26] (rest := []) (ci := 8) rfl hX hC h.1 (kt_X8_reach l S26 t0 r26 _ h.2 E _) (cw_X8_48 hts (by omega) (by omega)) rfl hl.1 (Nat.le_of_ble_eq_true rfl) ⟨Nat.zero_le _, Nat.zero_le _⟩ dX8_follow_215 (fun S27 H locs hC h => ?_)
    refine lv_aload_n hx hb dX8_follow_218 rfl (lv_at hl 4 rfl) ?_
    refine lv_iload_n hx hb dX8_follow_219 rfl (lv_at hl 6 rfl) ?_
    refine lv_iconst (v := 1) hx hb dX8_follow_220 (by decide) ?_
    refine lq_iadd hx hb dX8_follow_221 h (fun z28 h => ?_)
    refine kv_callv [.int z28] (rest := []) (ci := 8) rfl hX hC h.1 (kt_X8_reach l S27 t0 z28 _ h.2 E _) (cw_X8_48 hts (by omega) (by omega)) rfl hl.1 (Nat.le_of_ble_eq_true rfl) ⟨Nat.zero_le _, Nat.zero_le _⟩ dX8_follow_222 (fun S29 H locs hC h => ?_)
    refine lv_goto (tgt := 368) hx hb dX8_follow_225 (by decide) ?_
    exact hret _ _ _ _ _ hC h dX8_follow_368
  have h := h.2 c24
  rcases Decidable.em (z23 = 10) with c30 | c30
  · have h := h.1 c30
    refine lv_tableIn (tgt := 206) hx hb dX8_follow_50 (by rw [c30]; decide) (by rw [c30]; decide) (by rw [c30]; rfl) (by decide) ?_
    refine lv_aload_n hx hb dX8_follow_206 rfl (lv_at hl 4 rfl) ?_
    refine lo_aload_n hx hb dX8_follow_207 rfl (lv_at hl 3 rfl) ?_
    refine lv_iload hx hb dX8_follow_208 (lv_at hl 2 rfl) ?_
    refine lv_iload hx hb dX8_follow_210 (lv_at hl 0 rfl) ?_
    obtain ⟨q31, e9, hh⟩ := h
    subst e9
    have h := hh
    clear hh
    refine kv_calli [.int z8, .int z18] (rest := [.ref t0]) (ci := 7) rfl hX hC h.1 (kt_X7_failureTo l S q31 z8 z18 _ h.2 E _) (cw_X8_74 hts (by omega) (by omega)) rfl hl.1 (Nat.le_of_ble_eq_true rfl) ⟨Nat.zero_le _, Nat.zero_le _⟩ dX8_follow_212 (fun r32 S32 H locs hC h => ?_)
    refine kv_callv [.int r32] (rest := []) (ci := 8) rfl hX hC h.1 (kt_X8_reach l S32 t0 r32 _ h.2 E _) (cw_X8_48 hts (by omega) (by omega)) rfl hl.1 (Nat.le_of_ble_eq_true rfl) ⟨Nat.zero_le _, Nat.zero_le _⟩ dX8_follow_215 (fun S33 H locs hC h => ?_)
    refine lv_aload_n hx hb dX8_follow_218 rfl (lv_at hl 4 rfl) ?_
    refine lv_iload_n hx hb dX8_follow_219 rfl (lv_at hl 6 rfl) ?_
    refine lv_iconst (v := 1) hx hb dX8_follow_220 (by decide) ?_
    refine lq_iadd hx hb dX8_follow_221 h (fun z34 h => ?_)
    refine kv_callv [.int z34] (rest := []) (ci := 8) rfl hX hC h.1 (kt_X8_reach l S33 t0 z34 _ h.2 E _) (cw_X8_48 hts (by omega) (by omega)) rfl hl.1 (Nat.le_of_ble_eq_true rfl) ⟨Nat.zero_le _, Nat.zero_le _⟩ dX8_follow_222 (fun S35 H locs hC h => ?_)
    refine lv_goto (tgt := 368) hx hb dX8_follow_225 (by decide) ?_
    exact hret _ _ _ _ _ hC h dX8_follow_368
  have h := h.2 c30
  rcases Decidable.em (z23 = 11) with c36 | c36
  · have h := h.1 c36
    refine lv_tableIn (tgt := 361) hx hb dX8_follow_50 (by rw [c36]; decide) (by rw [c36]; decide) (by rw [c36]; rfl) (by decide) ?_
    refine lv_aload_n hx hb dX8_follow_361 rfl (lv_at hl 4 rfl) ?_
    refine lv_iload_n hx hb dX8_follow_362 rfl (lv_at hl 6 rfl) ?_
    refine lv_iconst (v := 1) hx hb dX8_follow_363 (by decide) ?_
    refine lq_iadd hx hb dX8_follow_364 h (fun z37 h => ?_)
    refine kv_callv [.int z37] (rest := []) (ci := 8) rfl hX hC h.1 (kt_X8_reach l S t0 z37 _ h.2 E _) (cw_X8_48 hts (by omega) (by omega)) rfl hl.1 (Nat.le_of_ble_eq_true rfl) ⟨Nat.zero_le _, Nat.zero_le _⟩ dX8_follow_365 (fun S38 H locs hC h => ?_)
    exact hret _ _ _ _ _ hC h dX8_follow_368
  have h := h.2 c36
  rcases Decidable.em (z23 = 12) with c39 | c39
  · have h := h.1 c39
    refine lv_tableIn (tgt := 361) hx hb dX8_follow_50 (by rw [c39]; decide) (by rw [c39]; decide) (by rw [c39]; rfl) (by decide) ?_
    refine lv_aload_n hx hb dX8_follow_361 rfl (lv_at hl 4 rfl) ?_
    refine lv_iload_n hx hb dX8_follow_362 rfl (lv_at hl 6 rfl) ?_
    refine lv_iconst (v := 1) hx hb dX8_follow_363 (by decide) ?_
    refine lq_iadd hx hb dX8_follow_364 h (fun z40 h => ?_)
    refine kv_callv [.int z40] (rest := []) (ci := 8) rfl hX hC h.1 (kt_X8_reach l S t0 z40 _ h.2 E _) (cw_X8_48 hts (by omega) (by omega)) rfl hl.1 (Nat.le_of_ble_eq_true rfl) ⟨Nat.zero_le _, Nat.zero_le _⟩ dX8_follow_365 (fun S41 H locs hC h => ?_)
    exact hret _ _ _ _ _ hC h dX8_follow_368
  have h := h.2 c39
  rcases Decidable.em (z23 = 13) with c42 | c42
  · have h := h.1 c42
    refine lv_tableIn (tgt := 361) hx hb dX8_follow_50 (by rw [c42]; decide) (by rw [c42]; decide) (by rw [c42]; rfl) (by decide) ?_
    refine lv_aload_n hx hb dX8_follow_361 rfl (lv_at hl 4 rfl) ?_
    refine lv_iload_n hx hb dX8_follow_362 rfl (lv_at hl 6 rfl) ?_
    refine lv_iconst (v := 1) hx hb dX8_follow_363 (by decide) ?_
    refine lq_iadd hx hb dX8_follow_364 h (fun z43 h => ?_)
    refine kv_callv [.int z43] (rest := []) (ci := 8) rfl hX hC h.1 (kt_X8_reach l S t0 z43 _ h.2 E _) (cw_X8_48 hts (by omega) (by omega)) rfl hl.1 (Nat.le_of_ble_eq_true rfl) ⟨Nat.zero_le _, Nat.zero_le _⟩ dX8_follow_365 (fun S44 H locs hC h => ?_)
    exact hret _ _ _ _ _ hC h dX8_follow_368
  have h := h.2 c42
  rcases Decidable.em (z23 = 14) with c45 | c45
  · have h := h.1 c45
    refine lv_tableIn (tgt := 361) hx hb dX8_follow_50 (by rw [c45]; decide) (by rw [c45]; decide) (by rw [c45]; rfl) (by decide) ?_
    refine lv_aload_n hx hb dX8_follow_361 rfl (lv_at hl 4 rfl) ?_
    refine lv_iload_n hx hb dX8_follow_362 rfl (lv_at hl 6 rfl) ?_
    refine lv_iconst (v := 1) hx hb dX8_follow_363 (by decide) ?_
    refine lq_iadd hx hb dX8_follow_364 h (fun z46 h => ?_)
    refine kv_callv [.int z46] (rest := []) (ci := 8) rfl hX hC h.1 (kt_X8_reach l S t0 z46 _ h.2 E _) (cw_X8_48 hts (by omega) (by omega)) rfl hl.1 (Nat.le_of_ble_eq_true rfl) ⟨Nat.zero_le _, Nat.zero_le _⟩ dX8_follow_365 (fun S47 H locs hC h => ?_)
    exact hret _ _ _ _ _ hC h dX8_follow_368
  have h := h.2 c45
  rcases Decidable.em (z23 = 15) with c48 | c48
  · have h := h.1 c48
    refine lv_tableIn (tgt := 243) hx hb dX8_follow_50 (by rw [c48]; decide) (by rw [c48]; decide) (by rw [c48]; rfl) (by decide) ?_
    refine lv_aload_n hx hb dX8_follow_243 rfl (lv_at hl 4 rfl) ?_
    refine lv_iload hx hb dX8_follow_244 (lv_at hl 1 rfl) ?_
    refine kv_callv [.int z13] (rest := []) (ci := 8) rfl hX hC h.1 (kt_X8_reach l S t0 z13 _ h.2 E _) (cw_X8_48 hts (by omega) (by omega)) rfl hl.1 (Nat.le_of_ble_eq_true rfl) ⟨Nat.zero_le _, Nat.zero_le _⟩ dX8_follow_246 (fun S49 H locs hC h => ?_)
    refine lv_aload_n hx hb dX8_follow_249 rfl (lv_at hl 4 rfl) ?_
    refine lv_iload_n hx hb dX8_follow_250 rfl (lv_at hl 6 rfl) ?_
    refine lv_iconst (v := 1) hx hb dX8_follow_251 (by decide) ?_
    refine lq_iadd hx hb dX8_follow_252 h (fun z50 h => ?_)
    refine kv_callv [.int z50] (rest := []) (ci := 8) rfl hX hC h.1 (kt_X8_reach l S49 t0 z50 _ h.2 E _) (cw_X8_48 hts (by omega) (by omega)) rfl hl.1 (Nat.le_of_ble_eq_true rfl) ⟨Nat.zero_le _, Nat.zero_le _⟩ dX8_follow_253 (fun S51 H locs hC h => ?_)
    refine lv_goto (tgt := 368) hx hb dX8_follow_256 (by decide) ?_
    exact hret _ _ _ _ _ hC h dX8_follow_368
  have h := h.2 c48
  rcases Decidable.em (z23 = 16) with c52 | c52
  · have h := h.1 c52
    refine lv_tableIn (tgt := 259) hx hb dX8_follow_50 (by rw [c52]; decide) (by rw [c52]; decide) (by rw [c52]; rfl) (by decide) ?_
    refine lv_aload_n hx hb dX8_follow_259 rfl (lv_at hl 4 rfl) ?_
    refine lv_iload hx hb dX8_follow_260 (lv_at hl 1 rfl) ?_
    refine kv_callv [.int z13] (rest := []) (ci := 8) rfl hX hC h.1 (kt_X8_reach l S t0 z13 _ h.2 E _) (cw_X8_48 hts (by omega) (by omega)) rfl hl.1 (Nat.le_of_ble_eq_true rfl) ⟨Nat.zero_le _, Nat.zero_le _⟩ dX8_follow_262 (fun S53 H locs hC h => ?_)
    refine lv_goto (tgt := 368) hx hb dX8_follow_265 (by decide) ?_
    exact hret _ _ _ _ _ hC h dX8_follow_368
  have h := h.2 c52
  rcases Decidable.em (z23 = 17) with c54 | c54
  · have h := h.1 c54
    refine lv_tableIn (tgt := 268) hx hb dX8_follow_50 (by rw [c54]; decide) (by rw [c54]; decide) (by rw [c54]; rfl) (by decide) ?_
    refine lv_aload_n hx hb dX8_follow_268 rfl (lv_at hl 4 rfl) ?_
    refine lo_aload_n hx hb dX8_follow_269 rfl (lv_at hl 3 rfl) ?_
    refine lv_iload hx hb dX8_follow_270 (lv_at hl 2 rfl) ?_
    refine lv_iload hx hb dX8_follow_272 (lv_at hl 1 rfl) ?_
    obtain ⟨q55, e9, hh⟩ := h
    subst e9
    have h := hh
    clear hh
    refine kv_calli [.int z8, .int z13] (rest := [.ref t0]) (ci := 7) rfl hX hC h.1 (kt_X7_breakTo l S q55 z8 z13 _ h.2 E _) (cw_X8_77 hts (by omega) (by omega)) rfl hl.1 (Nat.le_of_ble_eq_true rfl) ⟨Nat.zero_le _, Nat.zero_le _⟩ dX8_follow_274 (fun r56 S56 H locs hC h => ?_)
    refine kv_callv [.int r56] (rest := []) (ci := 8) rfl hX hC h.1 (kt_X8_reach l S56 t0 r56 _ h.2 E _) (cw_X8_48 hts (by omega) (by omega)) rfl hl.1 (Nat.le_of_ble_eq_true rfl) ⟨Nat.zero_le _, Nat.zero_le _⟩ dX8_follow_277 (fun S57 H locs hC h => ?_)
    refine lv_goto (tgt := 368) hx hb dX8_follow_280 (by decide) ?_
    exact hret _ _ _ _ _ hC h dX8_follow_368
  have h := h.2 c54
  rcases Decidable.em (z23 = 18) with c58 | c58
  · have h := h.1 c58
    refine lv_tableIn (tgt := 283) hx hb dX8_follow_50 (by rw [c58]; decide) (by rw [c58]; decide) (by rw [c58]; rfl) (by decide) ?_
    refine lv_aload_n hx hb dX8_follow_283 rfl (lv_at hl 4 rfl) ?_
    refine lo_aload_n hx hb dX8_follow_284 rfl (lv_at hl 3 rfl) ?_
    refine lv_iload hx hb dX8_follow_285 (lv_at hl 2 rfl) ?_
    refine lv_iload hx hb dX8_follow_287 (lv_at hl 1 rfl) ?_
    obtain ⟨q59, e9, hh⟩ := h
    subst e9
    have h := hh
    clear hh
    refine kv_calli [.int z8, .int z13] (rest := [.ref t0]) (ci := 7) rfl hX hC h.1 (kt_X7_continueTo l S q59 z8 z13 _ h.2 E _) (cw_X8_80 hts (by omega) (by omega)) rfl hl.1 (Nat.le_of_ble_eq_true rfl) ⟨Nat.zero_le _, Nat.zero_le _⟩ dX8_follow_289 (fun r60 S60 H locs hC h => ?_)
    refine kv_callv [.int r60] (rest := []) (ci := 8) rfl hX hC h.1 (kt_X8_reach l S60 t0 r60 _ h.2 E _) (cw_X8_48 hts (by omega) (by omega)) rfl hl.1 (Nat.le_of_ble_eq_true rfl) ⟨Nat.zero_le _, Nat.zero_le _⟩ dX8_follow_292 (fun S61 H locs hC h => ?_)
    refine lv_goto (tgt := 368) hx hb dX8_follow_295 (by decide) ?_
    exact hret _ _ _ _ _ hC h dX8_follow_368
  have h := h.2 c58
  rcases Decidable.em (z23 = 19) with c62 | c62
  · have h := h.1 c62
    refine lv_tableIn (tgt := 298) hx hb dX8_follow_50 (by rw [c62]; decide) (by rw [c62]; decide) (by rw [c62]; rfl) (by decide) ?_
    refine lv_aload_n hx hb dX8_follow_298 rfl (lv_at hl 4 rfl) ?_
    refine lo_aload_n hx hb dX8_follow_299 rfl (lv_at hl 3 rfl) ?_
    refine lv_iload hx hb dX8_follow_300 (lv_at hl 2 rfl) ?_
    refine lv_iload hx hb dX8_follow_302 (lv_at hl 0 rfl) ?_
    obtain ⟨q63, e9, hh⟩ := h
    subst e9
    have h := hh
    clear hh
    refine kv_calli [.int z8, .int z18] (rest := [.ref t0]) (ci := 7) rfl hX hC h.1 (kt_X7_cancelTo l S q63 z8 z18 _ h.2 E _) (cw_X8_68 hts (by omega) (by omega)) rfl hl.1 (Nat.le_of_ble_eq_true rfl) ⟨Nat.zero_le _, Nat.zero_le _⟩ dX8_follow_304 (fun r64 S64 H locs hC h => ?_)
    refine kv_callv [.int r64] (rest := []) (ci := 8) rfl hX hC h.1 (kt_X8_reach l S64 t0 r64 _ h.2 E _) (cw_X8_48 hts (by omega) (by omega)) rfl hl.1 (Nat.le_of_ble_eq_true rfl) ⟨Nat.zero_le _, Nat.zero_le _⟩ dX8_follow_307 (fun S65 H locs hC h => ?_)
    refine lv_goto (tgt := 368) hx hb dX8_follow_310 (by decide) ?_
    exact hret _ _ _ _ _ hC h dX8_follow_368
  have h := h.2 c62
  rcases Decidable.em (z23 = 20) with c66 | c66
  · have h := h.1 c66
    refine lv_tableIn (tgt := 228) hx hb dX8_follow_50 (by rw [c66]; decide) (by rw [c66]; decide) (by rw [c66]; rfl) (by decide) ?_
    refine lv_aload_n hx hb dX8_follow_228 rfl (lv_at hl 4 rfl) ?_
    refine lo_aload_n hx hb dX8_follow_229 rfl (lv_at hl 3 rfl) ?_
    refine lv_iload hx hb dX8_follow_230 (lv_at hl 2 rfl) ?_
    refine lv_iload hx hb dX8_follow_232 (lv_at hl 0 rfl) ?_
    obtain ⟨q67, e9, hh⟩ := h
    subst e9
    have h := hh
    clear hh
    refine kv_calli [.int z8, .int z18] (rest := [.ref t0]) (ci := 7) rfl hX hC h.1 (kt_X7_failureTo l S q67 z8 z18 _ h.2 E _) (cw_X8_74 hts (by omega) (by omega)) rfl hl.1 (Nat.le_of_ble_eq_true rfl) ⟨Nat.zero_le _, Nat.zero_le _⟩ dX8_follow_234 (fun r68 S68 H locs hC h => ?_)
    refine kv_callv [.int r68] (rest := []) (ci := 8) rfl hX hC h.1 (kt_X8_reach l S68 t0 r68 _ h.2 E _) (cw_X8_48 hts (by omega) (by omega)) rfl hl.1 (Nat.le_of_ble_eq_true rfl) ⟨Nat.zero_le _, Nat.zero_le _⟩ dX8_follow_237 (fun S69 H locs hC h => ?_)
    refine lv_goto (tgt := 368) hx hb dX8_follow_240 (by decide) ?_
    exact hret _ _ _ _ _ hC h dX8_follow_368
  have h := h.2 c66
  rcases Decidable.em (z23 = 21) with c70 | c70
  · have h := h.1 c70
    refine lv_tableIn (tgt := 313) hx hb dX8_follow_50 (by rw [c70]; decide) (by rw [c70]; decide) (by rw [c70]; rfl) (by decide) ?_
    refine lv_aload_n hx hb dX8_follow_313 rfl (lv_at hl 4 rfl) ?_
    refine lo_aload_n hx hb dX8_follow_314 rfl (lv_at hl 3 rfl) ?_
    refine lv_iload hx hb dX8_follow_315 (lv_at hl 1 rfl) ?_
    refine lv_iconst (v := 2) hx hb dX8_follow_317 (by decide) ?_
    obtain ⟨q71, e9, hh⟩ := h
    subst e9
    have h := hh
    clear hh
    refine kv_calli [.int z13, .int 2] (rest := [.ref t0]) (ci := 7) rfl hX hC h.1 (kt_X7_is l S q71 z13 2 _ h.2 E _) (cw_X8_83 hts (by omega) (by omega)) rfl hl.1 (Nat.le_of_ble_eq_true rfl) ⟨Nat.zero_le _, Nat.zero_le _⟩ dX8_follow_318 (fun r72 S72 H locs hC h => ?_)
    refine lv_if_eq (tgt := 334) hx hb dX8_follow_321 (by decide) (fun c73 => ?_) (fun c73 => ?_)
    · have h := h.1 c73
      refine lv_aload_n hx hb dX8_follow_334 rfl (lv_at hl 3 rfl) ?_
      refine cq_getr (ci := 7) (k := 6) (f := 48) hX hC rfl in_X7 (by decide) wd_357 (fun _ h9 => h9) (fun _ _ => rfl) dX8_follow_335 h (fun z74 h => ?_)
      refine lv_iload hx hb dX8_follow_338 (lv_at hl 1 rfl) ?_
      obtain ⟨q75, e9, hh⟩ := h
      subst e9
      have h := hh
      clear hh
      refine cq_ild hX hC dX8_follow_340 h (fun z76 h => ?_)
      exact cut341 t0 z76 S72 _ _ _ h hC (lv_sub hl [] rfl)
    · have h := h.2 c73
      refine lv_aload_n hx hb dX8_follow_324 rfl (lv_at hl 3 rfl) ?_
      refine cq_getr (ci := 7) (k := 5) (f := 47) hX hC rfl in_X7 (by decide) wd_353 (fun _ h9 => h9) (fun _ _ => rfl) dX8_follow_325 h (fun z77 h => ?_)
      refine lv_iload hx hb dX8_follow_328 (lv_at hl 1 rfl) ?_
      obtain ⟨q78, e9, hh⟩ := h
      subst e9
      have h := hh
      clear hh
      refine cq_ild hX hC dX8_follow_330 h (fun z79 h => ?_)
      refine lv_goto (tgt := 341) hx hb dX8_follow_331 (by decide) ?_
      exact cut341 t0 z79 S72 _ _ _ h hC (lv_sub hl [] rfl)
  have h := h.2 c70
  rcases Decidable.em (z23 = 22) with c80 | c80
  · have h := h.1 c80
    refine lv_tableIn (tgt := 361) hx hb dX8_follow_50 (by rw [c80]; decide) (by rw [c80]; decide) (by rw [c80]; rfl) (by decide) ?_
    refine lv_aload_n hx hb dX8_follow_361 rfl (lv_at hl 4 rfl) ?_
    refine lv_iload_n hx hb dX8_follow_362 rfl (lv_at hl 6 rfl) ?_
    refine lv_iconst (v := 1) hx hb dX8_follow_363 (by decide) ?_
    refine lq_iadd hx hb dX8_follow_364 h (fun z81 h => ?_)
    refine kv_callv [.int z81] (rest := []) (ci := 8) rfl hX hC h.1 (kt_X8_reach l S t0 z81 _ h.2 E _) (cw_X8_48 hts (by omega) (by omega)) rfl hl.1 (Nat.le_of_ble_eq_true rfl) ⟨Nat.zero_le _, Nat.zero_le _⟩ dX8_follow_365 (fun S82 H locs hC h => ?_)
    exact hret _ _ _ _ _ hC h dX8_follow_368
  have h := h.2 c80
  rcases Decidable.em (z23 = 23) with c83 | c83
  · have h := h.1 c83
    refine lv_tableIn (tgt := 347) hx hb dX8_follow_50 (by rw [c83]; decide) (by rw [c83]; decide) (by rw [c83]; rfl) (by decide) ?_
    refine lv_aload_n hx hb dX8_follow_347 rfl (lv_at hl 4 rfl) ?_
    refine lv_iload hx hb dX8_follow_348 (lv_at hl 1 rfl) ?_
    refine lv_iload hx hb dX8_follow_350 (lv_at hl 0 rfl) ?_
    refine kv_callv [.int z13, .int z18] (rest := []) (ci := 8) rfl hX hC h.1 (kt_X8_followFinish l S t0 z13 z18 _ h.2 E _) (cw_X8_93 hts (by omega) (by omega)) rfl hl.1 (Nat.le_of_ble_eq_true rfl) ⟨Nat.zero_le _, Nat.zero_le _⟩ dX8_follow_352 (fun S84 H locs hC h => ?_)
    refine lv_goto (tgt := 368) hx hb dX8_follow_355 (by decide) ?_
    exact hret _ _ _ _ _ hC h dX8_follow_368
  have h := h.2 c83
  rcases Decidable.em (z23 = 24) with c85 | c85
  · have h := h.1 c85
    refine lv_tableIn (tgt := 358) hx hb dX8_follow_50 (by rw [c85]; decide) (by rw [c85]; decide) (by rw [c85]; rfl) (by decide) ?_
    refine lv_goto (tgt := 368) hx hb dX8_follow_358 (by decide) ?_
    exact hret _ _ _ _ _ hC h dX8_follow_368
  have h := h.2 c85
  rcases Decidable.em (z23 = 25) with c86 | c86
  · have h := h.1 c86
    refine lv_tableIn (tgt := 361) hx hb dX8_follow_50 (by rw [c86]; decide) (by rw [c86]; decide) (by rw [c86]; rfl) (by decide) ?_
    refine lv_aload_n hx hb dX8_follow_361 rfl (lv_at hl 4 rfl) ?_
    refine lv_iload_n hx hb dX8_follow_362 rfl (lv_at hl 6 rfl) ?_
    refine lv_iconst (v := 1) hx hb dX8_follow_363 (by decide) ?_
    refine lq_iadd hx hb dX8_follow_364 h (fun z87 h => ?_)
    refine kv_callv [.int z87] (rest := []) (ci := 8) rfl hX hC h.1 (kt_X8_reach l S t0 z87 _ h.2 E _) (cw_X8_48 hts (by omega) (by omega)) rfl hl.1 (Nat.le_of_ble_eq_true rfl) ⟨Nat.zero_le _, Nat.zero_le _⟩ dX8_follow_365 (fun S88 H locs hC h => ?_)
    exact hret _ _ _ _ _ hC h dX8_follow_368
  have h := h.2 c86
  rcases Decidable.em (z23 = 26) with c89 | c89
  · have h := h.1 c89
    refine lv_tableIn (tgt := 361) hx hb dX8_follow_50 (by rw [c89]; decide) (by rw [c89]; decide) (by rw [c89]; rfl) (by decide) ?_
    refine lv_aload_n hx hb dX8_follow_361 rfl (lv_at hl 4 rfl) ?_
    refine lv_iload_n hx hb dX8_follow_362 rfl (lv_at hl 6 rfl) ?_
    refine lv_iconst (v := 1) hx hb dX8_follow_363 (by decide) ?_
    refine lq_iadd hx hb dX8_follow_364 h (fun z90 h => ?_)
    refine kv_callv [.int z90] (rest := []) (ci := 8) rfl hX hC h.1 (kt_X8_reach l S t0 z90 _ h.2 E _) (cw_X8_48 hts (by omega) (by omega)) rfl hl.1 (Nat.le_of_ble_eq_true rfl) ⟨Nat.zero_le _, Nat.zero_le _⟩ dX8_follow_365 (fun S91 H locs hC h => ?_)
    exact hret _ _ _ _ _ hC h dX8_follow_368
  have h := h.2 c89
  rcases Decidable.em (z23 = 27) with c92 | c92
  · have h := h.1 c92
    refine lv_tableIn (tgt := 361) hx hb dX8_follow_50 (by rw [c92]; decide) (by rw [c92]; decide) (by rw [c92]; rfl) (by decide) ?_
    refine lv_aload_n hx hb dX8_follow_361 rfl (lv_at hl 4 rfl) ?_
    refine lv_iload_n hx hb dX8_follow_362 rfl (lv_at hl 6 rfl) ?_
    refine lv_iconst (v := 1) hx hb dX8_follow_363 (by decide) ?_
    refine lq_iadd hx hb dX8_follow_364 h (fun z93 h => ?_)
    refine kv_callv [.int z93] (rest := []) (ci := 8) rfl hX hC h.1 (kt_X8_reach l S t0 z93 _ h.2 E _) (cw_X8_48 hts (by omega) (by omega)) rfl hl.1 (Nat.le_of_ble_eq_true rfl) ⟨Nat.zero_le _, Nat.zero_le _⟩ dX8_follow_365 (fun S94 H locs hC h => ?_)
    exact hret _ _ _ _ _ hC h dX8_follow_368
  have h := h.2 c92
  rcases Decidable.em (z23 = 28) with c95 | c95
  · have h := h.1 c95
    refine lv_tableIn (tgt := 361) hx hb dX8_follow_50 (by rw [c95]; decide) (by rw [c95]; decide) (by rw [c95]; rfl) (by decide) ?_
    refine lv_aload_n hx hb dX8_follow_361 rfl (lv_at hl 4 rfl) ?_
    refine lv_iload_n hx hb dX8_follow_362 rfl (lv_at hl 6 rfl) ?_
    refine lv_iconst (v := 1) hx hb dX8_follow_363 (by decide) ?_
    refine lq_iadd hx hb dX8_follow_364 h (fun z96 h => ?_)
    refine kv_callv [.int z96] (rest := []) (ci := 8) rfl hX hC h.1 (kt_X8_reach l S t0 z96 _ h.2 E _) (cw_X8_48 hts (by omega) (by omega)) rfl hl.1 (Nat.le_of_ble_eq_true rfl) ⟨Nat.zero_le _, Nat.zero_le _⟩ dX8_follow_365 (fun S97 H locs hC h => ?_)
    exact hret _ _ _ _ _ hC h dX8_follow_368
  have h := h.2 c95
  rcases Decidable.em (z23 = 29) with c98 | c98
  · have h := h.1 c98
    refine lv_tableIn (tgt := 361) hx hb dX8_follow_50 (by rw [c98]; decide) (by rw [c98]; decide) (by rw [c98]; rfl) (by decide) ?_
    refine lv_aload_n hx hb dX8_follow_361 rfl (lv_at hl 4 rfl) ?_
    refine lv_iload_n hx hb dX8_follow_362 rfl (lv_at hl 6 rfl) ?_
    refine lv_iconst (v := 1) hx hb dX8_follow_363 (by decide) ?_
    refine lq_iadd hx hb dX8_follow_364 h (fun z99 h => ?_)
    refine kv_callv [.int z99] (rest := []) (ci := 8) rfl hX hC h.1 (kt_X8_reach l S t0 z99 _ h.2 E _) (cw_X8_48 hts (by omega) (by omega)) rfl hl.1 (Nat.le_of_ble_eq_true rfl) ⟨Nat.zero_le _, Nat.zero_le _⟩ dX8_follow_365 (fun S100 H locs hC h => ?_)
    exact hret _ _ _ _ _ hC h dX8_follow_368
  have h := h.2 c98
  rcases Decidable.em (z23 = 30) with c101 | c101
  · have h := h.1 c101
    refine lv_tableIn (tgt := 361) hx hb dX8_follow_50 (by rw [c101]; decide) (by rw [c101]; decide) (by rw [c101]; rfl) (by decide) ?_
    refine lv_aload_n hx hb dX8_follow_361 rfl (lv_at hl 4 rfl) ?_
    refine lv_iload_n hx hb dX8_follow_362 rfl (lv_at hl 6 rfl) ?_
    refine lv_iconst (v := 1) hx hb dX8_follow_363 (by decide) ?_
    refine lq_iadd hx hb dX8_follow_364 h (fun z102 h => ?_)
    refine kv_callv [.int z102] (rest := []) (ci := 8) rfl hX hC h.1 (kt_X8_reach l S t0 z102 _ h.2 E _) (cw_X8_48 hts (by omega) (by omega)) rfl hl.1 (Nat.le_of_ble_eq_true rfl) ⟨Nat.zero_le _, Nat.zero_le _⟩ dX8_follow_365 (fun S103 H locs hC h => ?_)
    exact hret _ _ _ _ _ hC h dX8_follow_368
  have h := h.2 c101
  rcases Decidable.em (z23 = 31) with c104 | c104
  · have h := h.1 c104
    refine lv_tableIn (tgt := 361) hx hb dX8_follow_50 (by rw [c104]; decide) (by rw [c104]; decide) (by rw [c104]; rfl) (by decide) ?_
    refine lv_aload_n hx hb dX8_follow_361 rfl (lv_at hl 4 rfl) ?_
    refine lv_iload_n hx hb dX8_follow_362 rfl (lv_at hl 6 rfl) ?_
    refine lv_iconst (v := 1) hx hb dX8_follow_363 (by decide) ?_
    refine lq_iadd hx hb dX8_follow_364 h (fun z105 h => ?_)
    refine kv_callv [.int z105] (rest := []) (ci := 8) rfl hX hC h.1 (kt_X8_reach l S t0 z105 _ h.2 E _) (cw_X8_48 hts (by omega) (by omega)) rfl hl.1 (Nat.le_of_ble_eq_true rfl) ⟨Nat.zero_le _, Nat.zero_le _⟩ dX8_follow_365 (fun S106 H locs hC h => ?_)
    exact hret _ _ _ _ _ hC h dX8_follow_368
  have h := h.2 c104
  rcases Decidable.em (z23 = 32) with c107 | c107
  · have h := h.1 c107
    refine lv_tableIn (tgt := 361) hx hb dX8_follow_50 (by rw [c107]; decide) (by rw [c107]; decide) (by rw [c107]; rfl) (by decide) ?_
    refine lv_aload_n hx hb dX8_follow_361 rfl (lv_at hl 4 rfl) ?_
    refine lv_iload_n hx hb dX8_follow_362 rfl (lv_at hl 6 rfl) ?_
    refine lv_iconst (v := 1) hx hb dX8_follow_363 (by decide) ?_
    refine lq_iadd hx hb dX8_follow_364 h (fun z108 h => ?_)
    refine kv_callv [.int z108] (rest := []) (ci := 8) rfl hX hC h.1 (kt_X8_reach l S t0 z108 _ h.2 E _) (cw_X8_48 hts (by omega) (by omega)) rfl hl.1 (Nat.le_of_ble_eq_true rfl) ⟨Nat.zero_le _, Nat.zero_le _⟩ dX8_follow_365 (fun S109 H locs hC h => ?_)
    exact hret _ _ _ _ _ hC h dX8_follow_368
  have h := h.2 c107
  rcases Decidable.em (z23 = 33) with c110 | c110
  · have h := h.1 c110
    refine lv_tableIn (tgt := 361) hx hb dX8_follow_50 (by rw [c110]; decide) (by rw [c110]; decide) (by rw [c110]; rfl) (by decide) ?_
    refine lv_aload_n hx hb dX8_follow_361 rfl (lv_at hl 4 rfl) ?_
    refine lv_iload_n hx hb dX8_follow_362 rfl (lv_at hl 6 rfl) ?_
    refine lv_iconst (v := 1) hx hb dX8_follow_363 (by decide) ?_
    refine lq_iadd hx hb dX8_follow_364 h (fun z111 h => ?_)
    refine kv_callv [.int z111] (rest := []) (ci := 8) rfl hX hC h.1 (kt_X8_reach l S t0 z111 _ h.2 E _) (cw_X8_48 hts (by omega) (by omega)) rfl hl.1 (Nat.le_of_ble_eq_true rfl) ⟨Nat.zero_le _, Nat.zero_le _⟩ dX8_follow_365 (fun S112 H locs hC h => ?_)
    exact hret _ _ _ _ _ hC h dX8_follow_368
  have h := h.2 c110
  rcases Decidable.em (z23 = 34) with c113 | c113
  · have h := h.1 c113
    refine lv_tableIn (tgt := 361) hx hb dX8_follow_50 (by rw [c113]; decide) (by rw [c113]; decide) (by rw [c113]; rfl) (by decide) ?_
    refine lv_aload_n hx hb dX8_follow_361 rfl (lv_at hl 4 rfl) ?_
    refine lv_iload_n hx hb dX8_follow_362 rfl (lv_at hl 6 rfl) ?_
    refine lv_iconst (v := 1) hx hb dX8_follow_363 (by decide) ?_
    refine lq_iadd hx hb dX8_follow_364 h (fun z114 h => ?_)
    refine kv_callv [.int z114] (rest := []) (ci := 8) rfl hX hC h.1 (kt_X8_reach l S t0 z114 _ h.2 E _) (cw_X8_48 hts (by omega) (by omega)) rfl hl.1 (Nat.le_of_ble_eq_true rfl) ⟨Nat.zero_le _, Nat.zero_le _⟩ dX8_follow_365 (fun S115 H locs hC h => ?_)
    exact hret _ _ _ _ _ hC h dX8_follow_368
  have h := h.2 c113
  rcases Decidable.em (z23 = 35) with c116 | c116
  · have h := h.1 c116
    refine lv_tableIn (tgt := 172) hx hb dX8_follow_50 (by rw [c116]; decide) (by rw [c116]; decide) (by rw [c116]; rfl) (by decide) ?_
    refine lv_aload_n hx hb dX8_follow_172 rfl (lv_at hl 4 rfl) ?_
    refine lo_aload_n hx hb dX8_follow_173 rfl (lv_at hl 3 rfl) ?_
    refine lv_iload hx hb dX8_follow_174 (lv_at hl 2 rfl) ?_
    refine lv_iload hx hb dX8_follow_176 (lv_at hl 0 rfl) ?_
    obtain ⟨q117, e9, hh⟩ := h
    subst e9
    have h := hh
    clear hh
    refine kv_calli [.int z8, .int z18] (rest := [.ref t0]) (ci := 7) rfl hX hC h.1 (kt_X7_cancelTo l S q117 z8 z18 _ h.2 E _) (cw_X8_68 hts (by omega) (by omega)) rfl hl.1 (Nat.le_of_ble_eq_true rfl) ⟨Nat.zero_le _, Nat.zero_le _⟩ dX8_follow_178 (fun r118 S118 H locs hC h => ?_)
    refine kv_callv [.int r118] (rest := []) (ci := 8) rfl hX hC h.1 (kt_X8_reach l S118 t0 r118 _ h.2 E _) (cw_X8_48 hts (by omega) (by omega)) rfl hl.1 (Nat.le_of_ble_eq_true rfl) ⟨Nat.zero_le _, Nat.zero_le _⟩ dX8_follow_181 (fun S119 H locs hC h => ?_)
    refine lv_aload_n hx hb dX8_follow_184 rfl (lv_at hl 4 rfl) ?_
    refine lv_aload_n hx hb dX8_follow_185 rfl (lv_at hl 3 rfl) ?_
    refine lv_iload hx hb dX8_follow_186 (lv_at hl 2 rfl) ?_
    refine lv_iload hx hb dX8_follow_188 (lv_at hl 0 rfl) ?_
    refine kv_calli [.int z8, .int z18] (rest := [.ref t0]) (ci := 7) rfl hX hC h.1 (kt_X7_failureTo l S119 q117 z8 z18 _ h.2 E _) (cw_X8_74 hts (by omega) (by omega)) rfl hl.1 (Nat.le_of_ble_eq_true rfl) ⟨Nat.zero_le _, Nat.zero_le _⟩ dX8_follow_190 (fun r120 S120 H locs hC h => ?_)
    refine kv_callv [.int r120] (rest := []) (ci := 8) rfl hX hC h.1 (kt_X8_reach l S120 t0 r120 _ h.2 E _) (cw_X8_48 hts (by omega) (by omega)) rfl hl.1 (Nat.le_of_ble_eq_true rfl) ⟨Nat.zero_le _, Nat.zero_le _⟩ dX8_follow_193 (fun S121 H locs hC h => ?_)
    refine lv_aload_n hx hb dX8_follow_196 rfl (lv_at hl 4 rfl) ?_
    refine lv_iload_n hx hb dX8_follow_197 rfl (lv_at hl 6 rfl) ?_
    refine lv_iconst (v := 1) hx hb dX8_follow_198 (by decide) ?_
    refine lq_iadd hx hb dX8_follow_199 h (fun z122 h => ?_)
    refine kv_callv [.int z122] (rest := []) (ci := 8) rfl hX hC h.1 (kt_X8_reach l S121 t0 z122 _ h.2 E _) (cw_X8_48 hts (by omega) (by omega)) rfl hl.1 (Nat.le_of_ble_eq_true rfl) ⟨Nat.zero_le _, Nat.zero_le _⟩ dX8_follow_200 (fun S123 H locs hC h => ?_)
    refine lv_goto (tgt := 368) hx hb dX8_follow_203 (by decide) ?_
    exact hret _ _ _ _ _ hC h dX8_follow_368
  have h := h.2 c116
  refine lv_tableOut (tgt := 361) hx hb dX8_follow_50 (by have nc24 := lv_neT c24 (show (9 : Int32).toInt = 9 by decide); have nc30 := lv_neT c30 (show (10 : Int32).toInt = 10 by decide); have nc36 := lv_neT c36 (show (11 : Int32).toInt = 11 by decide); have nc39 := lv_neT c39 (show (12 : Int32).toInt = 12 by decide); have nc42 := lv_neT c42 (show (13 : Int32).toInt = 13 by decide); have nc45 := lv_neT c45 (show (14 : Int32).toInt = 14 by decide); have nc48 := lv_neT c48 (show (15 : Int32).toInt = 15 by decide); have nc52 := lv_neT c52 (show (16 : Int32).toInt = 16 by decide); have nc54 := lv_neT c54 (show (17 : Int32).toInt = 17 by decide); have nc58 := lv_neT c58 (show (18 : Int32).toInt = 18 by decide); have nc62 := lv_neT c62 (show (19 : Int32).toInt = 19 by decide); have nc66 := lv_neT c66 (show (20 : Int32).toInt = 20 by decide); have nc70 := lv_neT c70 (show (21 : Int32).toInt = 21 by decide); have nc80 := lv_neT c80 (show (22 : Int32).toInt = 22 by decide); have nc83 := lv_neT c83 (show (23 : Int32).toInt = 23 by decide); have nc85 := lv_neT c85 (show (24 : Int32).toInt = 24 by decide); have nc86 := lv_neT c86 (show (25 : Int32).toInt = 25 by decide); have nc89 := lv_neT c89 (show (26 : Int32).toInt = 26 by decide); have nc92 := lv_neT c92 (show (27 : Int32).toInt = 27 by decide); have nc95 := lv_neT c95 (show (28 : Int32).toInt = 28 by decide); have nc98 := lv_neT c98 (show (29 : Int32).toInt = 29 by decide); have nc101 := lv_neT c101 (show (30 : Int32).toInt = 30 by decide); have nc104 := lv_neT c104 (show (31 : Int32).toInt = 31 by decide); have nc107 := lv_neT c107 (show (32 : Int32).toInt = 32 by decide); have nc110 := lv_neT c110 (show (33 : Int32).toInt = 33 by decide); have nc113 := lv_neT c113 (show (34 : Int32).toInt = 34 by decide); have nc116 := lv_neT c116 (show (35 : Int32).toInt = 35 by decide); omega) (by decide) ?_
  refine lv_aload_n hx hb dX8_follow_361 rfl (lv_at hl 4 rfl) ?_
  refine lv_iload_n hx hb dX8_follow_362 rfl (lv_at hl 6 rfl) ?_
  refine lv_iconst (v := 1) hx hb dX8_follow_363 (by decide) ?_
  refine lq_iadd hx hb dX8_follow_364 h (fun z124 h => ?_)
  refine kv_callv [.int z124] (rest := []) (ci := 8) rfl hX hC h.1 (kt_X8_reach l S t0 z124 _ h.2 E _) (cw_X8_48 hts (by omega) (by omega)) rfl hl.1 (Nat.le_of_ble_eq_true rfl) ⟨Nat.zero_le _, Nat.zero_le _⟩ dX8_follow_365 (fun S125 H locs hC h => ?_)
  exact hret _ _ _ _ _ hC h dX8_follow_368
def wp_X8_set (t0 : Nat) (a0 : Nat) (a1 : Int32) (a2 : Int32) (S : kS) (K : kS → Prop) : Prop := hasO S t0 8 ∧ ∀ S1 : kS, S1 = cR S 55 t0 (some a0) → hasO S1 t0 8 ∧ ∀ z2 : Int32, z2 = S1.1 27 t0 → ∀ z3 : Int32, z3 = z2 + 1 → hasO S1 t0 8 ∧ ∀ S4 : kS, S4 = cI S1 27 t0 z3 → hasO S4 t0 8 ∧ ∀ S5 : kS, S5 = cI S4 26 t0 0 → ((¬ a2 = 0 → hasO S5 t0 8 ∧ ∀ z7 : Option Nat, z7 = S5.2.1 55 t0 → ∃ q8 : Nat, z7 = some q8 ∧ hasO S5 q8 5 ∧ ∀ z9 : Option Nat, z9 = S5.2.1 37 q8 → ∀ z10 : Int32, z10 = a1 * 16 → ∀ z11 : Int32, z11 = z10 + a2 → ∀ z12 : Int32, z12 = z11 - 1 → ∃ q13 : Nat, z9 = some q13 ∧ hasA S5 q13 192 0 ∧ inR z12 192 ∧ ∀ z14 : Int32, z14 = S5.2.2.1 q13 (ix z12) → hasO S5 t0 8 ∧ wp_X8_follow t0 a1 z14 S5 (fun (S15 : kS) => K S15)) ∧ (a2 = 0 → hasO S5 t0 8 ∧ ∀ z16 : Option Nat, z16 = S5.2.1 55 t0 → ∃ q17 : Nat, z16 = some q17 ∧ hasO S5 q17 5 ∧ ∀ z18 : Option Nat, z18 = S5.2.1 32 q17 → ∃ q19 : Nat, z18 = some q19 ∧ hasA S5 q19 12 0 ∧ inR a1 12 ∧ ∀ z20 : Int32, z20 = S5.2.2.1 q19 (ix a1) → hasO S5 t0 8 ∧ wp_X8_reach t0 z20 S5 (fun (S21 : kS) => K S21)))
theorem cw_X8_38 {R : Room} {s : State} {args : Array Value} {fr lo : Nat} (hts : ∀ w ∈ tb, w.before args s = true) (h1 : fr + 1 ≤ R.frames) (h2 : 8 + (7 + 11) + lo ≤ R.locals) : CallW R s args RX8 RX8 38 yX8_follow cX8_follow 7 none (.code yX8_follow cX8_follow 7 none :: tb) (mRm fr lo) 0 0 2 := cwV 2 hts (gd_V wd_806 wd_808 sl_X8_follow wd_8 wd_809) rfl rfl rfl (by decide +kernel) ⟨h1, h2⟩
set_option maxHeartbeats 4000000 in
set_option maxRecDepth 100000 in
theorem kt_X8_set (l : Launch) (S : kS) (t0 : Nat) (a0 : Nat) (a1 : Int32) (a2 : Int32) (K : kS → Prop) (h : wp_X8_set t0 a0 a1 a2 S K) : kMv l yX8_set cX8_set 4 none 5 121 [.ref t0, .ref a0, .int a1, .int a2] S K := by
  refine kv_ofv (own := RX8) (by decide) rfl (Nat.le_of_ble_eq_true rfl) ?_
  intro E p e R s m args below meth c A ls Q hRf hRl hX hC hl hret
  have hx := hX.1.1
  have hb := hX.1.2.1
  have hown := hX.1.2.2.2.1
  have hts := hX.1.2.2.2.2
  have hl : lv_has ls 4 [(0, .ref t0), (1, .ref a0), (2, .int a1), (3, .int a2)] := hl
  unfold wp_X8_set at h
  refine lv_aload_n hx hb dX8_set_0 rfl (lv_at hl 0 rfl) ?_
  refine lv_aload_n hx hb dX8_set_1 rfl (lv_at hl 1 rfl) ?_
  refine cq_putr (v := (some a0)) (ci := 8) (k := 4) (f := 55) hX hC rfl in_X8 (by decide) wd_181 (fun _ h9 => h9) tyX8 tyX8_ok nmX8 rfl rfl (fun _ _ => Nat.le_of_ble_eq_true rfl) (fun _ _ _ => rfl) dX8_set_2 h.1 h.2 (fun S1 H locs hC h => ?_)
  refine lv_aload_n hx hb dX8_set_5 rfl (lv_at hl 0 rfl) ?_
  refine lv_dup hx hb dX8_set_6 rfl ?_
  refine cq_geti (ci := 8) (k := 3) (f := 27) hX hC rfl in_X8 (by decide) wd_180 (fun _ h9 => h9) (fun _ _ => rfl) dX8_set_7 h (fun z2 h => ?_)
  refine lv_iconst (v := 1) hx hb dX8_set_10 (by decide) ?_
  refine lq_iadd hx hb dX8_set_11 h (fun z3 h => ?_)
  refine cq_puti (v := z3) (ci := 8) (k := 3) (f := 27) hX hC rfl in_X8 (by decide) wd_180 (fun _ h9 => h9) tyX8 tyX8_ok nmX8 rfl rfl rfl (fun _ _ => Nat.le_of_ble_eq_true rfl) (fun _ _ _ => rfl) dX8_set_12 h.1 h.2 (fun S4 H locs hC h => ?_)
  refine lv_aload_n hx hb dX8_set_15 rfl (lv_at hl 0 rfl) ?_
  refine lv_iconst (v := 0) hx hb dX8_set_16 (by decide) ?_
  refine cq_puti (v := 0) (ci := 8) (k := 2) (f := 26) hX hC rfl in_X8 (by decide) wd_179 (fun _ h9 => h9) tyX8 tyX8_ok nmX8 rfl rfl rfl (fun _ _ => Nat.le_of_ble_eq_true rfl) (fun _ _ _ => rfl) dX8_set_17 h.1 h.2 (fun S5 H locs hC h => ?_)
  refine lv_iload_n hx hb dX8_set_20 rfl (lv_at hl 3 rfl) ?_
  refine lv_if_ne (tgt := 40) hx hb dX8_set_21 (by decide) (fun c6 => ?_) (fun c6 => ?_)
  · have h := h.1 c6
    refine lv_aload_n hx hb dX8_set_40 rfl (lv_at hl 0 rfl) ?_
    refine lv_iload_n hx hb dX8_set_41 rfl (lv_at hl 2 rfl) ?_
    refine lv_aload_n hx hb dX8_set_42 rfl (lv_at hl 0 rfl) ?_
    refine cq_getr (ci := 8) (k := 4) (f := 55) hX hC rfl in_X8 (by decide) wd_181 (fun _ h9 => h9) (fun _ _ => rfl) dX8_set_43 h (fun z7 h => ?_)
    obtain ⟨q8, e9, hh⟩ := h
    subst e9
    have h := hh
    clear hh
    refine cq_getr (ci := 5) (k := 11) (f := 37) hX hC rfl in_X5 (by decide) wd_430 (fun _ h9 => h9) (fun _ _ => rfl) dX8_set_46 h (fun z9 h => ?_)
    refine lv_iload_n hx hb dX8_set_49 rfl (lv_at hl 2 rfl) ?_
    refine lv_bipush (v := 16) hx hb dX8_set_50 (by decide) ?_
    refine lq_imul hx hb dX8_set_52 h (fun z10 h => ?_)
    refine lv_iload_n hx hb dX8_set_53 rfl (lv_at hl 3 rfl) ?_
    refine lq_iadd hx hb dX8_set_54 h (fun z11 h => ?_)
    refine lv_iconst (v := 1) hx hb dX8_set_55 (by decide) ?_
    refine lq_isub hx hb dX8_set_56 h (fun z12 h => ?_)
    obtain ⟨q13, e9, hh⟩ := h
    subst e9
    have h := hh
    clear hh
    refine cq_ild hX hC dX8_set_57 h (fun z14 h => ?_)
    refine kv_callv [.int a1, .int z14] (rest := []) (ci := 8) rfl hX hC h.1 (kt_X8_follow l S5 t0 a1 z14 _ h.2 E _) (cw_X8_38 hts (by omega) (by omega)) rfl hl.1 (Nat.le_of_ble_eq_true rfl) ⟨Nat.zero_le _, Nat.zero_le _⟩ dX8_set_58 (fun S15 H locs hC h => ?_)
    exact hret _ _ _ _ _ hC h dX8_set_61
  · have h := h.2 c6
    refine lv_aload_n hx hb dX8_set_24 rfl (lv_at hl 0 rfl) ?_
    refine lv_aload_n hx hb dX8_set_25 rfl (lv_at hl 0 rfl) ?_
    refine cq_getr (ci := 8) (k := 4) (f := 55) hX hC rfl in_X8 (by decide) wd_181 (fun _ h9 => h9) (fun _ _ => rfl) dX8_set_26 h (fun z16 h => ?_)
    obtain ⟨q17, e9, hh⟩ := h
    subst e9
    have h := hh
    clear hh
    refine cq_getr (ci := 5) (k := 6) (f := 32) hX hC rfl in_X5 (by decide) wd_417 (fun _ h9 => h9) (fun _ _ => rfl) dX8_set_29 h (fun z18 h => ?_)
    refine lv_iload_n hx hb dX8_set_32 rfl (lv_at hl 2 rfl) ?_
    obtain ⟨q19, e9, hh⟩ := h
    subst e9
    have h := hh
    clear hh
    refine cq_ild hX hC dX8_set_33 h (fun z20 h => ?_)
    refine kv_callv [.int z20] (rest := []) (ci := 8) rfl hX hC h.1 (kt_X8_reach l S5 t0 z20 _ h.2 E _) (cw_X8_48 hts (by omega) (by omega)) rfl hl.1 (Nat.le_of_ble_eq_true rfl) ⟨Nat.zero_le _, Nat.zero_le _⟩ dX8_set_34 (fun S21 H locs hC h => ?_)
    refine lv_goto (tgt := 61) hx hb dX8_set_37 (by decide) ?_
    exact hret _ _ _ _ _ hC h dX8_set_61
