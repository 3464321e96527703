theorem wd_12 : (Jvm.Cond.initialized "Sleepers$Runner") ∈ tb := tb_at 12 (by decide +kernel) (by decide +kernel)
theorem wd_102 : (Jvm.Cond.fieldLink "Sleepers" (66 : Nat) "Sleepers$Tokens" "signs" "I") ∈ tb := tb_at 102 (by decide +kernel) (by decide +kernel)
theorem wd_223 : (Jvm.Cond.fieldLink "Sleepers" (213 : Nat) "Sleepers$Book" "size" "I") ∈ tb := tb_at 223 (by decide +kernel) (by decide +kernel)
theorem wd_238 : (Jvm.Cond.fieldLink "Sleepers" (207 : Nat) "Sleepers$Hall" "taskCount" "I") ∈ tb := tb_at 238 (by decide +kernel) (by decide +kernel)
theorem wd_240 : (Jvm.Cond.fieldLink "Sleepers" (210 : Nat) "Sleepers$Hall" "endedCount" "I") ∈ tb := tb_at 240 (by decide +kernel) (by decide +kernel)
theorem wd_244 : (Jvm.Cond.fieldLink "Sleepers" (178 : Nat) "Sleepers$Hall" "rowCount" "I") ∈ tb := tb_at 244 (by decide +kernel) (by decide +kernel)
theorem wd_247 : (Jvm.Cond.fieldLink "Sleepers" (154 : Nat) "Sleepers$Hall" "clock" "I") ∈ tb := tb_at 247 (by decide +kernel) (by decide +kernel)
theorem wd_252 : (Jvm.Cond.fieldLink "Sleepers" (189 : Nat) "Sleepers$Hall" "letterCount" "[I") ∈ tb := tb_at 252 (by decide +kernel) (by decide +kernel)
theorem wd_255 : (Jvm.Cond.fieldLink "Sleepers" (195 : Nat) "Sleepers$Hall" "lines" "[LSleepers$Line;") ∈ tb := tb_at 255 (by decide +kernel) (by decide +kernel)
theorem wd_258 : (Jvm.Cond.fieldLink "Sleepers" (186 : Nat) "Sleepers$Hall" "lost" "LSleepers$Book;") ∈ tb := tb_at 258 (by decide +kernel) (by decide +kernel)
theorem wd_302 : (Jvm.Cond.fieldLink "Sleepers" (216 : Nat) "Sleepers$Runner" "allSteps" "I") ∈ tb := tb_at 302 (by decide +kernel) (by decide +kernel)
theorem wd_304 : (Jvm.Cond.fieldLink "Sleepers" (219 : Nat) "Sleepers$Runner" "turnSteps" "I") ∈ tb := tb_at 304 (by decide +kernel) (by decide +kernel)
theorem wd_306 : (Jvm.Cond.fieldLink "Sleepers" (76 : Nat) "Sleepers$Runner" "puts" "LSleepers$Book;") ∈ tb := tb_at 306 (by decide +kernel) (by decide +kernel)
theorem wd_415 : (Jvm.Cond.fieldLink "Sleepers" (204 : Nat) "Sleepers$Program" "routines" "I") ∈ tb := tb_at 415 (by decide +kernel) (by decide +kernel)
theorem wd_478 : (Jvm.Cond.fieldLink "Sleepers" (12 : Nat) "Sleepers" "tokens" "LSleepers$Tokens;") ∈ tb := tb_at 478 (by decide +kernel) (by decide +kernel)
theorem wd_481 : (Jvm.Cond.fieldLink "Sleepers" (35 : Nat) "Sleepers" "hall" "LSleepers$Hall;") ∈ tb := tb_at 481 (by decide +kernel) (by decide +kernel)
theorem wd_482 : (Jvm.Cond.fieldLink "Sleepers" (44 : Nat) "Sleepers" "runner" "LSleepers$Runner;") ∈ tb := tb_at 482 (by decide +kernel) (by decide +kernel)
theorem wd_483 : (Jvm.Cond.fieldLink "Sleepers" (51 : Nat) "Sleepers" "told" "LSleepers$Program;") ∈ tb := tb_at 483 (by decide +kernel) (by decide +kernel)
theorem wd_512 : (Jvm.Cond.methodLink "Sleepers" (70 : Nat) ({ cls := "Sleepers$Tokens", name := "read", desc := "()V" } : Jvm.MethodName)) ∈ tb := tb_at 512 (by decide +kernel) (by decide +kernel)
theorem wd_513 : (Jvm.Cond.instanceMethod ({ cls := "Sleepers$Tokens", name := "read", desc := "()V" } : Jvm.MethodName)) ∈ tb := tb_at 513 (by decide +kernel) (by decide +kernel)
theorem wd_514 : (Jvm.Cond.selects "Sleepers$Tokens" ({ cls := "Sleepers$Tokens", name := "read", desc := "()V" } : Jvm.MethodName) ({ cls := "Sleepers$Tokens", name := "read", desc := "()V" } : Jvm.MethodName)) ∈ tb := tb_at 514 (by decide +kernel) (by decide +kernel)
theorem wd_515 : (Jvm.Cond.code ({ cls := "Sleepers$Tokens", name := "read", desc := "()V" } : Jvm.MethodName) prog_12_method_3_code (4 : Nat) (Option.none : Option Jvm.ClassFile.FieldType)) ∈ tb := tb_at 515 (by decide +kernel) (by decide +kernel)
theorem wd_780 : (Jvm.Cond.methodLink "Sleepers" (85 : Nat) ({ cls := "Sleepers$Tokens", name := "onlyWord", desc := "()J" } : Jvm.MethodName)) ∈ tb := tb_at 780 (by decide +kernel) (by decide +kernel)
theorem wd_781 : (Jvm.Cond.instanceMethod ({ cls := "Sleepers$Tokens", name := "onlyWord", desc := "()J" } : Jvm.MethodName)) ∈ tb := tb_at 781 (by decide +kernel) (by decide +kernel)
theorem wd_782 : (Jvm.Cond.selects "Sleepers$Tokens" ({ cls := "Sleepers$Tokens", name := "onlyWord", desc := "()J" } : Jvm.MethodName) ({ cls := "Sleepers$Tokens", name := "onlyWord", desc := "()J" } : Jvm.MethodName)) ∈ tb := tb_at 782 (by decide +kernel) (by decide +kernel)
theorem wd_783 : (Jvm.Cond.code ({ cls := "Sleepers$Tokens", name := "onlyWord", desc := "()J" } : Jvm.MethodName) prog_12_method_4_code (1 : Nat) (Option.some Jvm.ClassFile.FieldType.long)) ∈ tb := tb_at 783 (by decide +kernel) (by decide +kernel)
theorem wd_790 : (Jvm.Cond.methodLink "Sleepers" (118 : Nat) ({ cls := "Sleepers$Program", name := "hasState", desc := "(II)Z" } : Jvm.MethodName)) ∈ tb := tb_at 790 (by decide +kernel) (by decide +kernel)
theorem wd_791 : (Jvm.Cond.instanceMethod ({ cls := "Sleepers$Program", name := "hasState", desc := "(II)Z" } : Jvm.MethodName)) ∈ tb := tb_at 791 (by decide +kernel) (by decide +kernel)
theorem wd_792 : (Jvm.Cond.selects "Sleepers$Program" ({ cls := "Sleepers$Program", name := "hasState", desc := "(II)Z" } : Jvm.MethodName) ({ cls := "Sleepers$Program", name := "hasState", desc := "(II)Z" } : Jvm.MethodName)) ∈ tb := tb_at 792 (by decide +kernel) (by decide +kernel)
theorem wd_793 : (Jvm.Cond.code ({ cls := "Sleepers$Program", name := "hasState", desc := "(II)Z" } : Jvm.MethodName) prog_7_method_4_code (3 : Nat) (Option.some Jvm.ClassFile.FieldType.boolean)) ∈ tb := tb_at 793 (by decide +kernel) (by decide +kernel)
theorem wd_851 : (Jvm.Cond.methodLink "Sleepers" (97 : Nat) ({ cls := "Sleepers$Program", name := "has", desc := "(I)Z" } : Jvm.MethodName)) ∈ tb := tb_at 851 (by decide +kernel) (by decide +kernel)
theorem wd_961 : (Jvm.Cond.methodLink "Sleepers" (142 : Nat) ({ cls := "Sleepers$Runner", name := "takeTurn", desc := "(I)I" } : Jvm.MethodName)) ∈ tb := tb_at 961 (by decide +kernel) (by decide +kernel)
theorem wd_962 : (Jvm.Cond.instanceMethod ({ cls := "Sleepers$Runner", name := "takeTurn", desc := "(I)I" } : Jvm.MethodName)) ∈ tb := tb_at 962 (by decide +kernel) (by decide +kernel)
theorem wd_963 : (Jvm.Cond.selects "Sleepers$Runner" ({ cls := "Sleepers$Runner", name := "takeTurn", desc := "(I)I" } : Jvm.MethodName) ({ cls := "Sleepers$Runner", name := "takeTurn", desc := "(I)I" } : Jvm.MethodName)) ∈ tb := tb_at 963 (by decide +kernel) (by decide +kernel)
theorem wd_964 : (Jvm.Cond.code ({ cls := "Sleepers$Runner", name := "takeTurn", desc := "(I)I" } : Jvm.MethodName) prog_8_method_2_code (4 : Nat) (Option.some Jvm.ClassFile.FieldType.int)) ∈ tb := tb_at 964 (by decide +kernel) (by decide +kernel)
theorem wd_1220 : (Jvm.Cond.methodLink "Sleepers" (146 : Nat) ({ cls := "Sleepers$Hall", name := "deliver", desc := "(II)I" } : Jvm.MethodName)) ∈ tb := tb_at 1220 (by decide +kernel) (by decide +kernel)
theorem wd_1221 : (Jvm.Cond.instanceMethod ({ cls := "Sleepers$Hall", name := "deliver", desc := "(II)I" } : Jvm.MethodName)) ∈ tb := tb_at 1221 (by decide +kernel) (by decide +kernel)
theorem wd_1222 : (Jvm.Cond.selects "Sleepers$Hall" ({ cls := "Sleepers$Hall", name := "deliver", desc := "(II)I" } : Jvm.MethodName) ({ cls := "Sleepers$Hall", name := "deliver", desc := "(II)I" } : Jvm.MethodName)) ∈ tb := tb_at 1222 (by decide +kernel) (by decide +kernel)
theorem wd_1223 : (Jvm.Cond.code ({ cls := "Sleepers$Hall", name := "deliver", desc := "(II)I" } : Jvm.MethodName) prog_3_method_12_code (4 : Nat) (Option.some Jvm.ClassFile.FieldType.int)) ∈ tb := tb_at 1223 (by decide +kernel) (by decide +kernel)
theorem wd_1228 : (Jvm.Cond.methodLink "Sleepers" (150 : Nat) ({ cls := "Sleepers$Hall", name := "pass", desc := "(I)V" } : Jvm.MethodName)) ∈ tb := tb_at 1228 (by decide +kernel) (by decide +kernel)
theorem wd_1229 : (Jvm.Cond.instanceMethod ({ cls := "Sleepers$Hall", name := "pass", desc := "(I)V" } : Jvm.MethodName)) ∈ tb := tb_at 1229 (by decide +kernel) (by decide +kernel)
theorem wd_1230 : (Jvm.Cond.selects "Sleepers$Hall" ({ cls := "Sleepers$Hall", name := "pass", desc := "(I)V" } : Jvm.MethodName) ({ cls := "Sleepers$Hall", name := "pass", desc := "(I)V" } : Jvm.MethodName)) ∈ tb := tb_at 1230 (by decide +kernel) (by decide +kernel)
theorem wd_1231 : (Jvm.Cond.code ({ cls := "Sleepers$Hall", name := "pass", desc := "(I)V" } : Jvm.MethodName) prog_3_method_13_code (5 : Nat) (Option.none : Option Jvm.ClassFile.FieldType)) ∈ tb := tb_at 1231 (by decide +kernel) (by decide +kernel)
theorem wd_1236 : (Jvm.Cond.methodLink "Sleepers" (157 : Nat) ({ cls := "Sleepers$Hall", name := "callOff", desc := "(I)Z" } : Jvm.MethodName)) ∈ tb := tb_at 1236 (by decide +kernel) (by decide +kernel)
theorem wd_1237 : (Jvm.Cond.instanceMethod ({ cls := "Sleepers$Hall", name := "callOff", desc := "(I)Z" } : Jvm.MethodName)) ∈ tb := tb_at 1237 (by decide +kernel) (by decide +kernel)
theorem wd_1238 : (Jvm.Cond.selects "Sleepers$Hall" ({ cls := "Sleepers$Hall", name := "callOff", desc := "(I)Z" } : Jvm.MethodName) ({ cls := "Sleepers$Hall", name := "callOff", desc := "(I)Z" } : Jvm.MethodName)) ∈ tb := tb_at 1238 (by decide +kernel) (by decide +kernel)
theorem wd_1239 : (Jvm.Cond.code ({ cls := "Sleepers$Hall", name := "callOff", desc := "(I)Z" } : Jvm.MethodName) prog_3_method_14_code (3 : Nat) (Option.some Jvm.ClassFile.FieldType.boolean)) ∈ tb := tb_at 1239 (by decide +kernel) (by decide +kernel)
theorem wd_1252 : (Jvm.Cond.methodLink "Sleepers" (184 : Nat) ({ cls := "Sleepers$Book", name := "tell", desc := "(II)I" } : Jvm.MethodName)) ∈ tb := tb_at 1252 (by decide +kernel) (by decide +kernel)
theorem wd_1253 : (Jvm.Cond.instanceMethod ({ cls := "Sleepers$Book", name := "tell", desc := "(II)I" } : Jvm.MethodName)) ∈ tb := tb_at 1253 (by decide +kernel) (by decide +kernel)
theorem wd_1254 : (Jvm.Cond.selects "Sleepers$Book" ({ cls := "Sleepers$Book", name := "tell", desc := "(II)I" } : Jvm.MethodName) ({ cls := "Sleepers$Book", name := "tell", desc := "(II)I" } : Jvm.MethodName)) ∈ tb := tb_at 1254 (by decide +kernel) (by decide +kernel)
theorem wd_1255 : (Jvm.Cond.code ({ cls := "Sleepers$Book", name := "tell", desc := "(II)I" } : Jvm.MethodName) prog_2_method_3_code (3 : Nat) (Option.some Jvm.ClassFile.FieldType.int)) ∈ tb := tb_at 1255 (by decide +kernel) (by decide +kernel)
theorem wd_1268 : (Jvm.Cond.methodLink "Sleepers" (199 : Nat) ({ cls := "Sleepers$Line", name := "taskAt", desc := "(I)I" } : Jvm.MethodName)) ∈ tb := tb_at 1268 (by decide +kernel) (by decide +kernel)
theorem wd_1269 : (Jvm.Cond.instanceMethod ({ cls := "Sleepers$Line", name := "taskAt", desc := "(I)I" } : Jvm.MethodName)) ∈ tb := tb_at 1269 (by decide +kernel) (by decide +kernel)
theorem wd_1270 : (Jvm.Cond.selects "Sleepers$Line" ({ cls := "Sleepers$Line", name := "taskAt", desc := "(I)I" } : Jvm.MethodName) ({ cls := "Sleepers$Line", name := "taskAt", desc := "(I)I" } : Jvm.MethodName)) ∈ tb := tb_at 1270 (by decide +kernel) (by decide +kernel)
theorem wd_1271 : (Jvm.Cond.code ({ cls := "Sleepers$Line", name := "taskAt", desc := "(I)I" } : Jvm.MethodName) prog_4_method_4_code (4 : Nat) (Option.some Jvm.ClassFile.FieldType.int)) ∈ tb := tb_at 1271 (by decide +kernel) (by decide +kernel)
theorem wd_1276 : (Jvm.Cond.methodLink "Sleepers" (222 : Nat) ({ cls := "Sleepers$Hall", name := "lettersLying", desc := "()I" } : Jvm.MethodName)) ∈ tb := tb_at 1276 (by decide +kernel) (by decide +kernel)
theorem wd_1277 : (Jvm.Cond.instanceMethod ({ cls := "Sleepers$Hall", name := "lettersLying", desc := "()I" } : Jvm.MethodName)) ∈ tb := tb_at 1277 (by decide +kernel) (by decide +kernel)
theorem wd_1278 : (Jvm.Cond.selects "Sleepers$Hall" ({ cls := "Sleepers$Hall", name := "lettersLying", desc := "()I" } : Jvm.MethodName) ({ cls := "Sleepers$Hall", name := "lettersLying", desc := "()I" } : Jvm.MethodName)) ∈ tb := tb_at 1278 (by decide +kernel) (by decide +kernel)
theorem wd_1279 : (Jvm.Cond.code ({ cls := "Sleepers$Hall", name := "lettersLying", desc := "()I" } : Jvm.MethodName) prog_3_method_4_code (3 : Nat) (Option.some Jvm.ClassFile.FieldType.int)) ∈ tb := tb_at 1279 (by decide +kernel) (by decide +kernel)
theorem dX11_begin_0 : decode cX11_begin 0 = .ok (.aload_n 0, 1) := by decide +kernel
theorem dX11_begin_1 : decode cX11_begin 1 = .ok (.getfield 51, 3) := by decide +kernel
theorem dX11_begin_4 : decode cX11_begin 4 = .ok (.iload_n 1, 1) := by decide +kernel
theorem dX11_begin_5 : decode cX11_begin 5 = .ok (.invokevirtual 97, 3) := by decide +kernel
theorem dX11_begin_8 : decode cX11_begin 8 = .ok (.ifCond .ne 5, 3) := by decide +kernel
theorem dX11_begin_11 : decode cX11_begin 11 = .ok (.iconst (-1), 1) := by decide +kernel
theorem dX11_begin_12 : decode cX11_begin 12 = .ok (.ireturn, 1) := by decide +kernel
theorem dX11_begin_13 : decode cX11_begin 13 = .ok (.aload_n 0, 1) := by decide +kernel
theorem dX11_begin_14 : decode cX11_begin 14 = .ok (.getfield 35, 3) := by decide +kernel
theorem dX11_begin_17 : decode cX11_begin 17 = .ok (.iload_n 1, 1) := by decide +kernel
theorem dX11_begin_18 : decode cX11_begin 18 = .ok (.aconst_null, 1) := by decide +kernel
theorem dX11_begin_19 : decode cX11_begin 19 = .ok (.invokevirtual 129, 3) := by decide +kernel
theorem dX11_begin_22 : decode cX11_begin 22 = .ok (.astore 6, 2) := by decide +kernel
theorem dX11_begin_24 : decode cX11_begin 24 = .ok (.aload 6, 2) := by decide +kernel
theorem dX11_begin_26 : decode cX11_begin 26 = .ok (.ifnonnull 5, 3) := by decide +kernel
theorem dX11_begin_29 : decode cX11_begin 29 = .ok (.iconst (-1), 1) := by decide +kernel
theorem dX11_begin_30 : decode cX11_begin 30 = .ok (.ireturn, 1) := by decide +kernel
theorem dX11_begin_31 : decode cX11_begin 31 = .ok (.aload_n 0, 1) := by decide +kernel
theorem dX11_begin_32 : decode cX11_begin 32 = .ok (.getfield 51, 3) := by decide +kernel
theorem dX11_begin_35 : decode cX11_begin 35 = .ok (.getfield 108, 3) := by decide +kernel
theorem dX11_begin_38 : decode cX11_begin 38 = .ok (.iload_n 1, 1) := by decide +kernel
theorem dX11_begin_39 : decode cX11_begin 39 = .ok (.iaload, 1) := by decide +kernel
theorem dX11_begin_40 : decode cX11_begin 40 = .ok (.istore 7, 2) := by decide +kernel
theorem dX11_begin_42 : decode cX11_begin 42 = .ok (.aload 6, 2) := by decide +kernel
theorem dX11_begin_44 : decode cX11_begin 44 = .ok (.iconst 0, 1) := by decide +kernel
theorem dX11_begin_45 : decode cX11_begin 45 = .ok (.iload 7, 2) := by decide +kernel
theorem dX11_begin_47 : decode cX11_begin 47 = .ok (.ifCond .le 7, 3) := by decide +kernel
theorem dX11_begin_50 : decode cX11_begin 50 = .ok (.iload_n 2, 1) := by decide +kernel
theorem dX11_begin_51 : decode cX11_begin 51 = .ok (.goto 4, 3) := by decide +kernel
theorem dX11_begin_54 : decode cX11_begin 54 = .ok (.iconst 0, 1) := by decide +kernel
theorem dX11_begin_55 : decode cX11_begin 55 = .ok (.invokevirtual 133, 3) := by decide +kernel
theorem dX11_begin_58 : decode cX11_begin 58 = .ok (.aload 6, 2) := by decide +kernel
theorem dX11_begin_60 : decode cX11_begin 60 = .ok (.iconst 1, 1) := by decide +kernel
theorem dX11_begin_61 : decode cX11_begin 61 = .ok (.iload 7, 2) := by decide +kernel
theorem dX11_begin_63 : decode cX11_begin 63 = .ok (.iconst 1, 1) := by decide +kernel
theorem dX11_begin_64 : decode cX11_begin 64 = .ok (.if_icmp .le 7, 3) := by decide +kernel
theorem dX11_begin_67 : decode cX11_begin 67 = .ok (.iload_n 3, 1) := by decide +kernel
theorem dX11_begin_68 : decode cX11_begin 68 = .ok (.goto 4, 3) := by decide +kernel
theorem dX11_begin_71 : decode cX11_begin 71 = .ok (.iconst 0, 1) := by decide +kernel
theorem dX11_begin_72 : decode cX11_begin 72 = .ok (.invokevirtual 133, 3) := by decide +kernel
theorem dX11_begin_75 : decode cX11_begin 75 = .ok (.aload 6, 2) := by decide +kernel
theorem dX11_begin_77 : decode cX11_begin 77 = .ok (.iconst 2, 1) := by decide +kernel
theorem dX11_begin_78 : decode cX11_begin 78 = .ok (.iload 7, 2) := by decide +kernel
theorem dX11_begin_80 : decode cX11_begin 80 = .ok (.iconst 2, 1) := by decide +kernel
theorem dX11_begin_81 : decode cX11_begin 81 = .ok (.if_icmp .le 8, 3) := by decide +kernel
theorem dX11_begin_84 : decode cX11_begin 84 = .ok (.iload 4, 2) := by decide +kernel
theorem dX11_begin_86 : decode cX11_begin 86 = .ok (.goto 4, 3) := by decide +kernel
theorem dX11_begin_89 : decode cX11_begin 89 = .ok (.iconst 0, 1) := by decide +kernel
theorem dX11_begin_90 : decode cX11_begin 90 = .ok (.invokevirtual 133, 3) := by decide +kernel
theorem dX11_begin_93 : decode cX11_begin 93 = .ok (.aload 6, 2) := by decide +kernel
theorem dX11_begin_95 : decode cX11_begin 95 = .ok (.iconst 3, 1) := by decide +kernel
theorem dX11_begin_96 : decode cX11_begin 96 = .ok (.iload 7, 2) := by decide +kernel
theorem dX11_begin_98 : decode cX11_begin 98 = .ok (.iconst 3, 1) := by decide +kernel
theorem dX11_begin_99 : decode cX11_begin 99 = .ok (.if_icmp .le 8, 3) := by decide +kernel
theorem dX11_begin_102 : decode cX11_begin 102 = .ok (.iload 5, 2) := by decide +kernel
theorem dX11_begin_104 : decode cX11_begin 104 = .ok (.goto 4, 3) := by decide +kernel
theorem dX11_begin_107 : decode cX11_begin 107 = .ok (.iconst 0, 1) := by decide +kernel
theorem dX11_begin_108 : decode cX11_begin 108 = .ok (.invokevirtual 133, 3) := by decide +kernel
theorem dX11_begin_111 : decode cX11_begin 111 = .ok (.aload 6, 2) := by decide +kernel
theorem dX11_begin_113 : decode cX11_begin 113 = .ok (.getfield 139, 3) := by decide +kernel
theorem dX11_begin_116 : decode cX11_begin 116 = .ok (.ireturn, 1) := by decide +kernel
theorem dX11_box_0 : decode cX11_box 0 = .ok (.iload_n 1, 1) := by decide +kernel
theorem dX11_box_1 : decode cX11_box 1 = .ok (.ifCond .lt 26, 3) := by decide +kernel
theorem dX11_box_4 : decode cX11_box 4 = .ok (.iload_n 1, 1) := by decide +kernel
theorem dX11_box_5 : decode cX11_box 5 = .ok (.bipush 8, 2) := by decide +kernel
theorem dX11_box_7 : decode cX11_box 7 = .ok (.if_icmp .ge 20, 3) := by decide +kernel
theorem dX11_box_10 : decode cX11_box 10 = .ok (.iload_n 2, 1) := by decide +kernel
theorem dX11_box_11 : decode cX11_box 11 = .ok (.ifCond .lt 16, 3) := by decide +kernel
theorem dX11_box_14 : decode cX11_box 14 = .ok (.iload_n 2, 1) := by decide +kernel
theorem dX11_box_15 : decode cX11_box 15 = .ok (.aload_n 0, 1) := by decide +kernel
theorem dX11_box_16 : decode cX11_box 16 = .ok (.getfield 35, 3) := by decide +kernel
theorem dX11_box_19 : decode cX11_box 19 = .ok (.getfield 189, 3) := by decide +kernel
theorem dX11_box_22 : decode cX11_box 22 = .ok (.iload_n 1, 1) := by decide +kernel
theorem dX11_box_23 : decode cX11_box 23 = .ok (.iaload, 1) := by decide +kernel
theorem dX11_box_24 : decode cX11_box 24 = .ok (.if_icmp .lt 5, 3) := by decide +kernel
theorem dX11_box_27 : decode cX11_box 27 = .ok (.iconst 0, 1) := by decide +kernel
theorem dX11_box_28 : decode cX11_box 28 = .ok (.ireturn, 1) := by decide +kernel
theorem dX11_box_29 : decode cX11_box 29 = .ok (.aload_n 0, 1) := by decide +kernel
theorem dX11_box_30 : decode cX11_box 30 = .ok (.getfield 35, 3) := by decide +kernel
theorem dX11_box_33 : decode cX11_box 33 = .ok (.getfield 192, 3) := by decide +kernel
theorem dX11_box_36 : decode cX11_box 36 = .ok (.iload_n 1, 1) := by decide +kernel
theorem dX11_box_37 : decode cX11_box 37 = .ok (.bipush 50, 2) := by decide +kernel
theorem dX11_box_39 : decode cX11_box 39 = .ok (.imul, 1) := by decide +kernel
theorem dX11_box_40 : decode cX11_box 40 = .ok (.iload_n 2, 1) := by decide +kernel
theorem dX11_box_41 : decode cX11_box 41 = .ok (.iadd, 1) := by decide +kernel
theorem dX11_box_42 : decode cX11_box 42 = .ok (.iaload, 1) := by decide +kernel
theorem dX11_box_43 : decode cX11_box 43 = .ok (.ireturn, 1) := by decide +kernel
theorem dX11_cancel_0 : decode cX11_cancel 0 = .ok (.aload_n 0, 1) := by decide +kernel
theorem dX11_cancel_1 : decode cX11_cancel 1 = .ok (.getfield 35, 3) := by decide +kernel
theorem dX11_cancel_4 : decode cX11_cancel 4 = .ok (.iload_n 1, 1) := by decide +kernel
theorem dX11_cancel_5 : decode cX11_cancel 5 = .ok (.invokevirtual 157, 3) := by decide +kernel
theorem dX11_cancel_8 : decode cX11_cancel 8 = .ok (.ireturn, 1) := by decide +kernel
theorem dX11_count_0 : decode cX11_count 0 = .ok (.iload_n 1, 1) := by decide +kernel
theorem dX11_count_1 : decode cX11_count 1 = .ok (.tableswitch 181 0 11 #[63, 71, 79, 87, 95, 119, 130, 141, 149, 157, 165, 173], 63) := by decide +kernel
theorem dX11_count_64 : decode cX11_count 64 = .ok (.aload_n 0, 1) := by decide +kernel
theorem dX11_count_65 : decode cX11_count 65 = .ok (.getfield 51, 3) := by decide +kernel
theorem dX11_count_68 : decode cX11_count 68 = .ok (.getfield 204, 3) := by decide +kernel
theorem dX11_count_71 : decode cX11_count 71 = .ok (.ireturn, 1) := by decide +kernel
theorem dX11_count_72 : decode cX11_count 72 = .ok (.aload_n 0, 1) := by decide +kernel
theorem dX11_count_73 : decode cX11_count 73 = .ok (.getfield 35, 3) := by decide +kernel
theorem dX11_count_76 : decode cX11_count 76 = .ok (.getfield 207, 3) := by decide +kernel
theorem dX11_count_79 : decode cX11_count 79 = .ok (.ireturn, 1) := by decide +kernel
theorem dX11_count_80 : decode cX11_count 80 = .ok (.aload_n 0, 1) := by decide +kernel
theorem dX11_count_81 : decode cX11_count 81 = .ok (.getfield 35, 3) := by decide +kernel
theorem dX11_count_84 : decode cX11_count 84 = .ok (.getfield 210, 3) := by decide +kernel
theorem dX11_count_87 : decode cX11_count 87 = .ok (.ireturn, 1) := by decide +kernel
theorem dX11_count_88 : decode cX11_count 88 = .ok (.aload_n 0, 1) := by decide +kernel
theorem dX11_count_89 : decode cX11_count 89 = .ok (.getfield 35, 3) := by decide +kernel
theorem dX11_count_92 : decode cX11_count 92 = .ok (.getfield 178, 3) := by decide +kernel
theorem dX11_count_95 : decode cX11_count 95 = .ok (.ireturn, 1) := by decide +kernel
theorem dX11_count_96 : decode cX11_count 96 = .ok (.aload_n 0, 1) := by decide +kernel
theorem dX11_count_97 : decode cX11_count 97 = .ok (.getfield 35, 3) := by decide +kernel
theorem dX11_count_100 : decode cX11_count 100 = .ok (.getfield 207, 3) := by decide +kernel
theorem dX11_count_103 : decode cX11_count 103 = .ok (.aload_n 0, 1) := by decide +kernel
theorem dX11_count_104 : decode cX11_count 104 = .ok (.getfield 35, 3) := by decide +kernel
theorem dX11_count_107 : decode cX11_count 107 = .ok (.getfield 210, 3) := by decide +kernel
theorem dX11_count_110 : decode cX11_count 110 = .ok (.isub, 1) := by decide +kernel
theorem dX11_count_111 : decode cX11_count 111 = .ok (.aload_n 0, 1) := by decide +kernel
theorem dX11_count_112 : decode cX11_count 112 = .ok (.getfield 35, 3) := by decide +kernel
theorem dX11_count_115 : decode cX11_count 115 = .ok (.getfield 178, 3) := by decide +kernel
theorem dX11_count_118 : decode cX11_count 118 = .ok (.isub, 1) := by decide +kernel
theorem dX11_count_119 : decode cX11_count 119 = .ok (.ireturn, 1) := by decide +kernel
theorem dX11_count_120 : decode cX11_count 120 = .ok (.aload_n 0, 1) := by decide +kernel
theorem dX11_count_121 : decode cX11_count 121 = .ok (.getfield 44, 3) := by decide +kernel
theorem dX11_count_124 : decode cX11_count 124 = .ok (.getfield 76, 3) := by decide +kernel
theorem dX11_count_127 : decode cX11_count 127 = .ok (.getfield 213, 3) := by decide +kernel
theorem dX11_count_130 : decode cX11_count 130 = .ok (.ireturn, 1) := by decide +kernel
theorem dX11_count_131 : decode cX11_count 131 = .ok (.aload_n 0, 1) := by decide +kernel
theorem dX11_count_132 : decode cX11_count 132 = .ok (.getfield 35, 3) := by decide +kernel
theorem dX11_count_135 : decode cX11_count 135 = .ok (.getfield 186, 3) := by decide +kernel
theorem dX11_count_138 : decode cX11_count 138 = .ok (.getfield 213, 3) := by decide +kernel
theorem dX11_count_141 : decode cX11_count 141 = .ok (.ireturn, 1) := by decide +kernel
theorem dX11_count_142 : decode cX11_count 142 = .ok (.aload_n 0, 1) := by decide +kernel
theorem dX11_count_143 : decode cX11_count 143 = .ok (.getfield 35, 3) := by decide +kernel
theorem dX11_count_146 : decode cX11_count 146 = .ok (.getfield 154, 3) := by decide +kernel
theorem dX11_count_149 : decode cX11_count 149 = .ok (.ireturn, 1) := by decide +kernel
theorem dX11_count_150 : decode cX11_count 150 = .ok (.aload_n 0, 1) := by decide +kernel
theorem dX11_count_151 : decode cX11_count 151 = .ok (.getfield 44, 3) := by decide +kernel
theorem dX11_count_154 : decode cX11_count 154 = .ok (.getfield 216, 3) := by decide +kernel
theorem dX11_count_157 : decode cX11_count 157 = .ok (.ireturn, 1) := by decide +kernel
theorem dX11_count_158 : decode cX11_count 158 = .ok (.aload_n 0, 1) := by decide +kernel
theorem dX11_count_159 : decode cX11_count 159 = .ok (.getfield 44, 3) := by decide +kernel
theorem dX11_count_162 : decode cX11_count 162 = .ok (.getfield 219, 3) := by decide +kernel
theorem dX11_count_165 : decode cX11_count 165 = .ok (.ireturn, 1) := by decide +kernel
theorem dX11_count_166 : decode cX11_count 166 = .ok (.aload_n 0, 1) := by decide +kernel
theorem dX11_count_167 : decode cX11_count 167 = .ok (.getfield 35, 3) := by decide +kernel
theorem dX11_count_170 : decode cX11_count 170 = .ok (.invokevirtual 222, 3) := by decide +kernel
theorem dX11_count_173 : decode cX11_count 173 = .ok (.ireturn, 1) := by decide +kernel
theorem dX11_count_174 : decode cX11_count 174 = .ok (.aload_n 0, 1) := by decide +kernel
theorem dX11_count_175 : decode cX11_count 175 = .ok (.getfield 12, 3) := by decide +kernel
theorem dX11_count_178 : decode cX11_count 178 = .ok (.getfield 66, 3) := by decide +kernel
theorem dX11_count_181 : decode cX11_count 181 = .ok (.ireturn, 1) := by decide +kernel
theorem dX11_count_182 : decode cX11_count 182 = .ok (.iconst (-1), 1) := by decide +kernel
theorem dX11_count_183 : decode cX11_count 183 = .ok (.ireturn, 1) := by decide +kernel
theorem dX11_letter_0 : decode cX11_letter 0 = .ok (.aload_n 0, 1) := by decide +kernel
theorem dX11_letter_1 : decode cX11_letter 1 = .ok (.getfield 35, 3) := by decide +kernel
theorem dX11_letter_4 : decode cX11_letter 4 = .ok (.iload_n 1, 1) := by decide +kernel
theorem dX11_letter_5 : decode cX11_letter 5 = .ok (.iload_n 2, 1) := by decide +kernel
theorem dX11_letter_6 : decode cX11_letter 6 = .ok (.invokevirtual 146, 3) := by decide +kernel
theorem dX11_letter_9 : decode cX11_letter 9 = .ok (.ireturn, 1) := by decide +kernel
theorem dX11_live_0 : decode cX11_live 0 = .ok (.aload_n 0, 1) := by decide +kernel
theorem dX11_live_1 : decode cX11_live 1 = .ok (.getfield 51, 3) := by decide +kernel
theorem dX11_live_4 : decode cX11_live 4 = .ok (.iload_n 1, 1) := by decide +kernel
theorem dX11_live_5 : decode cX11_live 5 = .ok (.iload_n 2, 1) := by decide +kernel
theorem dX11_live_6 : decode cX11_live 6 = .ok (.invokevirtual 118, 3) := by decide +kernel
theorem dX11_live_9 : decode cX11_live 9 = .ok (.ifCond .eq 20, 3) := by decide +kernel
theorem dX11_live_12 : decode cX11_live 12 = .ok (.iload_n 3, 1) := by decide +kernel
theorem dX11_live_13 : decode cX11_live 13 = .ok (.ifCond .lt 16, 3) := by decide +kernel
theorem dX11_live_16 : decode cX11_live 16 = .ok (.iload_n 3, 1) := by decide +kernel
theorem dX11_live_17 : decode cX11_live 17 = .ok (.aload_n 0, 1) := by decide +kernel
theorem dX11_live_18 : decode cX11_live 18 = .ok (.getfield 51, 3) := by decide +kernel
theorem dX11_live_21 : decode cX11_live 21 = .ok (.getfield 112, 3) := by decide +kernel
theorem dX11_live_24 : decode cX11_live 24 = .ok (.iload_n 1, 1) := by decide +kernel
theorem dX11_live_25 : decode cX11_live 25 = .ok (.iaload, 1) := by decide +kernel
theorem dX11_live_26 : decode cX11_live 26 = .ok (.if_icmp .lt 5, 3) := by decide +kernel
theorem dX11_live_29 : decode cX11_live 29 = .ok (.iconst (-1), 1) := by decide +kernel
theorem dX11_live_30 : decode cX11_live 30 = .ok (.ireturn, 1) := by decide +kernel
theorem dX11_live_31 : decode cX11_live 31 = .ok (.aload_n 0, 1) := by decide +kernel
theorem dX11_live_32 : decode cX11_live 32 = .ok (.getfield 28, 3) := by decide +kernel
theorem dX11_live_35 : decode cX11_live 35 = .ok (.aload_n 0, 1) := by decide +kernel
theorem dX11_live_36 : decode cX11_live 36 = .ok (.getfield 51, 3) := by decide +kernel
theorem dX11_live_39 : decode cX11_live 39 = .ok (.iload_n 1, 1) := by decide +kernel
theorem dX11_live_40 : decode cX11_live 40 = .ok (.iload_n 2, 1) := by decide +kernel
theorem dX11_live_41 : decode cX11_live 41 = .ok (.iload_n 3, 1) := by decide +kernel
theorem dX11_live_42 : decode cX11_live 42 = .ok (.invokevirtual 122, 3) := by decide +kernel
theorem dX11_live_45 : decode cX11_live 45 = .ok (.ifCond .eq 7, 3) := by decide +kernel
theorem dX11_live_48 : decode cX11_live 48 = .ok (.iconst 1, 1) := by decide +kernel
theorem dX11_live_49 : decode cX11_live 49 = .ok (.goto 4, 3) := by decide +kernel
theorem dX11_live_52 : decode cX11_live 52 = .ok (.iconst 0, 1) := by decide +kernel
theorem dX11_live_53 : decode cX11_live 53 = .ok (.ireturn, 1) := by decide +kernel
theorem dX11_lost_0 : decode cX11_lost 0 = .ok (.aload_n 0, 1) := by decide +kernel
theorem dX11_lost_1 : decode cX11_lost 1 = .ok (.getfield 35, 3) := by decide +kernel
theorem dX11_lost_4 : decode cX11_lost 4 = .ok (.getfield 186, 3) := by decide +kernel
theorem dX11_lost_7 : decode cX11_lost 7 = .ok (.iload_n 1, 1) := by decide +kernel
theorem dX11_lost_8 : decode cX11_lost 8 = .ok (.iload_n 2, 1) := by decide +kernel
theorem dX11_lost_9 : decode cX11_lost 9 = .ok (.invokevirtual 184, 3) := by decide +kernel
theorem dX11_lost_12 : decode cX11_lost 12 = .ok (.ireturn, 1) := by decide +kernel
theorem dX11_named_0 : decode cX11_named 0 = .ok (.aload_n 0, 1) := by decide +kernel
theorem dX11_named_1 : decode cX11_named 1 = .ok (.getfield 12, 3) := by decide +kernel
theorem dX11_named_4 : decode cX11_named 4 = .ok (.invokevirtual 70, 3) := by decide +kernel
theorem dX11_named_7 : decode cX11_named 7 = .ok (.aload_n 0, 1) := by decide +kernel
theorem dX11_named_8 : decode cX11_named 8 = .ok (.getfield 12, 3) := by decide +kernel
theorem dX11_named_11 : decode cX11_named 11 = .ok (.invokevirtual 85, 3) := by decide +kernel
theorem dX11_named_14 : decode cX11_named 14 = .ok (.lstore_n 2, 1) := by decide +kernel
theorem dX11_named_15 : decode cX11_named 15 = .ok (.lload_n 2, 1) := by decide +kernel
theorem dX11_named_16 : decode cX11_named 16 = .ok (.lconst 0, 1) := by decide +kernel
theorem dX11_named_17 : decode cX11_named 17 = .ok (.lcmp, 1) := by decide +kernel
theorem dX11_named_18 : decode cX11_named 18 = .ok (.ifCond .ne 5, 3) := by decide +kernel
theorem dX11_named_21 : decode cX11_named 21 = .ok (.iconst (-1), 1) := by decide +kernel
theorem dX11_named_22 : decode cX11_named 22 = .ok (.ireturn, 1) := by decide +kernel
theorem dX11_named_23 : decode cX11_named 23 = .ok (.iload_n 1, 1) := by decide +kernel
theorem dX11_named_24 : decode cX11_named 24 = .ok (.iconst (-1), 1) := by decide +kernel
theorem dX11_named_25 : decode cX11_named 25 = .ok (.if_icmp .ne 14, 3) := by decide +kernel
theorem dX11_named_28 : decode cX11_named 28 = .ok (.aload_n 0, 1) := by decide +kernel
theorem dX11_named_29 : decode cX11_named 29 = .ok (.getfield 51, 3) := by decide +kernel
theorem dX11_named_32 : decode cX11_named 32 = .ok (.lload_n 2, 1) := by decide +kernel
theorem dX11_named_33 : decode cX11_named 33 = .ok (.invokevirtual 89, 3) := by decide +kernel
theorem dX11_named_36 : decode cX11_named 36 = .ok (.goto 12, 3) := by decide +kernel
theorem dX11_named_39 : decode cX11_named 39 = .ok (.aload_n 0, 1) := by decide +kernel
theorem dX11_named_40 : decode cX11_named 40 = .ok (.getfield 51, 3) := by decide +kernel
theorem dX11_named_43 : decode cX11_named 43 = .ok (.iload_n 1, 1) := by decide +kernel
theorem dX11_named_44 : decode cX11_named 44 = .ok (.lload_n 2, 1) := by decide +kernel
theorem dX11_named_45 : decode cX11_named 45 = .ok (.invokevirtual 93, 3) := by decide +kernel
theorem dX11_named_48 : decode cX11_named 48 = .ok (.ireturn, 1) := by decide +kernel
theorem dX11_next_0 : decode cX11_next 0 = .ok (.aload_n 0, 1) := by decide +kernel
theorem dX11_next_1 : decode cX11_next 1 = .ok (.getfield 51, 3) := by decide +kernel
theorem dX11_next_4 : decode cX11_next 4 = .ok (.iload_n 1, 1) := by decide +kernel
theorem dX11_next_5 : decode cX11_next 5 = .ok (.iload_n 2, 1) := by decide +kernel
theorem dX11_next_6 : decode cX11_next 6 = .ok (.invokevirtual 118, 3) := by decide +kernel
theorem dX11_next_9 : decode cX11_next 9 = .ok (.ifCond .eq 15, 3) := by decide +kernel
theorem dX11_next_12 : decode cX11_next 12 = .ok (.aload_n 0, 1) := by decide +kernel
theorem dX11_next_13 : decode cX11_next 13 = .ok (.getfield 51, 3) := by decide +kernel
theorem dX11_next_16 : decode cX11_next 16 = .ok (.iload_n 1, 1) := by decide +kernel
theorem dX11_next_17 : decode cX11_next 17 = .ok (.iload_n 3, 1) := by decide +kernel
theorem dX11_next_18 : decode cX11_next 18 = .ok (.invokevirtual 118, 3) := by decide +kernel
theorem dX11_next_21 : decode cX11_next 21 = .ok (.ifCond .ne 5, 3) := by decide +kernel
theorem dX11_next_24 : decode cX11_next 24 = .ok (.iconst (-1), 1) := by decide +kernel
theorem dX11_next_25 : decode cX11_next 25 = .ok (.ireturn, 1) := by decide +kernel
theorem dX11_next_26 : decode cX11_next 26 = .ok (.aload_n 0, 1) := by decide +kernel
theorem dX11_next_27 : decode cX11_next 27 = .ok (.getfield 28, 3) := by decide +kernel
theorem dX11_next_30 : decode cX11_next 30 = .ok (.aload_n 0, 1) := by decide +kernel
theorem dX11_next_31 : decode cX11_next 31 = .ok (.getfield 51, 3) := by decide +kernel
theorem dX11_next_34 : decode cX11_next 34 = .ok (.iload_n 1, 1) := by decide +kernel
theorem dX11_next_35 : decode cX11_next 35 = .ok (.iload_n 2, 1) := by decide +kernel
theorem dX11_next_36 : decode cX11_next 36 = .ok (.iload_n 3, 1) := by decide +kernel
theorem dX11_next_37 : decode cX11_next 37 = .ok (.invokevirtual 126, 3) := by decide +kernel
theorem dX11_next_40 : decode cX11_next 40 = .ok (.ifCond .eq 7, 3) := by decide +kernel
theorem dX11_next_43 : decode cX11_next 43 = .ok (.iconst 1, 1) := by decide +kernel
theorem dX11_next_44 : decode cX11_next 44 = .ok (.goto 4, 3) := by decide +kernel
theorem dX11_next_47 : decode cX11_next 47 = .ok (.iconst 0, 1) := by decide +kernel
theorem dX11_next_48 : decode cX11_next 48 = .ok (.ireturn, 1) := by decide +kernel
theorem dX11_put_0 : decode cX11_put 0 = .ok (.aload_n 0, 1) := by decide +kernel
theorem dX11_put_1 : decode cX11_put 1 = .ok (.getfield 44, 3) := by decide +kernel
theorem dX11_put_4 : decode cX11_put 4 = .ok (.getfield 76, 3) := by decide +kernel
theorem dX11_put_7 : decode cX11_put 7 = .ok (.iload_n 1, 1) := by decide +kernel
theorem dX11_put_8 : decode cX11_put 8 = .ok (.iload_n 2, 1) := by decide +kernel
theorem dX11_put_9 : decode cX11_put 9 = .ok (.invokevirtual 184, 3) := by decide +kernel
theorem dX11_put_12 : decode cX11_put 12 = .ok (.ireturn, 1) := by decide +kernel
theorem dX11_rounds_0 : decode cX11_rounds 0 = .ok (.iload_n 1, 1) := by decide +kernel
theorem dX11_rounds_1 : decode cX11_rounds 1 = .ok (.ifCond .lt 10, 3) := by decide +kernel
theorem dX11_rounds_4 : decode cX11_rounds 4 = .ok (.iload_n 1, 1) := by decide +kernel
theorem dX11_rounds_5 : decode cX11_rounds 5 = .ok (.sipush 400, 3) := by decide +kernel
theorem dX11_rounds_8 : decode cX11_rounds 8 = .ok (.if_icmp .le 5, 3) := by decide +kernel
theorem dX11_rounds_11 : decode cX11_rounds 11 = .ok (.iconst (-1), 1) := by decide +kernel
theorem dX11_rounds_12 : decode cX11_rounds 12 = .ok (.ireturn, 1) := by decide +kernel
theorem dX11_rounds_13 : decode cX11_rounds 13 = .ok (.iconst 0, 1) := by decide +kernel
theorem dX11_rounds_14 : decode cX11_rounds 14 = .ok (.istore_n 2, 1) := by decide +kernel
theorem dX11_rounds_15 : decode cX11_rounds 15 = .ok (.iload_n 2, 1) := by decide +kernel
theorem dX11_rounds_16 : decode cX11_rounds 16 = .ok (.iload_n 1, 1) := by decide +kernel
theorem dX11_rounds_17 : decode cX11_rounds 17 = .ok (.if_icmp .ge 21, 3) := by decide +kernel
theorem dX11_rounds_20 : decode cX11_rounds 20 = .ok (.aload_n 0, 1) := by decide +kernel
theorem dX11_rounds_21 : decode cX11_rounds 21 = .ok (.getfield 44, 3) := by decide +kernel
theorem dX11_rounds_24 : decode cX11_rounds 24 = .ok (.iconst 0, 1) := by decide +kernel
theorem dX11_rounds_25 : decode cX11_rounds 25 = .ok (.invokevirtual 142, 3) := by decide +kernel
theorem dX11_rounds_28 : decode cX11_rounds 28 = .ok (.iconst (-1), 1) := by decide +kernel
theorem dX11_rounds_29 : decode cX11_rounds 29 = .ok (.if_icmp .eq 9, 3) := by decide +kernel
theorem dX11_rounds_32 : decode cX11_rounds 32 = .ok (.iinc 2 1, 3) := by decide +kernel
theorem dX11_rounds_35 : decode cX11_rounds 35 = .ok (.goto (-20), 3) := by decide +kernel
theorem dX11_rounds_38 : decode cX11_rounds 38 = .ok (.iload_n 2, 1) := by decide +kernel
theorem dX11_rounds_39 : decode cX11_rounds 39 = .ok (.ireturn, 1) := by decide +kernel
theorem dX11_row_0 : decode cX11_row 0 = .ok (.iload_n 1, 1) := by decide +kernel
theorem dX11_row_1 : decode cX11_row 1 = .ok (.ifCond .lt 14, 3) := by decide +kernel
theorem dX11_row_4 : decode cX11_row 4 = .ok (.iload_n 1, 1) := by decide +kernel
theorem dX11_row_5 : decode cX11_row 5 = .ok (.aload_n 0, 1) := by decide +kernel
theorem dX11_row_6 : decode cX11_row 6 = .ok (.getfield 35, 3) := by decide +kernel
theorem dX11_row_9 : decode cX11_row 9 = .ok (.getfield 178, 3) := by decide +kernel
theorem dX11_row_12 : decode cX11_row 12 = .ok (.if_icmp .lt 7, 3) := by decide +kernel
theorem dX11_row_15 : decode cX11_row 15 = .ok (.iconst (-1), 1) := by decide +kernel
theorem dX11_row_16 : decode cX11_row 16 = .ok (.goto 12, 3) := by decide +kernel
theorem dX11_row_19 : decode cX11_row 19 = .ok (.aload_n 0, 1) := by decide +kernel
theorem dX11_row_20 : decode cX11_row 20 = .ok (.getfield 35, 3) := by decide +kernel
theorem dX11_row_23 : decode cX11_row 23 = .ok (.getfield 181, 3) := by decide +kernel
theorem dX11_row_26 : decode cX11_row 26 = .ok (.iload_n 1, 1) := by decide +kernel
theorem dX11_row_27 : decode cX11_row 27 = .ok (.iaload, 1) := by decide +kernel
theorem dX11_row_28 : decode cX11_row 28 = .ok (.ireturn, 1) := by decide +kernel
theorem dX11_stands_0 : decode cX11_stands 0 = .ok (.iload_n 1, 1) := by decide +kernel
theorem dX11_stands_1 : decode cX11_stands 1 = .ok (.ifCond .lt 9, 3) := by decide +kernel
theorem dX11_stands_4 : decode cX11_stands 4 = .ok (.iload_n 1, 1) := by decide +kernel
theorem dX11_stands_5 : decode cX11_stands 5 = .ok (.bipush 8, 2) := by decide +kernel
theorem dX11_stands_7 : decode cX11_stands 7 = .ok (.if_icmp .lt 7, 3) := by decide +kernel
theorem dX11_stands_10 : decode cX11_stands 10 = .ok (.iconst (-1), 1) := by decide +kernel
theorem dX11_stands_11 : decode cX11_stands 11 = .ok (.goto 16, 3) := by decide +kernel
theorem dX11_stands_14 : decode cX11_stands 14 = .ok (.aload_n 0, 1) := by decide +kernel
theorem dX11_stands_15 : decode cX11_stands 15 = .ok (.getfield 35, 3) := by decide +kernel
theorem dX11_stands_18 : decode cX11_stands 18 = .ok (.getfield 195, 3) := by decide +kernel
theorem dX11_stands_21 : decode cX11_stands 21 = .ok (.iload_n 1, 1) := by decide +kernel
theorem dX11_stands_22 : decode cX11_stands 22 = .ok (.aaload, 1) := by decide +kernel
theorem dX11_stands_23 : decode cX11_stands 23 = .ok (.iload_n 2, 1) := by decide +kernel
theorem dX11_stands_24 : decode cX11_stands 24 = .ok (.invokevirtual 199, 3) := by decide +kernel
theorem dX11_stands_27 : decode cX11_stands 27 = .ok (.ireturn, 1) := by decide +kernel
theorem dX11_tick_0 : decode cX11_tick 0 = .ok (.iload_n 1, 1) := by decide +kernel
theorem dX11_tick_1 : decode cX11_tick 1 = .ok (.ifCond .lt 10, 3) := by decide +kernel
theorem dX11_tick_4 : decode cX11_tick 4 = .ok (.iload_n 1, 1) := by decide +kernel
theorem dX11_tick_5 : decode cX11_tick 5 = .ok (.sipush 10000, 3) := by decide +kernel
theorem dX11_tick_8 : decode cX11_tick 8 = .ok (.if_icmp .le 5, 3) := by decide +kernel
theorem dX11_tick_11 : decode cX11_tick 11 = .ok (.iconst (-1), 1) := by decide +kernel
theorem dX11_tick_12 : decode cX11_tick 12 = .ok (.ireturn, 1) := by decide +kernel
theorem dX11_tick_13 : decode cX11_tick 13 = .ok (.aload_n 0, 1) := by decide +kernel
theorem dX11_tick_14 : decode cX11_tick 14 = .ok (.getfield 35, 3) := by decide +kernel
theorem dX11_tick_17 : decode cX11_tick 17 = .ok (.iload_n 1, 1) := by decide +kernel
theorem dX11_tick_18 : decode cX11_tick 18 = .ok (.invokevirtual 150, 3) := by decide +kernel
theorem dX11_tick_21 : decode cX11_tick 21 = .ok (.aload_n 0, 1) := by decide +kernel
theorem dX11_tick_22 : decode cX11_tick 22 = .ok (.getfield 35, 3) := by decide +kernel
theorem dX11_tick_25 : decode cX11_tick 25 = .ok (.getfield 154, 3) := by decide +kernel
theorem dX11_tick_28 : decode cX11_tick 28 = .ok (.ireturn, 1) := by decide +kernel
theorem dX11_turn_0 : decode cX11_turn 0 = .ok (.aload_n 0, 1) := by decide +kernel
theorem dX11_turn_1 : decode cX11_turn 1 = .ok (.getfield 44, 3) := by decide +kernel
theorem dX11_turn_4 : decode cX11_turn 4 = .ok (.iload_n 1, 1) := by decide +kernel
theorem dX11_turn_5 : decode cX11_turn 5 = .ok (.invokevirtual 142, 3) := by decide +kernel
theorem dX11_turn_8 : decode cX11_turn 8 = .ok (.ireturn, 1) := by decide +kernel
set_option maxHeartbeats 4000000 in
set_option maxRecDepth 100000 in
theorem ct_X11_named (l : Launch) (dC : Nat → ClassId) (dI : Nat → Nat → Nat) (h0 : Nat) (tk : Nat) (pa : Nat) (ta : Nat) (ha : Nat) (ru : Nat) (to : Nat) (sp : Nat) (kd : Nat) (pl : Nat) (va : Nat) (tp : Nat) (rs : Nat) (kkd : ClassId) (kpl : ClassId) (kva : ClassId) (i : Int32) (sz : Nat) : Met l yX11_named (.code yX11_named cX11_named 4 (some .int) :: tb) ({ frames := 2, cells := 0, slots := 0, locals := 47 }) (va_Pc [.ref h0, .int i] (fun U => U.heap.size = sz ∧ va_P (dC, dI) vwCl [(h0, .inr (11, [.ref tk, .ref pa, .ref ta, .ref ha, .ref ru, .ref to, .ref sp])), (tk, .inr (10, [.ref kd, .ref pl, .ref va, .int 0, .int 0, .ref tp, .ref rs])), (kd, .inl (kkd, 4002, .inl (upd (fun _ => 0) (4001 : Int32).toNatClampNeg 4))), (pl, .inl (kpl, 4002, .inl (fun _ => 0))), (va, .inl (kva, 4002, .inr (.inl (fun _ => 0))))] U.heap ∧ va_K (dC, dI) vwCl [(kkd, .int), (kpl, .int), (kva, .long)] U ∧ va_D (fun _ => True) [(h0, .inr (11, [.ref tk, .ref pa, .ref ta, .ref ha, .ref ru, .ref to, .ref sp])), (tk, .inr (10, [.ref kd, .ref pl, .ref va, .int 0, .int 0, .ref tp, .ref rs])), (kd, .inl (kkd, 4002, .inl (upd (fun _ => 0) (4001 : Int32).toNatClampNeg 4))), (pl, .inl (kpl, 4002, .inl (fun _ => 0))), (va, .inl (kva, 4002, .inr (.inl (fun _ => 0))))])) (va_Qi (fun (r : Int32) (_ : Unit) => r = -1) (fun (_ : Unit) t => va_P (dC, dI) vwCl [] t.heap ∧ va_K (dC, dI) vwCl [] t ∧ va_D (va_A [(h0, .inr (11, [.ref tk, .ref pa, .ref ta, .ref ha, .ref ru, .ref to, .ref sp])), (tk, .inr (10, [.ref kd, .ref pl, .ref va, .int 0, .int 0, .ref tp, .ref rs])), (kd, .inl (kkd, 4002, .inl (upd (fun _ => 0) (4001 : Int32).toNatClampNeg 4))), (pl, .inl (kpl, 4002, .inl (fun _ => 0))), (va, .inl (kva, 4002, .inr (.inl (fun _ => 0))))] sz) []) (va_A [(h0, .inr (11, [.ref tk, .ref pa, .ref ta, .ref ha, .ref ru, .ref to, .ref sp])), (tk, .inr (10, [.ref kd, .ref pl, .ref va, .int 0, .int 0, .ref tp, .ref rs])), (kd, .inl (kkd, 4002, .inl (upd (fun _ => 0) (4001 : Int32).toNatClampNeg 4))), (pl, .inl (kpl, 4002, .inl (fun _ => 0))), (va, .inl (kva, 4002, .inr (.inl (fun _ => 0))))] sz)) 0 0 (va_A [(h0, .inr (11, [.ref tk, .ref pa, .ref ta, .ref ha, .ref ru, .ref to, .ref sp])), (tk, .inr (10, [.ref kd, .ref pl, .ref va, .int 0, .int 0, .ref tp, .ref rs])), (kd, .inl (kkd, 4002, .inl (upd (fun _ => 0) (4001 : Int32).toNatClampNeg 4))), (pl, .inl (kpl, 4002, .inl (fun _ => 0))), (va, .inl (kva, 4002, .inr (.inl (fun _ => 0))))] sz) := by
  refine Met.ofW (cc := cX11_named) (maxL := 4) (ret := (some .int)) (by decide) rfl ?_
  intro p e s m args below meth c s₁ B hml hv
  obtain ⟨rfl, hsz, hP, hK, hD0⟩ := hv
  have hx := B.exec
  have hb := B.bytes
  have hr := B.returns
  have hts : ∀ w ∈ tb, w.before _ s = true := fun w h => atoms_spec (ws := (.code yX11_named cX11_named 4 (some .int) :: tb)) B.pre w (List.mem_cons_of_mem _ h)
  have hown : s.vm.findClass RX11 = some m.cls := findClass_of_methodNamed B.named
  have hlocks := B.notSynchronized
  subst hsz
  have hD := hD0.self (sz := s.heap.size)
  generalize hAe : va_A [(h0, .inr (11, [.ref tk, .ref pa, .ref ta, .ref ha, .ref ru, .ref to, .ref sp])), (tk, .inr (10, [.ref kd, .ref pl, .ref va, .int 0, .int 0, .ref tp, .ref rs])), (kd, .inl (kkd, 4002, .inl (upd (fun _ => 0) (4001 : Int32).toNatClampNeg 4))), (pl, .inl (kpl, 4002, .inl (fun _ => 0))), (va, .inl (kva, 4002, .inr (.inl (fun _ => 0))))] s.heap.size = A at hD ⊢
  have hA : ∀ q : Nat, s.heap.size ≤ q → A q := fun q h => by rw [← hAe]; exact Or.inr h
  have hS : va_S A s.heap s.heap [] := va_S.rf
  have hP : va_P (dC, dI) vwCl [(h0, .inr (11, [.ref tk, .ref pa, .ref ta, .ref ha, .ref ru, .ref to, .ref sp])), (tk, .inr (10, [.ref kd, .ref pl, .ref va, .int 0, .int 0, .ref tp, .ref rs])), (kd, .inl (kkd, 4002, .inl (upd (fun _ => 0) (4001 : Int32).toNatClampNeg 4))), (pl, .inl (kpl, 4002, .inl (fun _ => 0))), (va, .inl (kva, 4002, .inr (.inl (fun _ => 0))))] s.heap := hP
  have hl := lv_entry ([.ref h0, .int i]) (n := 4) (Nat.le_of_ble_eq_true rfl)
  rw [lg_entry_eq]
  generalize (lg_sl ([.ref h0, .int i]) ++ List.replicate (4 - (lg_sl ([.ref h0, .int i])).length) Slot.unset).toArray = ls at hl ⊢
  have hl : lv_has ls 4 [(0, .ref h0), (1, .int i)] := hl
  refine lv_aload_n hx hb dX11_named_0 rfl (lv_at hl 0 rfl) ?_
  refine va_get (D := (dC, dI)) (ci := 11) (v := .ref tk) (C := RX11) (T := TX11) (N := 7) hx hb hts in_X11 hown hK hP 0 rfl rfl 0 (by decide) (hts _ wd_478) (fun _ h9 => h9) rfl dX11_named_1 ?_
  have hPc := hP.sub (ws' := [(tk, .inr (10, [.ref kd, .ref pl, .ref va, .int 0, .int 0, .ref tp, .ref rs])), (kd, .inl (kkd, 4002, .inl (upd (fun _ => 0) (4001 : Int32).toNatClampNeg 4))), (pl, .inl (kpl, 4002, .inl (fun _ => 0))), (va, .inl (kva, 4002, .inr (.inl (fun _ => 0))))]) [1, 2, 3, 4] rfl
  have hDc := hD.sub (ws' := [(tk, .inr (10, [.ref kd, .ref pl, .ref va, .int 0, .int 0, .ref tp, .ref rs])), (kd, .inl (kkd, 4002, .inl (upd (fun _ => 0) (4001 : Int32).toNatClampNeg 4))), (pl, .inl (kpl, 4002, .inl (fun _ => 0))), (va, .inl (kva, 4002, .inr (.inl (fun _ => 0))))]) [1, 2, 3, 4] (by decide) rfl
  have hKc := hK.sub (tys' := [(kkd, .int), (kpl, .int), (kva, .long)]) [0, 1, 2] rfl
  have hFc := va_free (wc := [(tk, .inr (10, [.ref kd, .ref pl, .ref va, .int 0, .int 0, .ref tp, .ref rs])), (kd, .inl (kkd, 4002, .inl (upd (fun _ => 0) (4001 : Int32).toNatClampNeg 4))), (pl, .inl (kpl, 4002, .inl (fun _ => 0))), (va, .inl (kva, 4002, .inr (.inl (fun _ => 0))))]) hD hS hA [1, 2, 3, 4] rfl
  refine va_callv (va_runV (As := []) (rest := []) ⟨hx, hb, hml, hown, hts⟩ (ct_X10_read l dC dI tk kd pl va tp rs kkd kpl kva s.heap.size) (cwV 0 hts (gd_V wd_512 wd_513 wd_514 wd_2 wd_515) rfl rfl rfl (by decide +kernel) ⟨Nat.le_of_ble_eq_true rfl, Nat.le_of_ble_eq_true rfl⟩) ⟨fun a U g mk q => by obtain ⟨q0, q1, qP, qK, qD⟩ := q; exact ⟨q0, q1, qP, va_K.moved (u := U) (U := U.calling g mk a) (Vm.Alike.refl U.vm) qK, qD⟩, va_recv hKc hPc (ci := 10) (q0 := 0) rfl rfl, fun U hU hW => ⟨rfl, by rw [hU], by rw [hU]; exact hPc, va_K.moved hW.alike hKc, hDc.weaken (fun _ _ _ _ => trivial)⟩⟩ rfl rfl hl.1 rfl (lv_room (Nat.le_of_ble_eq_true rfl)) dX11_named_4 ⟨Nat.le_of_ble_eq_true rfl, Nat.le_of_ble_eq_true rfl⟩) hS (fun q _ h => hFc q h) hFc (fun u t H1 locs ht hvm hw hB hz1 hk1 hS => ?_)
  obtain ⟨hP1, hK1, hD1⟩ := hB
  rw [ht] at hP1
  have hK1 := va_K.moved hvm.symm hK1
  obtain ⟨hP, hD⟩ := va_join (wr := [(h0, .inr (11, [.ref tk, .ref pa, .ref ta, .ref ha, .ref ru, .ref to, .ref sp]))]) (w1 := [(tk, .inr (10, [.ref kd, .ref pl, .ref va, .int 1, .int 0, .ref tp, .ref rs])), (kd, .inl (kkd, 4002, .inl (upd (upd (fun _ => 0) (4001 : Int32).toNatClampNeg 4) (0 : Int32).toNatClampNeg 0))), (pl, .inl (kpl, 4002, .inl (fun _ => 0))), (va, .inl (kva, 4002, .inr (.inl (fun _ => 0))))]) hP hD [1, 2, 3, 4] [0] rfl rfl (by decide) (by decide) hk1 hFc hP1 hD1
  have hK := (hK.sub (tys' := [(kkd, .int), (kpl, .int), (kva, .long)]) [0, 1, 2] rfl).app (hK1.sub (tys' := []) [] rfl)
  generalize H1 = H at hP hS ⊢
  have hP : va_P (dC, dI) vwCl [(h0, .inr (11, [.ref tk, .ref pa, .ref ta, .ref ha, .ref ru, .ref to, .ref sp])), (tk, .inr (10, [.ref kd, .ref pl, .ref va, .int 1, .int 0, .ref tp, .ref rs])), (kd, .inl (kkd, 4002, .inl (upd (upd (fun _ => 0) (4001 : Int32).toNatClampNeg 4) (0 : Int32).toNatClampNeg 0))), (pl, .inl (kpl, 4002, .inl (fun _ => 0))), (va, .inl (kva, 4002, .inr (.inl (fun _ => 0))))] H := hP
  have hD : va_D A [(h0, .inr (11, [.ref tk, .ref pa, .ref ta, .ref ha, .ref ru, .ref to, .ref sp])), (tk, .inr (10, [.ref kd, .ref pl, .ref va, .int 1, .int 0, .ref tp, .ref rs])), (kd, .inl (kkd, 4002, .inl (upd (upd (fun _ => 0) (4001 : Int32).toNatClampNeg 4) (0 : Int32).toNatClampNeg 0))), (pl, .inl (kpl, 4002, .inl (fun _ => 0))), (va, .inl (kva, 4002, .inr (.inl (fun _ => 0))))] := hD
  have hK : va_K (dC, dI) vwCl [(kkd, .int), (kpl, .int), (kva, .long)] s := hK
  refine lv_aload_n hx hb dX11_named_7 rfl (lv_at hl 0 rfl) ?_
  refine va_get (D := (dC, dI)) (ci := 11) (v := .ref tk) (C := RX11) (T := TX11) (N := 7) hx hb hts in_X11 hown hK hP 0 rfl rfl 0 (by decide) (hts _ wd_478) (fun _ h9 => h9) rfl dX11_named_8 ?_
  have hPc := hP.sub (ws' := [(tk, .inr (10, [.ref kd, .ref pl, .ref va, .int 1, .int 0, .ref tp, .ref rs]))]) [1] rfl
  have hDc := hD.sub (ws' := [(tk, .inr (10, [.ref kd, .ref pl, .ref va, .int 1, .int 0, .ref tp, .ref rs]))]) [1] (by decide) rfl
  have hKc := hK.sub (tys' := []) [] rfl
  have hFc := va_free (wc := [(tk, .inr (10, [.ref kd, .ref pl, .ref va, .int 1, .int 0, .ref tp, .ref rs]))]) hD hS hA [1] rfl
  refine va_calll (va_runV (As := []) (rest := []) ⟨hx, hb, hml, hown, hts⟩ (ct_X10_onlyWord l dC dI tk kd pl va tp rs H.size) (cwV 0 hts (gd_V wd_780 wd_781 wd_782 wd_2 wd_783) rfl rfl rfl (by decide +kernel) ⟨Nat.le_of_ble_eq_true rfl, Nat.le_of_ble_eq_true rfl⟩) ⟨fun a U g mk q => by obtain ⟨q0, q1, qP, qK, qD⟩ := q; exact ⟨q0, q1, qP, va_K.moved (u := U) (U := U.calling g mk a) (Vm.Alike.refl U.vm) qK, qD⟩, va_recv hKc hPc (ci := 10) (q0 := 0) rfl rfl, fun U hU hW => ⟨rfl, by rw [hU], by rw [hU]; exact hPc, va_K.moved hW.alike hKc, hDc.weaken (fun _ _ _ _ => trivial)⟩⟩ rfl rfl hl.1 rfl (lv_room (Nat.le_of_ble_eq_true rfl)) dX11_named_11 ⟨Nat.le_of_ble_eq_true rfl, Nat.le_of_ble_eq_true rfl⟩) hS (fun q _ h => hFc q h) hFc (fun r1 u t H1 locs ht hvm hw hB hz1 hk1 hS => ?_)
  obtain ⟨hP1, hK1, hD1⟩ := hB
  rw [ht] at hP1
  have hK1 := va_K.moved hvm.symm hK1
  obtain ⟨hP, hD⟩ := va_join (wr := [(h0, .inr (11, [.ref tk, .ref pa, .ref ta, .ref ha, .ref ru, .ref to, .ref sp])), (kd, .inl (kkd, 4002, .inl (upd (upd (fun _ => 0) (4001 : Int32).toNatClampNeg 4) (0 : Int32).toNatClampNeg 0))), (pl, .inl (kpl, 4002, .inl (fun _ => 0))), (va, .inl (kva, 4002, .inr (.inl (fun _ => 0))))]) (w1 := []) hP hD [1] [0, 2, 3, 4] rfl rfl (by decide) (by decide) hk1 hFc hP1 hD1
  have hK := (hK.sub (tys' := [(kkd, .int), (kpl, .int), (kva, .long)]) [0, 1, 2] rfl).app (hK1.sub (tys' := []) [] rfl)
  generalize H1 = H at hP hS ⊢
  have hP : va_P (dC, dI) vwCl [(h0, .inr (11, [.ref tk, .ref pa, .ref ta, .ref ha, .ref ru, .ref to, .ref sp])), (kd, .inl (kkd, 4002, .inl (upd (upd (fun _ => 0) (4001 : Int32).toNatClampNeg 4) (0 : Int32).toNatClampNeg 0))), (pl, .inl (kpl, 4002, .inl (fun _ => 0))), (va, .inl (kva, 4002, .inr (.inl (fun _ => 0))))] H := hP
  have hD : va_D A [(h0, .inr (11, [.ref tk, .ref pa, .ref ta, .ref ha, .ref ru, .ref to, .ref sp])), (kd, .inl (kkd, 4002, .inl (upd (upd (fun _ => 0) (4001 : Int32).toNatClampNeg 4) (0 : Int32).toNatClampNeg 0))), (pl, .inl (kpl, 4002, .inl (fun _ => 0))), (va, .inl (kva, 4002, .inr (.inl (fun _ => 0))))] := hD
  have hK : va_K (dC, dI) vwCl [(kkd, .int), (kpl, .int), (kva, .long)] s := hK
  obtain rfl := hw
  refine lv_lstore_n (lv' := [(2, .long 0), (0, .ref h0), (1, .int i)]) hx hb dX11_named_14 rfl hl (by decide) rfl (fun ls hl => ?_)
  refine lv_lload_n hx hb dX11_named_15 rfl (lv_at hl 0 rfl) ?_
  refine lv_lconst (v := 0) hx hb dX11_named_16 (by decide) ?_
  refine W.lcmp hx hb dX11_named_17 ?_
  refine lv_topi (fun z2 ez2 => ?_)
  obtain rfl : z2 = 0 := ez2.trans (by decide)
  refine lv_if_ne (tgt := 23) hx hb dX11_named_18 (by decide) (fun h => absurd rfl h) (fun _ => ?_)
  refine lv_iconst (v := -1) hx hb dX11_named_21 (by decide) ?_
  have hP9 := hP.sub (ws' := []) [] rfl
  have hD9 := hD.sub (ws' := []) [] (by decide) rfl
  have hK9 := hK.sub (tys' := []) [] rfl
  refine W.widen (k := 0) (n := 0) (Nat.le_of_ble_eq_true rfl) (Nat.le_of_ble_eq_true rfl) ?_
  exact W.iret (v := -1) hx hb hr (fun t ht hW => ⟨⟨-1, (), rfl, rfl, by rw [ht]; exact hP9, va_K.moved hW.alike hK9, hD9⟩, hS.F ht⟩) hS.2.2 dX11_named_22
set_option maxHeartbeats 4000000 in
set_option maxRecDepth 100000 in
theorem ct_X11_live (l : Launch) (dC : Nat → ClassId) (dI : Nat → Nat → Nat) (h0 : Nat) (tk : Nat) (pa : Nat) (ta : Nat) (ha : Nat) (ru : Nat) (to : Nat) (sp : Nat) (qt : Nat → Nat) (ts : Nat) (i : Int32) (j : Int32) (k : Int32) (sz : Nat) : Met l yX11_live (.code yX11_live cX11_live 4 (some .int) :: tb) ({ frames := 2, cells := 0, slots := 0, locals := 43 }) (va_Pc [.ref h0, .int i, .int j, .int k] (fun U => U.heap.size = sz ∧ va_P (dC, dI) vwCl [(h0, .inr (11, [.ref tk, .ref pa, .ref ta, .ref ha, .ref ru, .ref to, .ref sp])), (to, .inr (5, [.int 0, .ref (qt 0), .ref (qt 1), .ref (qt 2), .ref ts, .int 0, .ref (qt 3), .ref (qt 4), .ref (qt 5), .ref (qt 6), .ref (qt 7), .ref (qt 8), .ref (qt 9), .ref (qt 10)]))] U.heap ∧ va_K (dC, dI) vwCl [] U ∧ va_D (fun _ => True) [(h0, .inr (11, [.ref tk, .ref pa, .ref ta, .ref ha, .ref ru, .ref to, .ref sp])), (to, .inr (5, [.int 0, .ref (qt 0), .ref (qt 1), .ref (qt 2), .ref ts, .int 0, .ref (qt 3), .ref (qt 4), .ref (qt 5), .ref (qt 6), .ref (qt 7), .ref (qt 8), .ref (qt 9), .ref (qt 10)]))])) (va_Qi (fun (r : Int32) (_ : Unit) => r = -1) (fun (_ : Unit) t => va_P (dC, dI) vwCl [] t.heap ∧ va_K (dC, dI) vwCl [] t ∧ va_D (va_A [(h0, .inr (11, [.ref tk, .ref pa, .ref ta, .ref ha, .ref ru, .ref to, .ref sp])), (to, .inr (5, [.int 0, .ref (qt 0), .ref (qt 1), .ref (qt 2), .ref ts, .int 0, .ref (qt 3), .ref (qt 4), .ref (qt 5), .ref (qt 6), .ref (qt 7), .ref (qt 8), .ref (qt 9), .ref (qt 10)]))] sz) []) (va_A [(h0, .inr (11, [.ref tk, .ref pa, .ref ta, .ref ha, .ref ru, .ref to, .ref sp])), (to, .inr (5, [.int 0, .ref (qt 0), .ref (qt 1), .ref (qt 2), .ref ts, .int 0, .ref (qt 3), .ref (qt 4), .ref (qt 5), .ref (qt 6), .ref (qt 7), .ref (qt 8), .ref (qt 9), .ref (qt 10)]))] sz)) 0 0 (va_A [(h0, .inr (11, [.ref tk, .ref pa, .ref ta, .ref ha, .ref ru, .ref to, .ref sp])), (to, .inr (5, [.int 0, .ref (qt 0), .ref (qt 1), .ref (qt 2), .ref ts, .int 0, .ref (qt 3), .ref (qt 4), .ref (qt 5), .ref (qt 6), .ref (qt 7), .ref (qt 8), .ref (qt 9), .ref (qt 10)]))] sz) := by
  refine Met.ofW (cc := cX11_live) (maxL := 4) (ret := (some .int)) (by decide) rfl ?_
  intro p e s m args below meth c s₁ B hml hv
  obtain ⟨rfl, hsz, hP, hK, hD0⟩ := hv
  have hx := B.exec
  have hb := B.bytes
  have hr := B.returns
  have hts : ∀ w ∈ tb, w.before _ s = true := fun w h => atoms_spec (ws := (.code yX11_live cX11_live 4 (some .int) :: tb)) B.pre w (List.mem_cons_of_mem _ h)
  have hown : s.vm.findClass RX11 = some m.cls := findClass_of_methodNamed B.named
  have hlocks := B.notSynchronized
  subst hsz
  have hD := hD0.self (sz := s.heap.size)
  generalize hAe : va_A [(h0, .inr (11, [.ref tk, .ref pa, .ref ta, .ref ha, .ref ru, .ref to, .ref sp])), (to, .inr (5, [.int 0, .ref (qt 0), .ref (qt 1), .ref (qt 2), .ref ts, .int 0, .ref (qt 3), .ref (qt 4), .ref (qt 5), .ref (qt 6), .ref (qt 7), .ref (qt 8), .ref (qt 9), .ref (qt 10)]))] s.heap.size = A at hD ⊢
  have hA : ∀ q : Nat, s.heap.size ≤ q → A q := fun q h => by rw [← hAe]; exact Or.inr h
  have hS : va_S A s.heap s.heap [] := va_S.rf
  have hP : va_P (dC, dI) vwCl [(h0, .inr (11, [.ref tk, .ref pa, .ref ta, .ref ha, .ref ru, .ref to, .ref sp])), (to, .inr (5, [.int 0, .ref (qt 0), .ref (qt 1), .ref (qt 2), .ref ts, .int 0, .ref (qt 3), .ref (qt 4), .ref (qt 5), .ref (qt 6), .ref (qt 7), .ref (qt 8), .ref (qt 9), .ref (qt 10)]))] s.heap := hP
  have hl := lv_entry ([.ref h0, .int i, .int j, .int k]) (n := 4) (Nat.le_of_ble_eq_true rfl)
  rw [lg_entry_eq]
  generalize (lg_sl ([.ref h0, .int i, .int j, .int k]) ++ List.replicate (4 - (lg_sl ([.ref h0, .int i, .int j, .int k])).length) Slot.unset).toArray = ls at hl ⊢
  have hl : lv_has ls 4 [(0, .ref h0), (1, .int i), (2, .int j), (3, .int k)] := hl
  refine lv_aload_n hx hb dX11_live_0 rfl (lv_at hl 0 rfl) ?_
  refine va_get (D := (dC, dI)) (ci := 11) (v := .ref to) (C := RX11) (T := TX11) (N := 7) hx hb hts in_X11 hown hK hP 0 rfl rfl 5 (by decide) (hts _ wd_483) (fun _ h9 => h9) rfl dX11_live_1 ?_
  refine lv_iload_n hx hb dX11_live_4 rfl (lv_at hl 1 rfl) ?_
  refine lv_iload_n hx hb dX11_live_5 rfl (lv_at hl 2 rfl) ?_
  have hPc := hP.sub (ws' := [(to, .inr (5, [.int 0, .ref (qt 0), .ref (qt 1), .ref (qt 2), .ref ts, .int 0, .ref (qt 3), .ref (qt 4), .ref (qt 5), .ref (qt 6), .ref (qt 7), .ref (qt 8), .ref (qt 9), .ref (qt 10)]))]) [1] rfl
  have hDc := hD.sub (ws' := [(to, .inr (5, [.int 0, .ref (qt 0), .ref (qt 1), .ref (qt 2), .ref ts, .int 0, .ref (qt 3), .ref (qt 4), .ref (qt 5), .ref (qt 6), .ref (qt 7), .ref (qt 8), .ref (qt 9), .ref (qt 10)]))]) [1] (by decide) rfl
  have hKc := hK.sub (tys' := []) [] rfl
  have hFc := va_free (wc := [(to, .inr (5, [.int 0, .ref (qt 0), .ref (qt 1), .ref (qt 2), .ref ts, .int 0, .ref (qt 3), .ref (qt 4), .ref (qt 5), .ref (qt 6), .ref (qt 7), .ref (qt 8), .ref (qt 9), .ref (qt 10)]))]) hD hS hA [1] rfl
  refine va_calli (va_runV (As := [.int i, .int j]) (rest := []) ⟨hx, hb, hml, hown, hts⟩ (ct_X5_hasState l dC dI to qt ts i j s.heap.size) (cwV 2 hts (gd_V wd_790 wd_791 wd_792 wd_13 wd_793) rfl rfl rfl (by decide +kernel) ⟨Nat.le_of_ble_eq_true rfl, Nat.le_of_ble_eq_true rfl⟩) ⟨fun a U g mk q => by obtain ⟨q0, q1, qP, qK, qD⟩ := q; exact ⟨q0, q1, qP, va_K.moved (u := U) (U := U.calling g mk a) (Vm.Alike.refl U.vm) qK, qD⟩, va_recv hKc hPc (ci := 5) (q0 := 0) rfl rfl, fun U hU hW => ⟨rfl, by rw [hU], by rw [hU]; exact hPc, va_K.moved hW.alike hKc, hDc.weaken (fun _ _ _ _ => trivial)⟩⟩ rfl rfl hl.1 rfl (lv_room (Nat.le_of_ble_eq_true rfl)) dX11_live_6 ⟨Nat.le_of_ble_eq_true rfl, Nat.le_of_ble_eq_true rfl⟩) hS (fun q _ h => hFc q h) hFc (fun r1 u t H1 locs ht hvm hw hB hz1 hk1 hS => ?_)
  obtain ⟨hP1, hK1, hD1⟩ := hB
  rw [ht] at hP1
  have hK1 := va_K.moved hvm.symm hK1
  obtain ⟨hP, hD⟩ := va_join (wr := [(h0, .inr (11, [.ref tk, .ref pa, .ref ta, .ref ha, .ref ru, .ref to, .ref sp]))]) (w1 := []) hP hD [1] [0] rfl rfl (by decide) (by decide) hk1 hFc hP1 hD1
  have hK := (hK.sub (tys' := []) [] rfl).app (hK1.sub (tys' := []) [] rfl)
  generalize H1 = H at hP hS ⊢
  have hP : va_P (dC, dI) vwCl [(h0, .inr (11, [.ref tk, .ref pa, .ref ta, .ref ha, .ref ru, .ref to, .ref sp]))] H := hP
  have hD : va_D A [(h0, .inr (11, [.ref tk, .ref pa, .ref ta, .ref ha, .ref ru, .ref to, .ref sp]))] := hD
  have hK : va_K (dC, dI) vwCl [] s := hK
  obtain rfl := hw
  refine lv_if_eq (tgt := 29) hx hb dX11_live_9 (by decide) (fun _ => ?_) (fun h => absurd (by decide) h)
  refine lv_iconst (v := -1) hx hb dX11_live_29 (by decide) ?_
  have hP9 := hP.sub (ws' := []) [] rfl
  have hD9 := hD.sub (ws' := []) [] (by decide) rfl
  have hK9 := hK.sub (tys' := []) [] rfl
  refine W.widen (k := 0) (n := 0) (Nat.le_of_ble_eq_true rfl) (Nat.le_of_ble_eq_true rfl) ?_
  exact W.iret (v := -1) hx hb hr (fun t ht hW => ⟨⟨-1, (), rfl, rfl, by rw [ht]; exact hP9, va_K.moved hW.alike hK9, hD9⟩, hS.F ht⟩) hS.2.2 dX11_live_30
set_option maxHeartbeats 4000000 in
set_option maxRecDepth 100000 in
theorem ct_X11_next (l : Launch) (dC : Nat → ClassId) (dI : Nat → Nat → Nat) (h0 : Nat) (tk : Nat) (pa : Nat) (ta : Nat) (ha : Nat) (ru : Nat) (to : Nat) (sp : Nat) (qt : Nat → Nat) (ts : Nat) (i : Int32) (j : Int32) (k : Int32) (sz : Nat) : Met l yX11_next (.code yX11_next cX11_next 4 (some .int) :: tb) ({ frames := 2, cells := 0, slots := 0, locals := 43 }) (va_Pc [.ref h0, .int i, .int j, .int k] (fun U => U.heap.size = sz ∧ va_P (dC, dI) vwCl [(h0, .inr (11, [.ref tk, .ref pa, .ref ta, .ref ha, .ref ru, .ref to, .ref sp])), (to, .inr (5, [.int 0, .ref (qt 0), .ref (qt 1), .ref (qt 2), .ref ts, .int 0, .ref (qt 3), .ref (qt 4), .ref (qt 5), .ref (qt 6), .ref (qt 7), .ref (qt 8), .ref (qt 9), .ref (qt 10)]))] U.heap ∧ va_K (dC, dI) vwCl [] U ∧ va_D (fun _ => True) [(h0, .inr (11, [.ref tk, .ref pa, .ref ta, .ref ha, .ref ru, .ref to, .ref sp])), (to, .inr (5, [.int 0, .ref (qt 0), .ref (qt 1), .ref (qt 2), .ref ts, .int 0, .ref (qt 3), .ref (qt 4), .ref (qt 5), .ref (qt 6), .ref (qt 7), .ref (qt 8), .ref (qt 9), .ref (qt 10)]))])) (va_Qi (fun (r : Int32) (_ : Unit) => r = -1) (fun (_ : Unit) t => va_P (dC, dI) vwCl [] t.heap ∧ va_K (dC, dI) vwCl [] t ∧ va_D (va_A [(h0, .inr (11, [.ref tk, .ref pa, .ref ta, .ref ha, .ref ru, .ref to, .ref sp])), (to, .inr (5, [.int 0, .ref (qt 0), .ref (qt 1), .ref (qt 2), .ref ts, .int 0, .ref (qt 3), .ref (qt 4), .ref (qt 5), .ref (qt 6), .ref (qt 7), .ref (qt 8), .ref (qt 9), .ref (qt 10)]))] sz) []) (va_A [(h0, .inr (11, [.ref tk, .ref pa, .ref ta, .ref ha, .ref ru, .ref to, .ref sp])), (to, .inr (5, [.int 0, .ref (qt 0), .ref (qt 1), .ref (qt 2), .ref ts, .int 0, .ref (qt 3), .ref (qt 4), .ref (qt 5), .ref (qt 6), .ref (qt 7), .ref (qt 8), .ref (qt 9), .ref (qt 10)]))] sz)) 0 0 (va_A [(h0, .inr (11, [.ref tk, .ref pa, .ref ta, .ref ha, .ref ru, .ref to, .ref sp])), (to, .inr (5, [.int 0, .ref (qt 0), .ref (qt 1), .ref (qt 2), .ref ts, .int 0, .ref (qt 3), .ref (qt 4), .ref (qt 5), .ref (qt 6), .ref (qt 7), .ref (qt 8), .ref (qt 9), .ref (qt 10)]))] sz) := by
  refine Met.ofW (cc := cX11_next) (maxL := 4) (ret := (some .int)) (by decide) rfl ?_
  intro p e s m args below meth c s₁ B hml hv
  obtain ⟨rfl, hsz, hP, hK, hD0⟩ := hv
  have hx := B.exec
  have hb := B.bytes
  have hr := B.returns
  have hts : ∀ w ∈ tb, w.before _ s = true := fun w h => atoms_spec (ws := (.code yX11_next cX11_next 4 (some .int) :: tb)) B.pre w (List.mem_cons_of_mem _ h)
  have hown : s.vm.findClass RX11 = some m.cls := findClass_of_methodNamed B.named
  have hlocks := B.notSynchronized
  subst hsz
  have hD := hD0.self (sz := s.heap.size)
  generalize hAe : va_A [(h0, .inr (11, [.ref tk, .ref pa, .ref ta, .ref ha, .ref ru, .ref to, .ref sp])), (to, .inr (5, [.int 0, .ref (qt 0), .ref (qt 1), .ref (qt 2), .ref ts, .int 0, .ref (qt 3), .ref (qt 4), .ref (qt 5), .ref (qt 6), .ref (qt 7), .ref (qt 8), .ref (qt 9), .ref (qt 10)]))] s.heap.size = A at hD ⊢
  have hA : ∀ q : Nat, s.heap.size ≤ q → A q := fun q h => by rw [← hAe]; exact Or.inr h
  have hS : va_S A s.heap s.heap [] := va_S.rf
  have hP : va_P (dC, dI) vwCl [(h0, .inr (11, [.ref tk, .ref pa, .ref ta, .ref ha, .ref ru, .ref to, .ref sp])), (to, .inr (5, [.int 0, .ref (qt 0), .ref (qt 1), .ref (qt 2), .ref ts, .int 0, .ref (qt 3), .ref (qt 4), .ref (qt 5), .ref (qt 6), .ref (qt 7), .ref (qt 8), .ref (qt 9), .ref (qt 10)]))] s.heap := hP
  have hl := lv_entry ([.ref h0, .int i, .int j, .int k]) (n := 4) (Nat.le_of_ble_eq_true rfl)
  rw [lg_entry_eq]
  generalize (lg_sl ([.ref h0, .int i, .int j, .int k]) ++ List.replicate (4 - (lg_sl ([.ref h0, .int i, .int j, .int k])).length) Slot.unset).toArray = ls at hl ⊢
  have hl : lv_has ls 4 [(0, .ref h0), (1, .int i), (2, .int j), (3, .int k)] := hl
  refine lv_aload_n hx hb dX11_next_0 rfl (lv_at hl 0 rfl) ?_
  refine va_get (D := (dC, dI)) (ci := 11) (v := .ref to) (C := RX11) (T := TX11) (N := 7) hx hb hts in_X11 hown hK hP 0 rfl rfl 5 (by decide) (hts _ wd_483) (fun _ h9 => h9) rfl dX11_next_1 ?_
  refine lv_iload_n hx hb dX11_next_4 rfl (lv_at hl 1 rfl) ?_
  refine lv_iload_n hx hb dX11_next_5 rfl (lv_at hl 2 rfl) ?_
  have hPc := hP.sub (ws' := [(to, .inr (5, [.int 0, .ref (qt 0), .ref (qt 1), .ref (qt 2), .ref ts, .int 0, .ref (qt 3), .ref (qt 4), .ref (qt 5), .ref (qt 6), .ref (qt 7), .ref (qt 8), .ref (qt 9), .ref (qt 10)]))]) [1] rfl
  have hDc := hD.sub (ws' := [(to, .inr (5, [.int 0, .ref (qt 0), .ref (qt 1), .ref (qt 2), .ref ts, .int 0, .ref (qt 3), .ref (qt 4), .ref (qt 5), .ref (qt 6), .ref (qt 7), .ref (qt 8), .ref (qt 9), .ref (qt 10)]))]) [1] (by decide) rfl
  have hKc := hK.sub (tys' := []) [] rfl
  have hFc := va_free (wc := [(to, .inr (5, [.int 0, .ref (qt 0), .ref (qt 1), .ref (qt 2), .ref ts, .int 0, .ref (qt 3), .ref (qt 4), .ref (qt 5), .ref (qt 6), .ref (qt 7), .ref (qt 8), .ref (qt 9), .ref (qt 10)]))]) hD hS hA [1] rfl
  refine va_calli (va_runV (As := [.int i, .int j]) (rest := []) ⟨hx, hb, hml, hown, hts⟩ (ct_X5_hasState l dC dI to qt ts i j s.heap.size) (cwV 2 hts (gd_V wd_790 wd_791 wd_792 wd_13 wd_793) rfl rfl rfl (by decide +kernel) ⟨Nat.le_of_ble_eq_true rfl, Nat.le_of_ble_eq_true rfl⟩) ⟨fun a U g mk q => by obtain ⟨q0, q1, qP, qK, qD⟩ := q; exact ⟨q0, q1, qP, va_K.moved (u := U) (U := U.calling g mk a) (Vm.Alike.refl U.vm) qK, qD⟩, va_recv hKc hPc (ci := 5) (q0 := 0) rfl rfl, fun U hU hW => ⟨rfl, by rw [hU], by rw [hU]; exact hPc, va_K.moved hW.alike hKc, hDc.weaken (fun _ _ _ _ => trivial)⟩⟩ rfl rfl hl.1 rfl (lv_room (Nat.le_of_ble_eq_true rfl)) dX11_next_6 ⟨Nat.le_of_ble_eq_true rfl, Nat.le_of_ble_eq_true rfl⟩) hS (fun q _ h => hFc q h) hFc (fun r1 u t H1 locs ht hvm hw hB hz1 hk1 hS => ?_)
  obtain ⟨hP1, hK1, hD1⟩ := hB
  rw [ht] at hP1
  have hK1 := va_K.moved hvm.symm hK1
  obtain ⟨hP, hD⟩ := va_join (wr := [(h0, .inr (11, [.ref tk, .ref pa, .ref ta, .ref ha, .ref ru, .ref to, .ref sp]))]) (w1 := []) hP hD [1] [0] rfl rfl (by decide) (by decide) hk1 hFc hP1 hD1
  have hK := (hK.sub (tys' := []) [] rfl).app (hK1.sub (tys' := []) [] rfl)
  generalize H1 = H at hP hS ⊢
  have hP : va_P (dC, dI) vwCl [(h0, .inr (11, [.ref tk, .ref pa, .ref ta, .ref ha, .ref ru, .ref to, .ref sp]))] H := hP
  have hD : va_D A [(h0, .inr (11, [.ref tk, .ref pa, .ref ta, .ref ha, .ref ru, .ref to, .ref sp]))] := hD
  have hK : va_K (dC, dI) vwCl [] s := hK
  obtain rfl := hw
  refine lv_if_eq (tgt := 24) hx hb dX11_next_9 (by decide) (fun _ => ?_) (fun h => absurd (by decide) h)
  refine lv_iconst (v := -1) hx hb dX11_next_24 (by decide) ?_
  have hP9 := hP.sub (ws' := []) [] rfl
  have hD9 := hD.sub (ws' := []) [] (by decide) rfl
  have hK9 := hK.sub (tys' := []) [] rfl
  refine W.widen (k := 0) (n := 0) (Nat.le_of_ble_eq_true rfl) (Nat.le_of_ble_eq_true rfl) ?_
  exact W.iret (v := -1) hx hb hr (fun t ht hW => ⟨⟨-1, (), rfl, rfl, by rw [ht]; exact hP9, va_K.moved hW.alike hK9, hD9⟩, hS.F ht⟩) hS.2.2 dX11_next_25
set_option maxHeartbeats 4000000 in
set_option maxRecDepth 100000 in
theorem ct_X11_begin (l : Launch) (dC : Nat → ClassId) (dI : Nat → Nat → Nat) (h0 : Nat) (tk : Nat) (pa : Nat) (ta : Nat) (ha : Nat) (ru : Nat) (to : Nat) (sp : Nat) (qt : Nat → Nat) (ts : Nat) (i : Int32) (j : Int32) (k : Int32) (a : Int32) (b : Int32) (sz : Nat) : Met l yX11_begin (.code yX11_begin cX11_begin 8 (some .int) :: tb) ({ frames := 1, cells := 0, slots := 0, locals := 21 }) (va_Pc [.ref h0, .int i, .int j, .int k, .int a, .int b] (fun U => U.heap.size = sz ∧ va_P (dC, dI) vwCl [(h0, .inr (11, [.ref tk, .ref pa, .ref ta, .ref ha, .ref ru, .ref to, .ref sp])), (to, .inr (5, [.int 0, .ref (qt 0), .ref (qt 1), .ref (qt 2), .ref ts, .int 0, .ref (qt 3), .ref (qt 4), .ref (qt 5), .ref (qt 6), .ref (qt 7), .ref (qt 8), .ref (qt 9), .ref (qt 10)]))] U.heap ∧ va_K (dC, dI) vwCl [] U ∧ va_D (fun _ => True) [(h0, .inr (11, [.ref tk, .ref pa, .ref ta, .ref ha, .ref ru, .ref to, .ref sp])), (to, .inr (5, [.int 0, .ref (qt 0), .ref (qt 1), .ref (qt 2), .ref ts, .int 0, .ref (qt 3), .ref (qt 4), .ref (qt 5), .ref (qt 6), .ref (qt 7), .ref (qt 8), .ref (qt 9), .ref (qt 10)]))])) (va_Qi (fun (r : Int32) (_ : Unit) => r = -1) (fun (_ : Unit) t => va_P (dC, dI) vwCl [] t.heap ∧ va_K (dC, dI) vwCl [] t ∧ va_D (va_A [(h0, .inr (11, [.ref tk, .ref pa, .ref ta, .ref ha, .ref ru, .ref to, .ref sp])), (to, .inr (5, [.int 0, .ref (qt 0), .ref (qt 1), .ref (qt 2), .ref ts, .int 0, .ref (qt 3), .ref (qt 4), .ref (qt 5), .ref (qt 6), .ref (qt 7), .ref (qt 8), .ref (qt 9), .ref (qt 10)]))] sz) []) (va_A [(h0, .inr (11, [.ref tk, .ref pa, .ref ta, .ref ha, .ref ru, .ref to, .ref sp])), (to, .inr (5, [.int 0, .ref (qt 0), .ref (qt 1), .ref (qt 2), .ref ts, .int 0, .ref (qt 3), .ref (qt 4), .ref (qt 5), .ref (qt 6), .ref (qt 7), .ref (qt 8), .ref (qt 9), .ref (qt 10)]))] sz)) 0 0 (va_A [(h0, .inr (11, [.ref tk, .ref pa, .ref ta, .ref ha, .ref ru, .ref to, .ref sp])), (to, .inr (5, [.int 0, .ref (qt 0), .ref (qt 1), .ref (qt 2), .ref ts, .int 0, .ref (qt 3), .ref (qt 4), .ref (qt 5), .ref (qt 6), .ref (qt 7), .ref (qt 8), .ref (qt 9), .ref (qt 10)]))] sz) := by
  refine Met.ofW (cc := cX11_begin) (maxL := 8) (ret := (some .int)) (by decide) rfl ?_
  intro p e s m args below meth c s₁ B hml hv
  obtain ⟨rfl, hsz, hP, hK, hD0⟩ := hv
  have hx := B.exec
  have hb := B.bytes
  have hr := B.returns
  have hts : ∀ w ∈ tb, w.before _ s = true := fun w h => atoms_spec (ws := (.code yX11_begin cX11_begin 8 (some .int) :: tb)) B.pre w (List.mem_cons_of_mem _ h)
  have hown : s.vm.findClass RX11 = some m.cls := findClass_of_methodNamed B.named
  have hlocks := B.notSynchronized
  subst hsz
  have hD := hD0.self (sz := s.heap.size)
  generalize hAe : va_A [(h0, .inr (11, [.ref tk, .ref pa, .ref ta, .ref ha, .ref ru, .ref to, .ref sp])), (to, .inr (5, [.int 0, .ref (qt 0), .ref (qt 1), .ref (qt 2), .ref ts, .int 0, .ref (qt 3), .ref (qt 4), .ref (qt 5), .ref (qt 6), .ref (qt 7), .ref (qt 8), .ref (qt 9), .ref (qt 10)]))] s.heap.size = A at hD ⊢
  have hA : ∀ q : Nat, s.heap.size ≤ q → A q := fun q h => by rw [← hAe]; exact Or.inr h
  have hS : va_S A s.heap s.heap [] := va_S.rf
  have hP : va_P (dC, dI) vwCl [(h0, .inr (11, [.ref tk, .ref pa, .ref ta, .ref ha, .ref ru, .ref to, .ref sp])), (to, .inr (5, [.int 0, .ref (qt 0), .ref (qt 1), .ref (qt 2), .ref ts, .int 0, .ref (qt 3), .ref (qt 4), .ref (qt 5), .ref (qt 6), .ref (qt 7), .ref (qt 8), .ref (qt 9), .ref (qt 10)]))] s.heap := hP
  have hl := lv_entry ([.ref h0, .int i, .int j, .int k, .int a, .int b]) (n := 8) (Nat.le_of_ble_eq_true rfl)
  rw [lg_entry_eq]
  generalize (lg_sl ([.ref h0, .int i, .int j, .int k, .int a, .int b]) ++ List.replicate (8 - (lg_sl ([.ref h0, .int i, .int j, .int k, .int a, .int b])).length) Slot.unset).toArray = ls at hl ⊢
  have hl : lv_has ls 8 [(0, .ref h0), (1, .int i), (2, .int j), (3, .int k), (4, .int a), (5, .int b)] := hl
  refine lv_aload_n hx hb dX11_begin_0 rfl (lv_at hl 0 rfl) ?_
  refine va_get (D := (dC, dI)) (ci := 11) (v := .ref to) (C := RX11) (T := TX11) (N := 7) hx hb hts in_X11 hown hK hP 0 rfl rfl 5 (by decide) (hts _ wd_483) (fun _ h9 => h9) rfl dX11_begin_1 ?_
  refine lv_iload_n hx hb dX11_begin_4 rfl (lv_at hl 1 rfl) ?_
  have hPc := hP.sub (ws' := [(to, .inr (5, [.int 0, .ref (qt 0), .ref (qt 1), .ref (qt 2), .ref ts, .int 0, .ref (qt 3), .ref (qt 4), .ref (qt 5), .ref (qt 6), .ref (qt 7), .ref (qt 8), .ref (qt 9), .ref (qt 10)]))]) [1] rfl
  have hDc := hD.sub (ws' := [(to, .inr (5, [.int 0, .ref (qt 0), .ref (qt 1), .ref (qt 2), .ref ts, .int 0, .ref (qt 3), .ref (qt 4), .ref (qt 5), .ref (qt 6), .ref (qt 7), .ref (qt 8), .ref (qt 9), .ref (qt 10)]))]) [1] (by decide) rfl
  have hKc := hK.sub (tys' := []) [] rfl
  have hFc := va_free (wc := [(to, .inr (5, [.int 0, .ref (qt 0), .ref (qt 1), .ref (qt 2), .ref ts, .int 0, .ref (qt 3), .ref (qt 4), .ref (qt 5), .ref (qt 6), .ref (qt 7), .ref (qt 8), .ref (qt 9), .ref (qt 10)]))]) hD hS hA [1] rfl
  refine va_calli (va_runV (As := [.int i]) (rest := []) ⟨hx, hb, hml, hown, hts⟩ (ct_X5_has l dC dI to qt ts i s.heap.size) (cwV 1 hts (gd_V wd_851 wd_649 wd_650 wd_13 wd_651) rfl rfl rfl (by decide +kernel) ⟨Nat.le_of_ble_eq_true rfl, Nat.le_of_ble_eq_true rfl⟩) ⟨fun a U g mk q => by obtain ⟨q0, q1, qP, qK, qD⟩ := q; exact ⟨q0, q1, qP, va_K.moved (u := U) (U := U.calling g mk a) (Vm.Alike.refl U.vm) qK, qD⟩, va_recv hKc hPc (ci := 5) (q0 := 0) rfl rfl, fun U hU hW => ⟨rfl, by rw [hU], by rw [hU]; exact hPc, va_K.moved hW.alike hKc, hDc.weaken (fun _ _ _ _ => trivial)⟩⟩ rfl rfl hl.1 rfl (lv_room (Nat.le_of_ble_eq_true rfl)) dX11_begin_5 ⟨Nat.le_of_ble_eq_true rfl, Nat.le_of_ble_eq_true rfl⟩) hS (fun q _ h => hFc q h) hFc (fun r1 u t H1 locs ht hvm hw hB hz1 hk1 hS => ?_)
  obtain ⟨hP1, hK1, hD1⟩ := hB
  rw [ht] at hP1
  have hK1 := va_K.moved hvm.symm hK1
  obtain ⟨hP, hD⟩ := va_join (wr := [(h0, .inr (11, [.ref tk, .ref pa, .ref ta, .ref ha, .ref ru, .ref to, .ref sp]))]) (w1 := []) hP hD [1] [0] rfl rfl (by decide) (by decide) hk1 hFc hP1 hD1
  have hK := (hK.sub (tys' := []) [] rfl).app (hK1.sub (tys' := []) [] rfl)
  generalize H1 = H at hP hS ⊢
  have hP : va_P (dC, dI) vwCl [(h0, .inr (11, [.ref tk, .ref pa, .ref ta, .ref ha, .ref ru, .ref to, .ref sp]))] H := hP
  have hD : va_D A [(h0, .inr (11, [.ref tk, .ref pa, .ref ta, .ref ha, .ref ru, .ref to, .ref sp]))] := hD
  have hK : va_K (dC, dI) vwCl [] s := hK
  obtain rfl := hw
  refine lv_if_ne (tgt := 13) hx hb dX11_begin_8 (by decide) (fun h => absurd rfl h) (fun _ => ?_)
  refine lv_iconst (v := -1) hx hb dX11_begin_11 (by decide) ?_
  have hP9 := hP.sub (ws' := []) [] rfl
  have hD9 := hD.sub (ws' := []) [] (by decide) rfl
  have hK9 := hK.sub (tys' := []) [] rfl
  refine W.widen (k := 0) (n := 0) (Nat.le_of_ble_eq_true rfl) (Nat.le_of_ble_eq_true rfl) ?_
  exact W.iret (v := -1) hx hb hr (fun t ht hW => ⟨⟨-1, (), rfl, rfl, by rw [ht]; exact hP9, va_K.moved hW.alike hK9, hD9⟩, hS.F ht⟩) hS.2.2 dX11_begin_12
set_option maxHeartbeats 4000000 in
set_option maxRecDepth 100000 in
theorem ct_X11_turn (l : Launch) (dC : Nat → ClassId) (dI : Nat → Nat → Nat) (h0 : Nat) (tk : Nat) (pa : Nat) (ta : Nat) (ha : Nat) (ru : Nat) (to : Nat) (sp : Nat) (pu : Nat) (nu : Nat) (pv : Value) (xt : Nat) (xr : Nat) (le : Nat) (lc : Nat) (ln : Nat) (al : Nat) (lo : Nat) (xg : Nat) (k : Int32) (sz : Nat) : Met l yX11_turn (.code yX11_turn cX11_turn 2 (some .int) :: tb) ({ frames := 2, cells := 0, slots := 0, locals := 46 }) (va_Pc [.ref h0, .int k] (fun U => U.heap.size = sz ∧ va_P (dC, dI) vwCl [(h0, .inr (11, [.ref tk, .ref pa, .ref ta, .ref ha, .ref ru, .ref to, .ref sp])), (ru, .inr (6, [.int 0, .int 0, .ref pu, .ref ha, .ref nu, .int 0, .int 0, .int 0])), (ha, .inr (1, [pv, .ref xt, .int 0, .int 0, .ref xr, .int 0, .int 0, .ref le, .ref lc, .ref ln, .ref al, .ref lo, .ref xg, .int 0, .null]))] U.heap ∧ va_K (dC, dI) vwCl [] U ∧ va_D (fun _ => True) [(h0, .inr (11, [.ref tk, .ref pa, .ref ta, .ref ha, .ref ru, .ref to, .ref sp])), (ru, .inr (6, [.int 0, .int 0, .ref pu, .ref ha, .ref nu, .int 0, .int 0, .int 0])), (ha, .inr (1, [pv, .ref xt, .int 0, .int 0, .ref xr, .int 0, .int 0, .ref le, .ref lc, .ref ln, .ref al, .ref lo, .ref xg, .int 0, .null]))])) (va_Qi (fun (r : Int32) (_ : Unit) => r = -1) (fun (_ : Unit) t => va_P (dC, dI) vwCl [] t.heap ∧ va_K (dC, dI) vwCl [] t ∧ va_D (va_A [(h0, .inr (11, [.ref tk, .ref pa, .ref ta, .ref ha, .ref ru, .ref to, .ref sp])), (ru, .inr (6, [.int 0, .int 0, .ref pu, .ref ha, .ref nu, .int 0, .int 0, .int 0])), (ha, .inr (1, [pv, .ref xt, .int 0, .int 0, .ref xr, .int 0, .int 0, .ref le, .ref lc, .ref ln, .ref al, .ref lo, .ref xg, .int 0, .null]))] sz) []) (va_A [(h0, .inr (11, [.ref tk, .ref pa, .ref ta, .ref ha, .ref ru, .ref to, .ref sp])), (ru, .inr (6, [.int 0, .int 0, .ref pu, .ref ha, .ref nu, .int 0, .int 0, .int 0])), (ha, .inr (1, [pv, .ref xt, .int 0, .int 0, .ref xr, .int 0, .int 0, .ref le, .ref lc, .ref ln, .ref al, .ref lo, .ref xg, .int 0, .null]))] sz)) 0 0 (va_A [(h0, .inr (11, [.ref tk, .ref pa, .ref ta, .ref ha, .ref ru, .ref to, .ref sp])), (ru, .inr (6, [.int 0, .int 0, .ref pu, .ref ha, .ref nu, .int 0, .int 0, .int 0])), (ha, .inr (1, [pv, .ref xt, .int 0, .int 0, .ref xr, .int 0, .int 0, .ref le, .ref lc, .ref ln, .ref al, .ref lo, .ref xg, .int 0, .null]))] sz) := by
  refine Met.ofW (cc := cX11_turn) (maxL := 2) (ret := (some .int)) (by decide) rfl ?_
  intro p e s m args below meth c s₁ B hml hv
  obtain ⟨rfl, hsz, hP, hK, hD0⟩ := hv
  have hx := B.exec
  have hb := B.bytes
  have hr := B.returns
  have hts : ∀ w ∈ tb, w.before _ s = true := fun w h => atoms_spec (ws := (.code yX11_turn cX11_turn 2 (some .int) :: tb)) B.pre w (List.mem_cons_of_mem _ h)
  have hown : s.vm.findClass RX11 = some m.cls := findClass_of_methodNamed B.named
  have hlocks := B.notSynchronized
  subst hsz
  have hD := hD0.self (sz := s.heap.size)
  generalize hAe : va_A [(h0, .inr (11, [.ref tk, .ref pa, .ref ta, .ref ha, .ref ru, .ref to, .ref sp])), (ru, .inr (6, [.int 0, .int 0, .ref pu, .ref ha, .ref nu, .int 0, .int 0, .int 0])), (ha, .inr (1, [pv, .ref xt, .int 0, .int 0, .ref xr, .int 0, .int 0, .ref le, .ref lc, .ref ln, .ref al, .ref lo, .ref xg, .int 0, .null]))] s.heap.size = A at hD ⊢
  have hA : ∀ q : Nat, s.heap.size ≤ q → A q := fun q h => by rw [← hAe]; exact Or.inr h
  have hS : va_S A s.heap s.heap [] := va_S.rf
  have hP : va_P (dC, dI) vwCl [(h0, .inr (11, [.ref tk, .ref pa, .ref ta, .ref ha, .ref ru, .ref to, .ref sp])), (ru, .inr (6, [.int 0, .int 0, .ref pu, .ref ha, .ref nu, .int 0, .int 0, .int 0])), (ha, .inr (1, [pv, .ref xt, .int 0, .int 0, .ref xr, .int 0, .int 0, .ref le, .ref lc, .ref ln, .ref al, .ref lo, .ref xg, .int 0, .null]))] s.heap := hP
  have hl := lv_entry ([.ref h0, .int k]) (n := 2) (Nat.le_of_ble_eq_true rfl)
  rw [lg_entry_eq]
  generalize (lg_sl ([.ref h0, .int k]) ++ List.replicate (2 - (lg_sl ([.ref h0, .int k])).length) Slot.unset).toArray = ls at hl ⊢
  have hl : lv_has ls 2 [(0, .ref h0), (1, .int k)] := hl
  refine lv_aload_n hx hb dX11_turn_0 rfl (lv_at hl 0 rfl) ?_
  refine va_get (D := (dC, dI)) (ci := 11) (v := .ref ru) (C := RX11) (T := TX11) (N := 7) hx hb hts in_X11 hown hK hP 0 rfl rfl 4 (by decide) (hts _ wd_482) (fun _ h9 => h9) rfl dX11_turn_1 ?_
  refine lv_iload_n hx hb dX11_turn_4 rfl (lv_at hl 1 rfl) ?_
  have hPc := hP.sub (ws' := [(ru, .inr (6, [.int 0, .int 0, .ref pu, .ref ha, .ref nu, .int 0, .int 0, .int 0])), (ha, .inr (1, [(pv : Value), .ref xt, .int 0, .int 0, .ref xr, .int 0, .int 0, .ref le, .ref lc, .ref ln, .ref al, .ref lo, .ref xg, .int 0, .null]))]) [1, 2] rfl
  have hDc := hD.sub (ws' := [(ru, .inr (6, [.int 0, .int 0, .ref pu, .ref ha, .ref nu, .int 0, .int 0, .int 0])), (ha, .inr (1, [(pv : Value), .ref xt, .int 0, .int 0, .ref xr, .int 0, .int 0, .ref le, .ref lc, .ref ln, .ref al, .ref lo, .ref xg, .int 0, .null]))]) [1, 2] (by decide) rfl
  have hKc := hK.sub (tys' := []) [] rfl
  have hFc := va_free (wc := [(ru, .inr (6, [.int 0, .int 0, .ref pu, .ref ha, .ref nu, .int 0, .int 0, .int 0])), (ha, .inr (1, [(pv : Value), .ref xt, .int 0, .int 0, .ref xr, .int 0, .int 0, .ref le, .ref lc, .ref ln, .ref al, .ref lo, .ref xg, .int 0, .null]))]) hD hS hA [1, 2] rfl
  refine va_calli (va_runV (As := [.int k]) (rest := []) ⟨hx, hb, hml, hown, hts⟩ (ct_X6_takeTurn l dC dI ru pu ha nu (pv : Value) xt xr le lc ln al lo xg k s.heap.size) (cwV 1 hts (gd_V wd_961 wd_962 wd_963 wd_12 wd_964) rfl rfl rfl (by decide +kernel) ⟨Nat.le_of_ble_eq_true rfl, Nat.le_of_ble_eq_true rfl⟩) ⟨fun a U g mk q => by obtain ⟨q0, q1, qP, qK, qD⟩ := q; exact ⟨q0, q1, qP, va_K.moved (u := U) (U := U.calling g mk a) (Vm.Alike.refl U.vm) qK, qD⟩, va_recv hKc hPc (ci := 6) (q0 := 0) rfl rfl, fun U hU hW => ⟨rfl, by rw [hU], by rw [hU]; exact hPc, va_K.moved hW.alike hKc, hDc.weaken (fun _ _ _ _ => trivial)⟩⟩ rfl rfl hl.1 rfl (lv_room (Nat.le_of_ble_eq_true rfl)) dX11_turn_5 ⟨Nat.le_of_ble_eq_true rfl, Nat.le_of_ble_eq_true rfl⟩) hS (fun q _ h => hFc q h) hFc (fun r1 u t H1 locs ht hvm hw hB hz1 hk1 hS => ?_)
  obtain ⟨hP1, hK1, hD1⟩ := hB
  rw [ht] at hP1
  have hK1 := va_K.moved hvm.symm hK1
  obtain ⟨hP, hD⟩ := va_join (wr := [(h0, .inr (11, [.ref tk, .ref pa, .ref ta, .ref ha, .ref ru, .ref to, .ref sp]))]) (w1 := []) hP hD [1, 2] [0] rfl rfl (by decide) (by decide) hk1 hFc hP1 hD1
  have hK := (hK.sub (tys' := []) [] rfl).app (hK1.sub (tys' := []) [] rfl)
  generalize H1 = H at hP hS ⊢
  have hP : va_P (dC, dI) vwCl [(h0, .inr (11, [.ref tk, .ref pa, .ref ta, .ref ha, .ref ru, .ref to, .ref sp]))] H := hP
  have hD : va_D A [(h0, .inr (11, [.ref tk, .ref pa, .ref ta, .ref ha, .ref ru, .ref to, .ref sp]))] := hD
  have hK : va_K (dC, dI) vwCl [] s := hK
  obtain rfl := hw
  have hP9 := hP.sub (ws' := []) [] rfl
  have hD9 := hD.sub (ws' := []) [] (by decide) rfl
  have hK9 := hK.sub (tys' := []) [] rfl
  refine W.widen (k := 0) (n := 0) (Nat.le_of_ble_eq_true rfl) (Nat.le_of_ble_eq_true rfl) ?_
  exact W.iret (v := -1) hx hb hr (fun t ht hW => ⟨⟨-1, (), rfl, rfl, by rw [ht]; exact hP9, va_K.moved hW.alike hK9, hD9⟩, hS.F ht⟩) hS.2.2 dX11_turn_8
set_option maxHeartbeats 4000000 in
set_option maxRecDepth 100000 in
theorem ct_X11_rounds (l : Launch) (dC : Nat → ClassId) (dI : Nat → Nat → Nat) (h0 : Nat) (tk : Nat) (pa : Nat) (ta : Nat) (ha : Nat) (ru : Nat) (to : Nat) (sp : Nat) (pu : Nat) (nu : Nat) (pv : Value) (xt : Nat) (xr : Nat) (le : Nat) (lc : Nat) (ln : Nat) (al : Nat) (lo : Nat) (xg : Nat) (k : Int32) (sz : Nat) : Met l yX11_rounds (.code yX11_rounds cX11_rounds 3 (some .int) :: tb) ({ frames := 2, cells := 0, slots := 0, locals := 46 }) (va_Pc [.ref h0, .int k] (fun U => U.heap.size = sz ∧ va_P (dC, dI) vwCl [(h0, .inr (11, [.ref tk, .ref pa, .ref ta, .ref ha, .ref ru, .ref to, .ref sp])), (ru, .inr (6, [.int 0, .int 0, .ref pu, .ref ha, .ref nu, .int 0, .int 0, .int 0])), (ha, .inr (1, [pv, .ref xt, .int 0, .int 0, .ref xr, .int 0, .int 0, .ref le, .ref lc, .ref ln, .ref al, .ref lo, .ref xg, .int 0, .null]))] U.heap ∧ va_K (dC, dI) vwCl [] U ∧ va_D (fun _ => True) [(h0, .inr (11, [.ref tk, .ref pa, .ref ta, .ref ha, .ref ru, .ref to, .ref sp])), (ru, .inr (6, [.int 0, .int 0, .ref pu, .ref ha, .ref nu, .int 0, .int 0, .int 0])), (ha, .inr (1, [pv, .ref xt, .int 0, .int 0, .ref xr, .int 0, .int 0, .ref le, .ref lc, .ref ln, .ref al, .ref lo, .ref xg, .int 0, .null]))])) (va_Qi (fun (r : Int32) (_ : Unit) => r = if k < 0 then -1 else if 400 < k then -1 else 0) (fun (_ : Unit) t => va_P (dC, dI) vwCl [] t.heap ∧ va_K (dC, dI) vwCl [] t ∧ va_D (va_A [(h0, .inr (11, [.ref tk, .ref pa, .ref ta, .ref ha, .ref ru, .ref to, .ref sp])), (ru, .inr (6, [.int 0, .int 0, .ref pu, .ref ha, .ref nu, .int 0, .int 0, .int 0])), (ha, .inr (1, [pv, .ref xt, .int 0, .int 0, .ref xr, .int 0, .int 0, .ref le, .ref lc, .ref ln, .ref al, .ref lo, .ref xg, .int 0, .null]))] sz) []) (va_A [(h0, .inr (11, [.ref tk, .ref pa, .ref ta, .ref ha, .ref ru, .ref to, .ref sp])), (ru, .inr (6, [.int 0, .int 0, .ref pu, .ref ha, .ref nu, .int 0, .int 0, .int 0])), (ha, .inr (1, [pv, .ref xt, .int 0, .int 0, .ref xr, .int 0, .int 0, .ref le, .ref lc, .ref ln, .ref al, .ref lo, .ref xg, .int 0, .null]))] sz)) 0 0 (va_A [(h0, .inr (11, [.ref tk, .ref pa, .ref ta, .ref ha, .ref ru, .ref to, .ref sp])), (ru, .inr (6, [.int 0, .int 0, .ref pu, .ref ha, .ref nu, .int 0, .int 0, .int 0])), (ha, .inr (1, [pv, .ref xt, .int 0, .int 0, .ref xr, .int 0, .int 0, .ref le, .ref lc, .ref ln, .ref al, .ref lo, .ref xg, .int 0, .null]))] sz) := by
  refine Met.ofW (cc := cX11_rounds) (maxL := 3) (ret := (some .int)) (by decide) rfl ?_
  intro p e s m args below meth c s₁ B hml hv
  obtain ⟨rfl, hsz, hP, hK, hD0⟩ := hv
  have hx := B.exec
  have hb := B.bytes
  have hr := B.returns
  have hts : ∀ w ∈ tb, w.before _ s = true := fun w h => atoms_spec (ws := (.code yX11_rounds cX11_rounds 3 (some .int) :: tb)) B.pre w (List.mem_cons_of_mem _ h)
  have hown : s.vm.findClass RX11 = some m.cls := findClass_of_methodNamed B.named
  have hlocks := B.notSynchronized
  subst hsz
  have hD := hD0.self (sz := s.heap.size)
  generalize hAe : va_A [(h0, .inr (11, [.ref tk, .ref pa, .ref ta, .ref ha, .ref ru, .ref to, .ref sp])), (ru, .inr (6, [.int 0, .int 0, .ref pu, .ref ha, .ref nu, .int 0, .int 0, .int 0])), (ha, .inr (1, [pv, .ref xt, .int 0, .int 0, .ref xr, .int 0, .int 0, .ref le, .ref lc, .ref ln, .ref al, .ref lo, .ref xg, .int 0, .null]))] s.heap.size = A at hD ⊢
  have hA : ∀ q : Nat, s.heap.size ≤ q → A q := fun q h => by rw [← hAe]; exact Or.inr h
  have hS : va_S A s.heap s.heap [] := va_S.rf
  have hP : va_P (dC, dI) vwCl [(h0, .inr (11, [.ref tk, .ref pa, .ref ta, .ref ha, .ref ru, .ref to, .ref sp])), (ru, .inr (6, [.int 0, .int 0, .ref pu, .ref ha, .ref nu, .int 0, .int 0, .int 0])), (ha, .inr (1, [pv, .ref xt, .int 0, .int 0, .ref xr, .int 0, .int 0, .ref le, .ref lc, .ref ln, .ref al, .ref lo, .ref xg, .int 0, .null]))] s.heap := hP
  have hl := lv_entry ([.ref h0, .int k]) (n := 3) (Nat.le_of_ble_eq_true rfl)
  rw [lg_entry_eq]
  generalize (lg_sl ([.ref h0, .int k]) ++ List.replicate (3 - (lg_sl ([.ref h0, .int k])).length) Slot.unset).toArray = ls at hl ⊢
  have hl : lv_has ls 3 [(0, .ref h0), (1, .int k)] := hl
  refine lv_iload_n hx hb dX11_rounds_0 rfl (lv_at hl 1 rfl) ?_
  refine lv_if_lt (tgt := 11) hx hb dX11_rounds_1 (by decide) (fun c1 => ?_) (fun c1 => ?_)
  · refine lv_iconst (v := -1) hx hb dX11_rounds_11 (by decide) ?_
    have hP9 := hP.sub (ws' := []) [] rfl
    have hD9 := hD.sub (ws' := []) [] (by decide) rfl
    have hK9 := hK.sub (tys' := []) [] rfl
    refine W.widen (k := 0) (n := 0) (Nat.le_of_ble_eq_true rfl) (Nat.le_of_ble_eq_true rfl) ?_
    exact W.iret (v := -1) hx hb hr (fun t ht hW => ⟨⟨-1, (), rfl, ((if_pos c1)).symm, by rw [ht]; exact hP9, va_K.moved hW.alike hK9, hD9⟩, hS.F ht⟩) hS.2.2 dX11_rounds_12
  · refine lv_iload_n hx hb dX11_rounds_4 rfl (lv_at hl 1 rfl) ?_
    refine lv_sipush (v := 400) hx hb dX11_rounds_5 (by decide) ?_
    refine lv_icmp_le (tgt := 13) hx hb dX11_rounds_8 (by decide) (fun c2 => ?_) (fun c2 => ?_)
    · refine lv_iconst (v := 0) hx hb dX11_rounds_13 (by decide) ?_
      refine lv_istore_n (lv' := [(2, .int 0), (0, .ref h0), (1, .int k)]) hx hb dX11_rounds_14 rfl hl (by decide) rfl (fun ls hl => ?_)
      refine lv_iload_n hx hb dX11_rounds_15 rfl (lv_at hl 0 rfl) ?_
      refine lv_iload_n hx hb dX11_rounds_16 rfl (lv_at hl 2 rfl) ?_
      refine lv_icmp_ge (tgt := 38) hx hb dX11_rounds_17 (by decide) (fun c3 => ?_) (fun c3 => ?_)
      · refine lv_iload_n hx hb dX11_rounds_38 rfl (lv_at hl 0 rfl) ?_
        have hP9 := hP.sub (ws' := []) [] rfl
        have hD9 := hD.sub (ws' := []) [] (by decide) rfl
        have hK9 := hK.sub (tys' := []) [] rfl
        refine W.widen (k := 0) (n := 0) (Nat.le_of_ble_eq_true rfl) (Nat.le_of_ble_eq_true rfl) ?_
        exact W.iret (v := 0) hx hb hr (fun t ht hW => ⟨⟨0, (), rfl, ((Eq.trans (if_neg c1) (if_neg (Int32.not_lt.mpr c2)))).symm, by rw [ht]; exact hP9, va_K.moved hW.alike hK9, hD9⟩, hS.F ht⟩) hS.2.2 dX11_rounds_39
      · refine lv_aload_n hx hb dX11_rounds_20 rfl (lv_at hl 1 rfl) ?_
        refine va_get (D := (dC, dI)) (ci := 11) (v := .ref ru) (C := RX11) (T := TX11) (N := 7) hx hb hts in_X11 hown hK hP 0 rfl rfl 4 (by decide) (hts _ wd_482) (fun _ h9 => h9) rfl dX11_rounds_21 ?_
        refine lv_iconst (v := 0) hx hb dX11_rounds_24 (by decide) ?_
        have hPc := hP.sub (ws' := [(ru, .inr (6, [.int 0, .int 0, .ref pu, .ref ha, .ref nu, .int 0, .int 0, .int 0])), (ha, .inr (1, [(pv : Value), .ref xt, .int 0, .int 0, .ref xr, .int 0, .int 0, .ref le, .ref lc, .ref ln, .ref al, .ref lo, .ref xg, .int 0, .null]))]) [1, 2] rfl
        have hDc := hD.sub (ws' := [(ru, .inr (6, [.int 0, .int 0, .ref pu, .ref ha, .ref nu, .int 0, .int 0, .int 0])), (ha, .inr (1, [(pv : Value), .ref xt, .int 0, .int 0, .ref xr, .int 0, .int 0, .ref le, .ref lc, .ref ln, .ref al, .ref lo, .ref xg, .int 0, .null]))]) [1, 2] (by decide) rfl
        have hKc := hK.sub (tys' := []) [] rfl
        have hFc := va_free (wc := [(ru, .inr (6, [.int 0, .int 0, .ref pu, .ref ha, .ref nu, .int 0, .int 0, .int 0])), (ha, .inr (1, [(pv : Value), .ref xt, .int 0, .int 0, .ref xr, .int 0, .int 0, .ref le, .ref lc, .ref ln, .ref al, .ref lo, .ref xg, .int 0, .null]))]) hD hS hA [1, 2] rfl
        refine va_calli (va_runV (As := [.int 0]) (rest := []) ⟨hx, hb, hml, hown, hts⟩ (ct_X6_takeTurn l dC dI ru pu ha nu (pv : Value) xt xr le lc ln al lo xg 0 s.heap.size) (cwV 1 hts (gd_V wd_961 wd_962 wd_963 wd_12 wd_964) rfl rfl rfl (by decide +kernel) ⟨Nat.le_of_ble_eq_true rfl, Nat.le_of_ble_eq_true rfl⟩) ⟨fun a U g mk q => by obtain ⟨q0, q1, qP, qK, qD⟩ := q; exact ⟨q0, q1, qP, va_K.moved (u := U) (U := U.calling g mk a) (Vm.Alike.refl U.vm) qK, qD⟩, va_recv hKc hPc (ci := 6) (q0 := 0) rfl rfl, fun U hU hW => ⟨rfl, by rw [hU], by rw [hU]; exact hPc, va_K.moved hW.alike hKc, hDc.weaken (fun _ _ _ _ => trivial)⟩⟩ rfl rfl hl.1 rfl (lv_room (Nat.le_of_ble_eq_true rfl)) dX11_rounds_25 ⟨Nat.le_of_ble_eq_true rfl, Nat.le_of_ble_eq_true rfl⟩) hS (fun q _ h => hFc q h) hFc (fun r4 u t H1 locs ht hvm hw hB hz1 hk1 hS => ?_)
        obtain ⟨hP1, hK1, hD1⟩ := hB
        rw [ht] at hP1
        have hK1 := va_K.moved hvm.symm hK1
        obtain ⟨hP, hD⟩ := va_join (wr := [(h0, .inr (11, [.ref tk, .ref pa, .ref ta, .ref ha, .ref ru, .ref to, .ref sp]))]) (w1 := []) hP hD [1, 2] [0] rfl rfl (by decide) (by decide) hk1 hFc hP1 hD1
        have hK := (hK.sub (tys' := []) [] rfl).app (hK1.sub (tys' := []) [] rfl)
        generalize H1 = H at hP hS ⊢
        have hP : va_P (dC, dI) vwCl [(h0, .inr (11, [.ref tk, .ref pa, .ref ta, .ref ha, .ref ru, .ref to, .ref sp]))] H := hP
        have hD : va_D A [(h0, .inr (11, [.ref tk, .ref pa, .ref ta, .ref ha, .ref ru, .ref to, .ref sp]))] := hD
        have hK : va_K (dC, dI) vwCl [] s := hK
        obtain rfl := hw
        refine lv_iconst (v := -1) hx hb dX11_rounds_28 (by decide) ?_
        refine lv_icmp_eq (tgt := 38) hx hb dX11_rounds_29 (by decide) (fun _ => ?_) (fun h => absurd (by decide) h)
        refine lv_iload_n hx hb dX11_rounds_38 rfl (lv_at hl 0 rfl) ?_
        have hP9 := hP.sub (ws' := []) [] rfl
        have hD9 := hD.sub (ws' := []) [] (by decide) rfl
        have hK9 := hK.sub (tys' := []) [] rfl
        refine W.widen (k := 0) (n := 0) (Nat.le_of_ble_eq_true rfl) (Nat.le_of_ble_eq_true rfl) ?_
        exact W.iret (v := 0) hx hb hr (fun t ht hW => ⟨⟨0, (), rfl, ((Eq.trans (if_neg c1) (if_neg (Int32.not_lt.mpr c2)))).symm, by rw [ht]; exact hP9, va_K.moved hW.alike hK9, hD9⟩, hS.F ht⟩) hS.2.2 dX11_rounds_39
    · refine lv_iconst (v := -1) hx hb dX11_rounds_11 (by decide) ?_
      have hP9 := hP.sub (ws' := []) [] rfl
      have hD9 := hD.sub (ws' := []) [] (by decide) rfl
      have hK9 := hK.sub (tys' := []) [] rfl
      refine W.widen (k := 0) (n := 0) (Nat.le_of_ble_eq_true rfl) (Nat.le_of_ble_eq_true rfl) ?_
      exact W.iret (v := -1) hx hb hr (fun t ht hW => ⟨⟨-1, (), rfl, ((Eq.trans (if_neg c1) (if_pos (Int32.not_le.mp c2)))).symm, by rw [ht]; exact hP9, va_K.moved hW.alike hK9, hD9⟩, hS.F ht⟩) hS.2.2 dX11_rounds_12
set_option maxHeartbeats 4000000 in
set_option maxRecDepth 100000 in
theorem ct_X11_letter (l : Launch) (dC : Nat → ClassId) (dI : Nat → Nat → Nat) (h0 : Nat) (tk : Nat) (pa : Nat) (ta : Nat) (ha : Nat) (ru : Nat) (to : Nat) (sp : Nat) (pv : Value) (xt : Nat) (xr : Nat) (le : Nat) (lc : Nat) (ln : Nat) (al : Nat) (lo : Nat) (xg : Nat) (kle : ClassId) (klc : ClassId) (kln : ClassId) (l0 : Nat) (l1 : Nat) (l2 : Nat) (l3 : Nat) (l4 : Nat) (l5 : Nat) (l6 : Nat) (l7 : Nat) (i : Int32) (j : Int32) (sz : Nat) : Met l yX11_letter (.code yX11_letter cX11_letter 3 (some .int) :: tb) ({ frames := 1, cells := 0, slots := 0, locals := 23 }) (va_Pc [.ref h0, .int i, .int j] (fun U => U.heap.size = sz ∧ va_P (dC, dI) vwCl [(h0, .inr (11, [.ref tk, .ref pa, .ref ta, .ref ha, .ref ru, .ref to, .ref sp])), (ha, .inr (1, [pv, .ref xt, .int 0, .int 0, .ref xr, .int 0, .int 0, .ref le, .ref lc, .ref ln, .ref al, .ref lo, .ref xg, .int 0, .null])), (le, .inl (kle, 400, .inl (fun _ => 0))), (lc, .inl (klc, 8, .inl (fun _ => 0))), (ln, .inl (kln, 8, .inr (.inr (.inr (.inr (fun i => [l0, l1, l2, l3, l4, l5, l6, l7][i]?)))))), (l0, .inr (2, [.null, .null])), (l1, .inr (2, [.null, .null])), (l2, .inr (2, [.null, .null])), (l3, .inr (2, [.null, .null])), (l4, .inr (2, [.null, .null])), (l5, .inr (2, [.null, .null])), (l6, .inr (2, [.null, .null])), (l7, .inr (2, [.null, .null]))] U.heap ∧ va_K (dC, dI) vwCl [(kle, .int), (klc, .int), (kln, .object RX2)] U ∧ va_D (fun _ => True) [(h0, .inr (11, [.ref tk, .ref pa, .ref ta, .ref ha, .ref ru, .ref to, .ref sp])), (ha, .inr (1, [pv, .ref xt, .int 0, .int 0, .ref xr, .int 0, .int 0, .ref le, .ref lc, .ref ln, .ref al, .ref lo, .ref xg, .int 0, .null])), (le, .inl (kle, 400, .inl (fun _ => 0))), (lc, .inl (klc, 8, .inl (fun _ => 0))), (ln, .inl (kln, 8, .inr (.inr (.inr (.inr (fun i => [l0, l1, l2, l3, l4, l5, l6, l7][i]?)))))), (l0, .inr (2, [.null, .null])), (l1, .inr (2, [.null, .null])), (l2, .inr (2, [.null, .null])), (l3, .inr (2, [.null, .null])), (l4, .inr (2, [.null, .null])), (l5, .inr (2, [.null, .null])), (l6, .inr (2, [.null, .null])), (l7, .inr (2, [.null, .null]))])) (va_Qi (fun (r : Int32) (_ : Unit) => r = if i < 0 then -2 else if i < 8 then -1 else -2) (fun (_ : Unit) t => va_P (dC, dI) vwCl [] t.heap ∧ va_K (dC, dI) vwCl [] t ∧ va_D (va_A [(h0, .inr (11, [.ref tk, .ref pa, .ref ta, .ref ha, .ref ru, .ref to, .ref sp])), (ha, .inr (1, [pv, .ref xt, .int 0, .int 0, .ref xr, .int 0, .int 0, .ref le, .ref lc, .ref ln, .ref al, .ref lo, .ref xg, .int 0, .null])), (le, .inl (kle, 400, .inl (fun _ => 0))), (lc, .inl (klc, 8, .inl (fun _ => 0))), (ln, .inl (kln, 8, .inr (.inr (.inr (.inr (fun i => [l0, l1, l2, l3, l4, l5, l6, l7][i]?)))))), (l0, .inr (2, [.null, .null])), (l1, .inr (2, [.null, .null])), (l2, .inr (2, [.null, .null])), (l3, .inr (2, [.null, .null])), (l4, .inr (2, [.null, .null])), (l5, .inr (2, [.null, .null])), (l6, .inr (2, [.null, .null])), (l7, .inr (2, [.null, .null]))] sz) []) (va_A [(h0, .inr (11, [.ref tk, .ref pa, .ref ta, .ref ha, .ref ru, .ref to, .ref sp])), (ha, .inr (1, [pv, .ref xt, .int 0, .int 0, .ref xr, .int 0, .int 0, .ref le, .ref lc, .ref ln, .ref al, .ref lo, .ref xg, .int 0, .null])), (le, .inl (kle, 400, .inl (fun _ => 0))), (lc, .inl (klc, 8, .inl (fun _ => 0))), (ln, .inl (kln, 8, .inr (.inr (.inr (.inr (fun i => [l0, l1, l2, l3, l4, l5, l6, l7][i]?)))))), (l0, .inr (2, [.null, .null])), (l1, .inr (2, [.null, .null])), (l2, .inr (2, [.null, .null])), (l3, .inr (2, [.null, .null])), (l4, .inr (2, [.null, .null])), (l5, .inr (2, [.null, .null])), (l6, .inr (2, [.null, .null])), (l7, .inr (2, [.null, .null]))] sz)) 0 0 (va_A [(h0, .inr (11, [.ref tk, .ref pa, .ref ta, .ref ha, .ref ru, .ref to, .ref sp])), (ha, .inr (1, [pv, .ref xt, .int 0, .int 0, .ref xr, .int 0, .int 0, .ref le, .ref lc, .ref ln, .ref al, .ref lo, .ref xg, .int 0, .null])), (le, .inl (kle, 400, .inl (fun _ => 0))), (lc, .inl (klc, 8, .inl (fun _ => 0))), (ln, .inl (kln, 8, .inr (.inr (.inr (.inr (fun i => [l0, l1, l2, l3, l4, l5, l6, l7][i]?)))))), (l0, .inr (2, [.null, .null])), (l1, .inr (2, [.null, .null])), (l2, .inr (2, [.null, .null])), (l3, .inr (2, [.null, .null])), (l4, .inr (2, [.null, .null])), (l5, .inr (2, [.null, .null])), (l6, .inr (2, [.null, .null])), (l7, .inr (2, [.null, .null]))] sz) := by
  refine Met.ofW (cc := cX11_letter) (maxL := 3) (ret := (some .int)) (by decide) rfl ?_
  intro p e s m args below meth c s₁ B hml hv
  obtain ⟨rfl, hsz, hP, hK, hD0⟩ := hv
  have hx := B.exec
  have hb := B.bytes
  have hr := B.returns
  have hts : ∀ w ∈ tb, w.before _ s = true := fun w h => atoms_spec (ws := (.code yX11_letter cX11_letter 3 (some .int) :: tb)) B.pre w (List.mem_cons_of_mem _ h)
  have hown : s.vm.findClass RX11 = some m.cls := findClass_of_methodNamed B.named
  have hlocks := B.notSynchronized
  subst hsz
  have hD := hD0.self (sz := s.heap.size)
  generalize hAe : va_A [(h0, .inr (11, [.ref tk, .ref pa, .ref ta, .ref ha, .ref ru, .ref to, .ref sp])), (ha, .inr (1, [pv, .ref xt, .int 0, .int 0, .ref xr, .int 0, .int 0, .ref le, .ref lc, .ref ln, .ref al, .ref lo, .ref xg, .int 0, .null])), (le, .inl (kle, 400, .inl (fun _ => 0))), (lc, .inl (klc, 8, .inl (fun _ => 0))), (ln, .inl (kln, 8, .inr (.inr (.inr (.inr (fun i => [l0, l1, l2, l3, l4, l5, l6, l7][i]?)))))), (l0, .inr (2, [.null, .null])), (l1, .inr (2, [.null, .null])), (l2, .inr (2, [.null, .null])), (l3, .inr (2, [.null, .null])), (l4, .inr (2, [.null, .null])), (l5, .inr (2, [.null, .null])), (l6, .inr (2, [.null, .null])), (l7, .inr (2, [.null, .null]))] s.heap.size = A at hD ⊢
  have hA : ∀ q : Nat, s.heap.size ≤ q → A q := fun q h => by rw [← hAe]; exact Or.inr h
  have hS : va_S A s.heap s.heap [] := va_S.rf
  have hP : va_P (dC, dI) vwCl [(h0, .inr (11, [.ref tk, .ref pa, .ref ta, .ref ha, .ref ru, .ref to, .ref sp])), (ha, .inr (1, [pv, .ref xt, .int 0, .int 0, .ref xr, .int 0, .int 0, .ref le, .ref lc, .ref ln, .ref al, .ref lo, .ref xg, .int 0, .null])), (le, .inl (kle, 400, .inl (fun _ => 0))), (lc, .inl (klc, 8, .inl (fun _ => 0))), (ln, .inl (kln, 8, .inr (.inr (.inr (.inr (fun i => [l0, l1, l2, l3, l4, l5, l6, l7][i]?)))))), (l0, .inr (2, [.null, .null])), (l1, .inr (2, [.null, .null])), (l2, .inr (2, [.null, .null])), (l3, .inr (2, [.null, .null])), (l4, .inr (2, [.null, .null])), (l5, .inr (2, [.null, .null])), (l6, .inr (2, [.null, .null])), (l7, .inr (2, [.null, .null]))] s.heap := hP
  have hl := lv_entry ([.ref h0, .int i, .int j]) (n := 3) (Nat.le_of_ble_eq_true rfl)
  rw [lg_entry_eq]
  generalize (lg_sl ([.ref h0, .int i, .int j]) ++ List.replicate (3 - (lg_sl ([.ref h0, .int i, .int j])).length) Slot.unset).toArray = ls at hl ⊢
  have hl : lv_has ls 3 [(0, .ref h0), (1, .int i), (2, .int j)] := hl
  refine lv_aload_n hx hb dX11_letter_0 rfl (lv_at hl 0 rfl) ?_
  refine va_get (D := (dC, dI)) (ci := 11) (v := .ref ha) (C := RX11) (T := TX11) (N := 7) hx hb hts in_X11 hown hK hP 0 rfl rfl 3 (by decide) (hts _ wd_481) (fun _ h9 => h9) rfl dX11_letter_1 ?_
  refine lv_iload_n hx hb dX11_letter_4 rfl (lv_at hl 1 rfl) ?_
  refine lv_iload_n hx hb dX11_letter_5 rfl (lv_at hl 2 rfl) ?_
  have hPc := hP.sub (ws' := [(ha, .inr (1, [(pv : Value), .ref xt, .int 0, .int 0, .ref xr, .int 0, .int 0, .ref le, .ref lc, .ref ln, .ref al, .ref lo, .ref xg, .int 0, .null])), (le, .inl (kle, 400, .inl (fun _ => 0))), (lc, .inl (klc, 8, .inl (fun _ => 0))), (ln, .inl (kln, 8, .inr (.inr (.inr (.inr (fun i => [l0, l1, l2, l3, l4, l5, l6, l7][i]?)))))), (l0, .inr (2, [.null, .null])), (l1, .inr (2, [.null, .null])), (l2, .inr (2, [.null, .null])), (l3, .inr (2, [.null, .null])), (l4, .inr (2, [.null, .null])), (l5, .inr (2, [.null, .null])), (l6, .inr (2, [.null, .null])), (l7, .inr (2, [.null, .null]))]) [1, 2, 3, 4, 5, 6, 7, 8, 9, 10, 11, 12] rfl
  have hDc := hD.sub (ws' := [(ha, .inr (1, [(pv : Value), .ref xt, .int 0, .int 0, .ref xr, .int 0, .int 0, .ref le, .ref lc, .ref ln, .ref al, .ref lo, .ref xg, .int 0, .null])), (le, .inl (kle, 400, .inl (fun _ => 0))), (lc, .inl (klc, 8, .inl (fun _ => 0))), (ln, .inl (kln, 8, .inr (.inr (.inr (.inr (fun i => [l0, l1, l2, l3, l4, l5, l6, l7][i]?)))))), (l0, .inr (2, [.null, .null])), (l1, .inr (2, [.null, .null])), (l2, .inr (2, [.null, .null])), (l3, .inr (2, [.null, .null])), (l4, .inr (2, [.null, .null])), (l5, .inr (2, [.null, .null])), (l6, .inr (2, [.null, .null])), (l7, .inr (2, [.null, .null]))]) [1, 2, 3, 4, 5, 6, 7, 8, 9, 10, 11, 12] (by decide) rfl
  have hKc := hK.sub (tys' := [(kle, .int), (klc, .int), (kln, .object RX2)]) [0, 1, 2] rfl
  have hFc := va_free (wc := [(ha, .inr (1, [(pv : Value), .ref xt, .int 0, .int 0, .ref xr, .int 0, .int 0, .ref le, .ref lc, .ref ln, .ref al, .ref lo, .ref xg, .int 0, .null])), (le, .inl (kle, 400, .inl (fun _ => 0))), (lc, .inl (klc, 8, .inl (fun _ => 0))), (ln, .inl (kln, 8, .inr (.inr (.inr (.inr (fun i => [l0, l1, l2, l3, l4, l5, l6, l7][i]?)))))), (l0, .inr (2, [.null, .null])), (l1, .inr (2, [.null, .null])), (l2, .inr (2, [.null, .null])), (l3, .inr (2, [.null, .null])), (l4, .inr (2, [.null, .null])), (l5, .inr (2, [.null, .null])), (l6, .inr (2, [.null, .null])), (l7, .inr (2, [.null, .null]))]) hD hS hA [1, 2, 3, 4, 5, 6, 7, 8, 9, 10, 11, 12] rfl
  refine va_calli (va_runV (As := [.int i, .int j]) (rest := []) ⟨hx, hb, hml, hown, hts⟩ (ct_X1_deliver l dC dI ha (pv : Value) xt xr le lc ln al lo xg kle klc kln l0 l1 l2 l3 l4 l5 l6 l7 i j s.heap.size) (cwV 2 hts (gd_V wd_1220 wd_1221 wd_1222 wd_9 wd_1223) rfl rfl rfl (by decide +kernel) ⟨Nat.le_of_ble_eq_true rfl, Nat.le_of_ble_eq_true rfl⟩) ⟨fun a U g mk q => by obtain ⟨q0, q1, qP, qK, qD⟩ := q; exact ⟨q0, q1, qP, va_K.moved (u := U) (U := U.calling g mk a) (Vm.Alike.refl U.vm) qK, qD⟩, va_recv hKc hPc (ci := 1) (q0 := 0) rfl rfl, fun U hU hW => ⟨rfl, by rw [hU], by rw [hU]; exact hPc, va_K.moved hW.alike hKc, hDc.weaken (fun _ _ _ _ => trivial)⟩⟩ rfl rfl hl.1 rfl (lv_room (Nat.le_of_ble_eq_true rfl)) dX11_letter_6 ⟨Nat.le_of_ble_eq_true rfl, Nat.le_of_ble_eq_true rfl⟩) hS (fun q _ h => hFc q h) hFc (fun r1 u t H1 locs ht hvm hw hB hz1 hk1 hS => ?_)
  obtain ⟨hP1, hK1, hD1⟩ := hB
  rw [ht] at hP1
  have hK1 := va_K.moved hvm.symm hK1
  obtain ⟨hP, hD⟩ := va_join (wr := [(h0, .inr (11, [.ref tk, .ref pa, .ref ta, .ref ha, .ref ru, .ref to, .ref sp]))]) (w1 := []) hP hD [1, 2, 3, 4, 5, 6, 7, 8, 9, 10, 11, 12] [0] rfl rfl (by decide) (by decide) hk1 hFc hP1 hD1
  have hK := (hK.sub (tys' := [(kle, .int), (klc, .int), (kln, .object RX2)]) [0, 1, 2] rfl).app (hK1.sub (tys' := []) [] rfl)
  generalize H1 = H at hP hS ⊢
  have hP : va_P (dC, dI) vwCl [(h0, .inr (11, [.ref tk, .ref pa, .ref ta, .ref ha, .ref ru, .ref to, .ref sp]))] H := hP
  have hD : va_D A [(h0, .inr (11, [.ref tk, .ref pa, .ref ta, .ref ha, .ref ru, .ref to, .ref sp]))] := hD
  have hK : va_K (dC, dI) vwCl [(kle, .int), (klc, .int), (kln, .object RX2)] s := hK
  obtain rfl := hw
  have hP9 := hP.sub (ws' := []) [] rfl
  have hD9 := hD.sub (ws' := []) [] (by decide) rfl
  have hK9 := hK.sub (tys' := []) [] rfl
  refine W.widen (k := 0) (n := 0) (Nat.le_of_ble_eq_true rfl) (Nat.le_of_ble_eq_true rfl) ?_
  exact W.iret (v := if i < 0 then -2 else if i < 8 then -1 else -2) hx hb hr (fun t ht hW => ⟨⟨if i < 0 then -2 else if i < 8 then -1 else -2, (), rfl, rfl, by rw [ht]; exact hP9, va_K.moved hW.alike hK9, hD9⟩, hS.F ht⟩) hS.2.2 dX11_letter_9
set_option maxHeartbeats 4000000 in
set_option maxRecDepth 100000 in
theorem ct_X11_tick (l : Launch) (dC : Nat → ClassId) (dI : Nat → Nat → Nat) (h0 : Nat) (tk : Nat) (pa : Nat) (ta : Nat) (ha : Nat) (ru : Nat) (to : Nat) (sp : Nat) (pv : Value) (xt : Nat) (xr : Nat) (le : Nat) (lc : Nat) (ln : Nat) (al : Nat) (lo : Nat) (xg : Nat) (k : Int32) (sz : Nat) : Met l yX11_tick (.code yX11_tick cX11_tick 2 (some .int) :: tb) ({ frames := 1, cells := 0, slots := 0, locals := 24 }) (va_Pc [.ref h0, .int k] (fun U => U.heap.size = sz ∧ va_P (dC, dI) vwCl [(h0, .inr (11, [.ref tk, .ref pa, .ref ta, .ref ha, .ref ru, .ref to, .ref sp])), (ha, .inr (1, [pv, .ref xt, .int 0, .int 0, .ref xr, .int 0, .int 0, .ref le, .ref lc, .ref ln, .ref al, .ref lo, .ref xg, .int 0, .null])), (al, .inr (2, [.null, .null]))] U.heap ∧ va_K (dC, dI) vwCl [] U ∧ va_D (fun _ => True) [(h0, .inr (11, [.ref tk, .ref pa, .ref ta, .ref ha, .ref ru, .ref to, .ref sp])), (ha, .inr (1, [pv, .ref xt, .int 0, .int 0, .ref xr, .int 0, .int 0, .ref le, .ref lc, .ref ln, .ref al, .ref lo, .ref xg, .int 0, .null])), (al, .inr (2, [.null, .null]))])) (va_Qi (fun (r : Int32) (_ : Unit) => r = if k < 0 then -1 else if 10000 < k then -1 else k) (fun (_ : Unit) t => va_P (dC, dI) vwCl [] t.heap ∧ va_K (dC, dI) vwCl [] t ∧ va_D (va_A [(h0, .inr (11, [.ref tk, .ref pa, .ref ta, .ref ha, .ref ru, .ref to, .ref sp])), (ha, .inr (1, [pv, .ref xt, .int 0, .int 0, .ref xr, .int 0, .int 0, .ref le, .ref lc, .ref ln, .ref al, .ref lo, .ref xg, .int 0, .null])), (al, .inr (2, [.null, .null]))] sz) []) (va_A [(h0, .inr (11, [.ref tk, .ref pa, .ref ta, .ref ha, .ref ru, .ref to, .ref sp])), (ha, .inr (1, [pv, .ref xt, .int 0, .int 0, .ref xr, .int 0, .int 0, .ref le, .ref lc, .ref ln, .ref al, .ref lo, .ref xg, .int 0, .null])), (al, .inr (2, [.null, .null]))] sz)) 0 0 (va_A [(h0, .inr (11, [.ref tk, .ref pa, .ref ta, .ref ha, .ref ru, .ref to, .ref sp])), (ha, .inr (1, [pv, .ref xt, .int 0, .int 0, .ref xr, .int 0, .int 0, .ref le, .ref lc, .ref ln, .ref al, .ref lo, .ref xg, .int 0, .null])), (al, .inr (2, [.null, .null]))] sz) := by
  refine Met.ofW (cc := cX11_tick) (maxL := 2) (ret := (some .int)) (by decide) rfl ?_
  intro p e s m args below meth c s₁ B hml hv
  obtain ⟨rfl, hsz, hP, hK, hD0⟩ := hv
  have hx := B.exec
  have hb := B.bytes
  have hr := B.returns
  have hts : ∀ w ∈ tb, w.before _ s = true := fun w h => atoms_spec (ws := (.code yX11_tick cX11_tick 2 (some .int) :: tb)) B.pre w (List.mem_cons_of_mem _ h)
  have hown : s.vm.findClass RX11 = some m.cls := findClass_of_methodNamed B.named
  have hlocks := B.notSynchronized
  subst hsz
  have hD := hD0.self (sz := s.heap.size)
  generalize hAe : va_A [(h0, .inr (11, [.ref tk, .ref pa, .ref ta, .ref ha, .ref ru, .ref to, .ref sp])), (ha, .inr (1, [pv, .ref xt, .int 0, .int 0, .ref xr, .int 0, .int 0, .ref le, .ref lc, .ref ln, .ref al, .ref lo, .ref xg, .int 0, .null])), (al, .inr (2, [.null, .null]))] s.heap.size = A at hD ⊢
  have hA : ∀ q : Nat, s.heap.size ≤ q → A q := fun q h => by rw [← hAe]; exact Or.inr h
  have hS : va_S A s.heap s.heap [] := va_S.rf
  have hP : va_P (dC, dI) vwCl [(h0, .inr (11, [.ref tk, .ref pa, .ref ta, .ref ha, .ref ru, .ref to, .ref sp])), (ha, .inr (1, [pv, .ref xt, .int 0, .int 0, .ref xr, .int 0, .int 0, .ref le, .ref lc, .ref ln, .ref al, .ref lo, .ref xg, .int 0, .null])), (al, .inr (2, [.null, .null]))] s.heap := hP
  have hl := lv_entry ([.ref h0, .int k]) (n := 2) (Nat.le_of_ble_eq_true rfl)
  rw [lg_entry_eq]
  generalize (lg_sl ([.ref h0, .int k]) ++ List.replicate (2 - (lg_sl ([.ref h0, .int k])).length) Slot.unset).toArray = ls at hl ⊢
  have hl : lv_has ls 2 [(0, .ref h0), (1, .int k)] := hl
  refine lv_iload_n hx hb dX11_tick_0 rfl (lv_at hl 1 rfl) ?_
  refine lv_if_lt (tgt := 11) hx hb dX11_tick_1 (by decide) (fun c1 => ?_) (fun c1 => ?_)
  · refine lv_iconst (v := -1) hx hb dX11_tick_11 (by decide) ?_
    have hP9 := hP.sub (ws' := []) [] rfl
    have hD9 := hD.sub (ws' := []) [] (by decide) rfl
    have hK9 := hK.sub (tys' := []) [] rfl
    refine W.widen (k := 0) (n := 0) (Nat.le_of_ble_eq_true rfl) (Nat.le_of_ble_eq_true rfl) ?_
    exact W.iret (v := -1) hx hb hr (fun t ht hW => ⟨⟨-1, (), rfl, ((if_pos c1)).symm, by rw [ht]; exact hP9, va_K.moved hW.alike hK9, hD9⟩, hS.F ht⟩) hS.2.2 dX11_tick_12
  · refine lv_iload_n hx hb dX11_tick_4 rfl (lv_at hl 1 rfl) ?_
    refine lv_sipush (v := 10000) hx hb dX11_tick_5 (by decide) ?_
    refine lv_icmp_le (tgt := 13) hx hb dX11_tick_8 (by decide) (fun c2 => ?_) (fun c2 => ?_)
    · refine lv_aload_n hx hb dX11_tick_13 rfl (lv_at hl 0 rfl) ?_
      refine va_get (D := (dC, dI)) (ci := 11) (v := .ref ha) (C := RX11) (T := TX11) (N := 7) hx hb hts in_X11 hown hK hP 0 rfl rfl 3 (by decide) (hts _ wd_481) (fun _ h9 => h9) rfl dX11_tick_14 ?_
      refine lv_iload_n hx hb dX11_tick_17 rfl (lv_at hl 1 rfl) ?_
      have hPc := hP.sub (ws' := [(ha, .inr (1, [(pv : Value), .ref xt, .int 0, .int 0, .ref xr, .int 0, .int 0, .ref le, .ref lc, .ref ln, .ref al, .ref lo, .ref xg, .int 0, .null])), (al, .inr (2, [.null, .null]))]) [1, 2] rfl
      have hDc := hD.sub (ws' := [(ha, .inr (1, [(pv : Value), .ref xt, .int 0, .int 0, .ref xr, .int 0, .int 0, .ref le, .ref lc, .ref ln, .ref al, .ref lo, .ref xg, .int 0, .null])), (al, .inr (2, [.null, .null]))]) [1, 2] (by decide) rfl
      have hKc := hK.sub (tys' := []) [] rfl
      have hFc := va_free (wc := [(ha, .inr (1, [(pv : Value), .ref xt, .int 0, .int 0, .ref xr, .int 0, .int 0, .ref le, .ref lc, .ref ln, .ref al, .ref lo, .ref xg, .int 0, .null])), (al, .inr (2, [.null, .null]))]) hD hS hA [1, 2] rfl
      refine va_callv (va_runV (As := [.int k]) (rest := []) ⟨hx, hb, hml, hown, hts⟩ (ct_X1_pass l dC dI ha (pv : Value) xt xr le lc ln al lo xg k s.heap.size) (cwV 1 hts (gd_V wd_1228 wd_1229 wd_1230 wd_9 wd_1231) rfl rfl rfl (by decide +kernel) ⟨Nat.le_of_ble_eq_true rfl, Nat.le_of_ble_eq_true rfl⟩) ⟨fun a U g mk q => by obtain ⟨q0, q1, qP, qK, qD⟩ := q; exact ⟨q0, q1, qP, va_K.moved (u := U) (U := U.calling g mk a) (Vm.Alike.refl U.vm) qK, qD⟩, va_recv hKc hPc (ci := 1) (q0 := 0) rfl rfl, fun U hU hW => ⟨rfl, by rw [hU], by rw [hU]; exact hPc, va_K.moved hW.alike hKc, hDc.weaken (fun _ _ _ _ => trivial)⟩⟩ rfl rfl hl.1 rfl (lv_room (Nat.le_of_ble_eq_true rfl)) dX11_tick_18 ⟨Nat.le_of_ble_eq_true rfl, Nat.le_of_ble_eq_true rfl⟩) hS (fun q _ h => hFc q h) hFc (fun u t H1 locs ht hvm hw hB hz1 hk1 hS => ?_)
      obtain ⟨x3, hf4, hP1, hK1, hD1⟩ := hB
      rw [ht] at hP1
      have hK1 := va_K.moved hvm.symm hK1
      obtain ⟨hP, hD⟩ := va_join (wr := [(h0, .inr (11, [.ref tk, .ref pa, .ref ta, .ref ha, .ref ru, .ref to, .ref sp]))]) (w1 := [(ha, .inr (1, [(pv : Value), .ref xt, .int 0, .int 0, .ref xr, .int 0, .int x3, .ref le, .ref lc, .ref ln, .ref al, .ref lo, .ref xg, .int 0, .null]))]) hP hD [1, 2] [0] rfl rfl (by decide) (by decide) hk1 hFc hP1 hD1
      have hK := (hK.sub (tys' := []) [] rfl).app (hK1.sub (tys' := []) [] rfl)
      generalize H1 = H at hP hS ⊢
      have hP : va_P (dC, dI) vwCl [(h0, .inr (11, [.ref tk, .ref pa, .ref ta, .ref ha, .ref ru, .ref to, .ref sp])), (ha, .inr (1, [(pv : Value), .ref xt, .int 0, .int 0, .ref xr, .int 0, .int x3, .ref le, .ref lc, .ref ln, .ref al, .ref lo, .ref xg, .int 0, .null]))] H := hP
      have hD : va_D A [(h0, .inr (11, [.ref tk, .ref pa, .ref ta, .ref ha, .ref ru, .ref to, .ref sp])), (ha, .inr (1, [(pv : Value), .ref xt, .int 0, .int 0, .ref xr, .int 0, .int x3, .ref le, .ref lc, .ref ln, .ref al, .ref lo, .ref xg, .int 0, .null]))] := hD
      have hK : va_K (dC, dI) vwCl [] s := hK
      refine lv_aload_n hx hb dX11_tick_21 rfl (lv_at hl 0 rfl) ?_
      refine va_get (D := (dC, dI)) (ci := 11) (v := .ref ha) (C := RX11) (T := TX11) (N := 7) hx hb hts in_X11 hown hK hP 0 rfl rfl 3 (by decide) (hts _ wd_481) (fun _ h9 => h9) rfl dX11_tick_22 ?_
      refine va_get (D := (dC, dI)) (ci := 1) (v := .int x3) (C := RX1) (T := TX1) (N := 15) hx hb hts in_X1 hown hK hP 1 rfl rfl 6 (by decide) (hts _ wd_247) (fun _ h9 => h9) rfl dX11_tick_25 ?_
      have hP9 := hP.sub (ws' := []) [] rfl
      have hD9 := hD.sub (ws' := []) [] (by decide) rfl
      have hK9 := hK.sub (tys' := []) [] rfl
      refine W.widen (k := 0) (n := 0) (Nat.le_of_ble_eq_true rfl) (Nat.le_of_ble_eq_true rfl) ?_
      exact W.iret (v := x3) hx hb hr (fun t ht hW => ⟨⟨x3, (), rfl, (by rw [hf4]; exact (Int32.zero_add _).trans ((Eq.trans (if_neg c1) (if_neg (Int32.not_lt.mpr c2)))).symm), by rw [ht]; exact hP9, va_K.moved hW.alike hK9, hD9⟩, hS.F ht⟩) hS.2.2 dX11_tick_28
    · refine lv_iconst (v := -1) hx hb dX11_tick_11 (by decide) ?_
      have hP9 := hP.sub (ws' := []) [] rfl
      have hD9 := hD.sub (ws' := []) [] (by decide) rfl
      have hK9 := hK.sub (tys' := []) [] rfl
      refine W.widen (k := 0) (n := 0) (Nat.le_of_ble_eq_true rfl) (Nat.le_of_ble_eq_true rfl) ?_
      exact W.iret (v := -1) hx hb hr (fun t ht hW => ⟨⟨-1, (), rfl, ((Eq.trans (if_neg c1) (if_pos (Int32.not_le.mp c2)))).symm, by rw [ht]; exact hP9, va_K.moved hW.alike hK9, hD9⟩, hS.F ht⟩) hS.2.2 dX11_tick_12
set_option maxHeartbeats 4000000 in
set_option maxRecDepth 100000 in
theorem ct_X11_cancel (l : Launch) (dC : Nat → ClassId) (dI : Nat → Nat → Nat) (h0 : Nat) (tk : Nat) (pa : Nat) (ta : Nat) (ha : Nat) (ru : Nat) (to : Nat) (sp : Nat) (pv : Value) (xt : Nat) (xr : Nat) (le : Nat) (lc : Nat) (ln : Nat) (al : Nat) (lo : Nat) (xg : Nat) (k : Int32) (sz : Nat) : Met l yX11_cancel (.code yX11_cancel cX11_cancel 2 (some .boolean) :: tb) ({ frames := 2, cells := 0, slots := 0, locals := 43 }) (va_Pc [.ref h0, .int k] (fun U => U.heap.size = sz ∧ va_P (dC, dI) vwCl [(h0, .inr (11, [.ref tk, .ref pa, .ref ta, .ref ha, .ref ru, .ref to, .ref sp])), (ha, .inr (1, [pv, .ref xt, .int 0, .int 0, .ref xr, .int 0, .int 0, .ref le, .ref lc, .ref ln, .ref al, .ref lo, .ref xg, .int 0, .null]))] U.heap ∧ va_K (dC, dI) vwCl [] U ∧ va_D (fun _ => True) [(h0, .inr (11, [.ref tk, .ref pa, .ref ta, .ref ha, .ref ru, .ref to, .ref sp])), (ha, .inr (1, [pv, .ref xt, .int 0, .int 0, .ref xr, .int 0, .int 0, .ref le, .ref lc, .ref ln, .ref al, .ref lo, .ref xg, .int 0, .null]))])) (va_Qi (fun (r : Int32) (_ : Unit) => r = 0) (fun (_ : Unit) t => va_P (dC, dI) vwCl [] t.heap ∧ va_K (dC, dI) vwCl [] t ∧ va_D (va_A [(h0, .inr (11, [.ref tk, .ref pa, .ref ta, .ref ha, .ref ru, .ref to, .ref sp])), (ha, .inr (1, [pv, .ref xt, .int 0, .int 0, .ref xr, .int 0, .int 0, .ref le, .ref lc, .ref ln, .ref al, .ref lo, .ref xg, .int 0, .null]))] sz) []) (va_A [(h0, .inr (11, [.ref tk, .ref pa, .ref ta, .ref ha, .ref ru, .ref to, .ref sp])), (ha, .inr (1, [pv, .ref xt, .int 0, .int 0, .ref xr, .int 0, .int 0, .ref le, .ref lc, .ref ln, .ref al, .ref lo, .ref xg, .int 0, .null]))] sz)) 0 0 (va_A [(h0, .inr (11, [.ref tk, .ref pa, .ref ta, .ref ha, .ref ru, .ref to, .ref sp])), (ha, .inr (1, [pv, .ref xt, .int 0, .int 0, .ref xr, .int 0, .int 0, .ref le, .ref lc, .ref ln, .ref al, .ref lo, .ref xg, .int 0, .null]))] sz) := by
  refine Met.ofW (cc := cX11_cancel) (maxL := 2) (ret := (some .boolean)) (by decide) rfl ?_
  intro p e s m args below meth c s₁ B hml hv
  obtain ⟨rfl, hsz, hP, hK, hD0⟩ := hv
  have hx := B.exec
  have hb := B.bytes
  have hr := B.returns
  have hts : ∀ w ∈ tb, w.before _ s = true := fun w h => atoms_spec (ws := (.code yX11_cancel cX11_cancel 2 (some .boolean) :: tb)) B.pre w (List.mem_cons_of_mem _ h)
  have hown : s.vm.findClass RX11 = some m.cls := findClass_of_methodNamed B.named
  have hlocks := B.notSynchronized
  subst hsz
  have hD := hD0.self (sz := s.heap.size)
  generalize hAe : va_A [(h0, .inr (11, [.ref tk, .ref pa, .ref ta, .ref ha, .ref ru, .ref to, .ref sp])), (ha, .inr (1, [pv, .ref xt, .int 0, .int 0, .ref xr, .int 0, .int 0, .ref le, .ref lc, .ref ln, .ref al, .ref lo, .ref xg, .int 0, .null]))] s.heap.size = A at hD ⊢
  have hA : ∀ q : Nat, s.heap.size ≤ q → A q := fun q h => by rw [← hAe]; exact Or.inr h
  have hS : va_S A s.heap s.heap [] := va_S.rf
  have hP : va_P (dC, dI) vwCl [(h0, .inr (11, [.ref tk, .ref pa, .ref ta, .ref ha, .ref ru, .ref to, .ref sp])), (ha, .inr (1, [pv, .ref xt, .int 0, .int 0, .ref xr, .int 0, .int 0, .ref le, .ref lc, .ref ln, .ref al, .ref lo, .ref xg, .int 0, .null]))] s.heap := hP
  have hl := lv_entry ([.ref h0, .int k]) (n := 2) (Nat.le_of_ble_eq_true rfl)
  rw [lg_entry_eq]
  generalize (lg_sl ([.ref h0, .int k]) ++ List.replicate (2 - (lg_sl ([.ref h0, .int k])).length) Slot.unset).toArray = ls at hl ⊢
  have hl : lv_has ls 2 [(0, .ref h0), (1, .int k)] := hl
  refine lv_aload_n hx hb dX11_cancel_0 rfl (lv_at hl 0 rfl) ?_
  refine va_get (D := (dC, dI)) (ci := 11) (v := .ref ha) (C := RX11) (T := TX11) (N := 7) hx hb hts in_X11 hown hK hP 0 rfl rfl 3 (by decide) (hts _ wd_481) (fun _ h9 => h9) rfl dX11_cancel_1 ?_
  refine lv_iload_n hx hb dX11_cancel_4 rfl (lv_at hl 1 rfl) ?_
  have hPc := hP.sub (ws' := [(ha, .inr (1, [(pv : Value), .ref xt, .int 0, .int 0, .ref xr, .int 0, .int 0, .ref le, .ref lc, .ref ln, .ref al, .ref lo, .ref xg, .int 0, .null]))]) [1] rfl
  have hDc := hD.sub (ws' := [(ha, .inr (1, [(pv : Value), .ref xt, .int 0, .int 0, .ref xr, .int 0, .int 0, .ref le, .ref lc, .ref ln, .ref al, .ref lo, .ref xg, .int 0, .null]))]) [1] (by decide) rfl
  have hKc := hK.sub (tys' := []) [] rfl
  have hFc := va_free (wc := [(ha, .inr (1, [(pv : Value), .ref xt, .int 0, .int 0, .ref xr, .int 0, .int 0, .ref le, .ref lc, .ref ln, .ref al, .ref lo, .ref xg, .int 0, .null]))]) hD hS hA [1] rfl
  refine va_calli (va_runV (As := [.int k]) (rest := []) ⟨hx, hb, hml, hown, hts⟩ (ct_X1_callOff l dC dI ha (pv : Value) xt xr le lc ln al lo xg k s.heap.size) (cwV 1 hts (gd_V wd_1236 wd_1237 wd_1238 wd_9 wd_1239) rfl rfl rfl (by decide +kernel) ⟨Nat.le_of_ble_eq_true rfl, Nat.le_of_ble_eq_true rfl⟩) ⟨fun a U g mk q => by obtain ⟨q0, q1, qP, qK, qD⟩ := q; exact ⟨q0, q1, qP, va_K.moved (u := U) (U := U.calling g mk a) (Vm.Alike.refl U.vm) qK, qD⟩, va_recv hKc hPc (ci := 1) (q0 := 0) rfl rfl, fun U hU hW => ⟨rfl, by rw [hU], by rw [hU]; exact hPc, va_K.moved hW.alike hKc, hDc.weaken (fun _ _ _ _ => trivial)⟩⟩ rfl rfl hl.1 rfl (lv_room (Nat.le_of_ble_eq_true rfl)) dX11_cancel_5 ⟨Nat.le_of_ble_eq_true rfl, Nat.le_of_ble_eq_true rfl⟩) hS (fun q _ h => hFc q h) hFc (fun r1 u t H1 locs ht hvm hw hB hz1 hk1 hS => ?_)
  obtain ⟨hP1, hK1, hD1⟩ := hB
  rw [ht] at hP1
  have hK1 := va_K.moved hvm.symm hK1
  obtain ⟨hP, hD⟩ := va_join (wr := [(h0, .inr (11, [.ref tk, .ref pa, .ref ta, .ref ha, .ref ru, .ref to, .ref sp]))]) (w1 := []) hP hD [1] [0] rfl rfl (by decide) (by decide) hk1 hFc hP1 hD1
  have hK := (hK.sub (tys' := []) [] rfl).app (hK1.sub (tys' := []) [] rfl)
  generalize H1 = H at hP hS ⊢
  have hP : va_P (dC, dI) vwCl [(h0, .inr (11, [.ref tk, .ref pa, .ref ta, .ref ha, .ref ru, .ref to, .ref sp]))] H := hP
  have hD : va_D A [(h0, .inr (11, [.ref tk, .ref pa, .ref ta, .ref ha, .ref ru, .ref to, .ref sp]))] := hD
  have hK : va_K (dC, dI) vwCl [] s := hK
  obtain rfl := hw
  have hP9 := hP.sub (ws' := []) [] rfl
  have hD9 := hD.sub (ws' := []) [] (by decide) rfl
  have hK9 := hK.sub (tys' := []) [] rfl
  refine W.widen (k := 0) (n := 0) (Nat.le_of_ble_eq_true rfl) (Nat.le_of_ble_eq_true rfl) ?_
  exact W.zret (v := 0) hx hb hr rfl (fun t ht hW => ⟨⟨0, (), rfl, rfl, by rw [ht]; exact hP9, va_K.moved hW.alike hK9, hD9⟩, hS.F ht⟩) hS.2.2 dX11_cancel_8
set_option maxHeartbeats 4000000 in
set_option maxRecDepth 100000 in
theorem ct_X11_row (l : Launch) (dC : Nat → ClassId) (dI : Nat → Nat → Nat) (h0 : Nat) (tk : Nat) (pa : Nat) (ta : Nat) (ha : Nat) (ru : Nat) (to : Nat) (sp : Nat) (pv : Value) (xt : Nat) (xr : Nat) (le : Nat) (lc : Nat) (ln : Nat) (al : Nat) (lo : Nat) (xg : Nat) (k : Int32) (sz : Nat) : Met l yX11_row (.code yX11_row cX11_row 2 (some .int) :: tb) ({ frames := 0, cells := 0, slots := 0, locals := 0 }) (va_Pc [.ref h0, .int k] (fun U => U.heap.size = sz ∧ va_P (dC, dI) vwCl [(h0, .inr (11, [.ref tk, .ref pa, .ref ta, .ref ha, .ref ru, .ref to, .ref sp])), (ha, .inr (1, [pv, .ref xt, .int 0, .int 0, .ref xr, .int 0, .int 0, .ref le, .ref lc, .ref ln, .ref al, .ref lo, .ref xg, .int 0, .null]))] U.heap ∧ va_K (dC, dI) vwCl [] U ∧ va_D (fun _ => True) [(h0, .inr (11, [.ref tk, .ref pa, .ref ta, .ref ha, .ref ru, .ref to, .ref sp])), (ha, .inr (1, [pv, .ref xt, .int 0, .int 0, .ref xr, .int 0, .int 0, .ref le, .ref lc, .ref ln, .ref al, .ref lo, .ref xg, .int 0, .null]))])) (va_Qi (fun (r : Int32) (_ : Unit) => r = -1) (fun (_ : Unit) t => va_P (dC, dI) vwCl [] t.heap ∧ va_K (dC, dI) vwCl [] t ∧ va_D (va_A [(h0, .inr (11, [.ref tk, .ref pa, .ref ta, .ref ha, .ref ru, .ref to, .ref sp])), (ha, .inr (1, [pv, .ref xt, .int 0, .int 0, .ref xr, .int 0, .int 0, .ref le, .ref lc, .ref ln, .ref al, .ref lo, .ref xg, .int 0, .null]))] sz) []) (va_A [(h0, .inr (11, [.ref tk, .ref pa, .ref ta, .ref ha, .ref ru, .ref to, .ref sp])), (ha, .inr (1, [pv, .ref xt, .int 0, .int 0, .ref xr, .int 0, .int 0, .ref le, .ref lc, .ref ln, .ref al, .ref lo, .ref xg, .int 0, .null]))] sz)) 0 0 (va_A [(h0, .inr (11, [.ref tk, .ref pa, .ref ta, .ref ha, .ref ru, .ref to, .ref sp])), (ha, .inr (1, [pv, .ref xt, .int 0, .int 0, .ref xr, .int 0, .int 0, .ref le, .ref lc, .ref ln, .ref al, .ref lo, .ref xg, .int 0, .null]))] sz) := by
  refine Met.ofW (cc := cX11_row) (maxL := 2) (ret := (some .int)) (by decide) rfl ?_
  intro p e s m args below meth c s₁ B hml hv
  obtain ⟨rfl, hsz, hP, hK, hD0⟩ := hv
  have hx := B.exec
  have hb := B.bytes
  have hr := B.returns
  have hts : ∀ w ∈ tb, w.before _ s = true := fun w h => atoms_spec (ws := (.code yX11_row cX11_row 2 (some .int) :: tb)) B.pre w (List.mem_cons_of_mem _ h)
  have hown : s.vm.findClass RX11 = some m.cls := findClass_of_methodNamed B.named
  have hlocks := B.notSynchronized
  subst hsz
  have hD := hD0.self (sz := s.heap.size)
  generalize hAe : va_A [(h0, .inr (11, [.ref tk, .ref pa, .ref ta, .ref ha, .ref ru, .ref to, .ref sp])), (ha, .inr (1, [pv, .ref xt, .int 0, .int 0, .ref xr, .int 0, .int 0, .ref le, .ref lc, .ref ln, .ref al, .ref lo, .ref xg, .int 0, .null]))] s.heap.size = A at hD ⊢
  have hA : ∀ q : Nat, s.heap.size ≤ q → A q := fun q h => by rw [← hAe]; exact Or.inr h
  have hS : va_S A s.heap s.heap [] := va_S.rf
  have hP : va_P (dC, dI) vwCl [(h0, .inr (11, [.ref tk, .ref pa, .ref ta, .ref ha, .ref ru, .ref to, .ref sp])), (ha, .inr (1, [pv, .ref xt, .int 0, .int 0, .ref xr, .int 0, .int 0, .ref le, .ref lc, .ref ln, .ref al, .ref lo, .ref xg, .int 0, .null]))] s.heap := hP
  have hl := lv_entry ([.ref h0, .int k]) (n := 2) (Nat.le_of_ble_eq_true rfl)
  rw [lg_entry_eq]
  generalize (lg_sl ([.ref h0, .int k]) ++ List.replicate (2 - (lg_sl ([.ref h0, .int k])).length) Slot.unset).toArray = ls at hl ⊢
  have hl : lv_has ls 2 [(0, .ref h0), (1, .int k)] := hl
  refine lv_iload_n hx hb dX11_row_0 rfl (lv_at hl 1 rfl) ?_
  refine lv_if_lt (tgt := 15) hx hb dX11_row_1 (by decide) (fun c1 => ?_) (fun c1 => ?_)
  · refine lv_iconst (v := -1) hx hb dX11_row_15 (by decide) ?_
    refine lv_goto (tgt := 28) hx hb dX11_row_16 (by decide) ?_
    have hP9 := hP.sub (ws' := []) [] rfl
    have hD9 := hD.sub (ws' := []) [] (by decide) rfl
    have hK9 := hK.sub (tys' := []) [] rfl
    refine W.widen (k := 0) (n := 0) (Nat.le_of_ble_eq_true rfl) (Nat.le_of_ble_eq_true rfl) ?_
    exact W.iret (v := -1) hx hb hr (fun t ht hW => ⟨⟨-1, (), rfl, rfl, by rw [ht]; exact hP9, va_K.moved hW.alike hK9, hD9⟩, hS.F ht⟩) hS.2.2 dX11_row_28
  · refine lv_iload_n hx hb dX11_row_4 rfl (lv_at hl 1 rfl) ?_
    refine lv_aload_n hx hb dX11_row_5 rfl (lv_at hl 0 rfl) ?_
    refine va_get (D := (dC, dI)) (ci := 11) (v := .ref ha) (C := RX11) (T := TX11) (N := 7) hx hb hts in_X11 hown hK hP 0 rfl rfl 3 (by decide) (hts _ wd_481) (fun _ h9 => h9) rfl dX11_row_6 ?_
    refine va_get (D := (dC, dI)) (ci := 1) (v := .int 0) (C := RX1) (T := TX1) (N := 15) hx hb hts in_X1 hown hK hP 1 rfl rfl 5 (by decide) (hts _ wd_244) (fun _ h9 => h9) rfl dX11_row_9 ?_
    refine lv_icmp_lt (tgt := 19) hx hb dX11_row_12 (by decide) (fun c2 => ?_) (fun c2 => ?_)
    · exact px_dead (by first | exact absurd c2 c1 | exact absurd c1 c2 | exact absurd (Int32.not_lt.mp c1) c2 | exact absurd (Int32.not_le.mp c1) c2 | exact absurd c2 (Int32.not_lt.mpr c1) | exact absurd c2 (Int32.not_le.mpr c1))
    · refine lv_iconst (v := -1) hx hb dX11_row_15 (by decide) ?_
      refine lv_goto (tgt := 28) hx hb dX11_row_16 (by decide) ?_
      have hP9 := hP.sub (ws' := []) [] rfl
      have hD9 := hD.sub (ws' := []) [] (by decide) rfl
      have hK9 := hK.sub (tys' := []) [] rfl
      refine W.widen (k := 0) (n := 0) (Nat.le_of_ble_eq_true rfl) (Nat.le_of_ble_eq_true rfl) ?_
      exact W.iret (v := -1) hx hb hr (fun t ht hW => ⟨⟨-1, (), rfl, rfl, by rw [ht]; exact hP9, va_K.moved hW.alike hK9, hD9⟩, hS.F ht⟩) hS.2.2 dX11_row_28
set_option maxHeartbeats 4000000 in
set_option maxRecDepth 100000 in
theorem ct_X11_put (l : Launch) (dC : Nat → ClassId) (dI : Nat → Nat → Nat) (h0 : Nat) (tk : Nat) (pa : Nat) (ta : Nat) (ha : Nat) (ru : Nat) (to : Nat) (sp : Nat) (pu : Nat) (nu : Nat) (qu : Nat → Nat) (i : Int32) (j : Int32) (sz : Nat) : Met l yX11_put (.code yX11_put cX11_put 3 (some .int) :: tb) ({ frames := 1, cells := 0, slots := 0, locals := 22 }) (va_Pc [.ref h0, .int i, .int j] (fun U => U.heap.size = sz ∧ va_P (dC, dI) vwCl [(h0, .inr (11, [.ref tk, .ref pa, .ref ta, .ref ha, .ref ru, .ref to, .ref sp])), (ru, .inr (6, [.int 0, .int 0, .ref pu, .ref ha, .ref nu, .int 0, .int 0, .int 0])), (pu, .inr (0, [.int 0, .ref (qu 0), .ref (qu 1)]))] U.heap ∧ va_K (dC, dI) vwCl [] U ∧ va_D (fun _ => True) [(h0, .inr (11, [.ref tk, .ref pa, .ref ta, .ref ha, .ref ru, .ref to, .ref sp])), (ru, .inr (6, [.int 0, .int 0, .ref pu, .ref ha, .ref nu, .int 0, .int 0, .int 0])), (pu, .inr (0, [.int 0, .ref (qu 0), .ref (qu 1)]))])) (va_Qi (fun (r : Int32) (_ : Unit) => r = -1) (fun (_ : Unit) t => va_P (dC, dI) vwCl [] t.heap ∧ va_K (dC, dI) vwCl [] t ∧ va_D (va_A [(h0, .inr (11, [.ref tk, .ref pa, .ref ta, .ref ha, .ref ru, .ref to, .ref sp])), (ru, .inr (6, [.int 0, .int 0, .ref pu, .ref ha, .ref nu, .int 0, .int 0, .int 0])), (pu, .inr (0, [.int 0, .ref (qu 0), .ref (qu 1)]))] sz) []) (va_A [(h0, .inr (11, [.ref tk, .ref pa, .ref ta, .ref ha, .ref ru, .ref to, .ref sp])), (ru, .inr (6, [.int 0, .int 0, .ref pu, .ref ha, .ref nu, .int 0, .int 0, .int 0])), (pu, .inr (0, [.int 0, .ref (qu 0), .ref (qu 1)]))] sz)) 0 0 (va_A [(h0, .inr (11, [.ref tk, .ref pa, .ref ta, .ref ha, .ref ru, .ref to, .ref sp])), (ru, .inr (6, [.int 0, .int 0, .ref pu, .ref ha, .ref nu, .int 0, .int 0, .int 0])), (pu, .inr (0, [.int 0, .ref (qu 0), .ref (qu 1)]))] sz) := by
  refine Met.ofW (cc := cX11_put) (maxL := 3) (ret := (some .int)) (by decide) rfl ?_
  intro p e s m args below meth c s₁ B hml hv
  obtain ⟨rfl, hsz, hP, hK, hD0⟩ := hv
  have hx := B.exec
  have hb := B.bytes
  have hr := B.returns
  have hts : ∀ w ∈ tb, w.before _ s = true := fun w h => atoms_spec (ws := (.code yX11_put cX11_put 3 (some .int) :: tb)) B.pre w (List.mem_cons_of_mem _ h)
  have hown : s.vm.findClass RX11 = some m.cls := findClass_of_methodNamed B.named
  have hlocks := B.notSynchronized
  subst hsz
  have hD := hD0.self (sz := s.heap.size)
  generalize hAe : va_A [(h0, .inr (11, [.ref tk, .ref pa, .ref ta, .ref ha, .ref ru, .ref to, .ref sp])), (ru, .inr (6, [.int 0, .int 0, .ref pu, .ref ha, .ref nu, .int 0, .int 0, .int 0])), (pu, .inr (0, [.int 0, .ref (qu 0), .ref (qu 1)]))] s.heap.size = A at hD ⊢
  have hA : ∀ q : Nat, s.heap.size ≤ q → A q := fun q h => by rw [← hAe]; exact Or.inr h
  have hS : va_S A s.heap s.heap [] := va_S.rf
  have hP : va_P (dC, dI) vwCl [(h0, .inr (11, [.ref tk, .ref pa, .ref ta, .ref ha, .ref ru, .ref to, .ref sp])), (ru, .inr (6, [.int 0, .int 0, .ref pu, .ref ha, .ref nu, .int 0, .int 0, .int 0])), (pu, .inr (0, [.int 0, .ref (qu 0), .ref (qu 1)]))] s.heap := hP
  have hl := lv_entry ([.ref h0, .int i, .int j]) (n := 3) (Nat.le_of_ble_eq_true rfl)
  rw [lg_entry_eq]
  generalize (lg_sl ([.ref h0, .int i, .int j]) ++ List.replicate (3 - (lg_sl ([.ref h0, .int i, .int j])).length) Slot.unset).toArray = ls at hl ⊢
  have hl : lv_has ls 3 [(0, .ref h0), (1, .int i), (2, .int j)] := hl
  refine lv_aload_n hx hb dX11_put_0 rfl (lv_at hl 0 rfl) ?_
  refine va_get (D := (dC, dI)) (ci := 11) (v := .ref ru) (C := RX11) (T := TX11) (N := 7) hx hb hts in_X11 hown hK hP 0 rfl rfl 4 (by decide) (hts _ wd_482) (fun _ h9 => h9) rfl dX11_put_1 ?_
  refine va_get (D := (dC, dI)) (ci := 6) (v := .ref pu) (C := RX6) (T := TX6) (N := 8) hx hb hts in_X6 hown hK hP 1 rfl rfl 2 (by decide) (hts _ wd_306) (fun _ h9 => h9) rfl dX11_put_4 ?_
  refine lv_iload_n hx hb dX11_put_7 rfl (lv_at hl 1 rfl) ?_
  refine lv_iload_n hx hb dX11_put_8 rfl (lv_at hl 2 rfl) ?_
  have hPc := hP.sub (ws' := [(pu, .inr (0, [.int 0, .ref (qu 0), .ref (qu 1)]))]) [2] rfl
  have hDc := hD.sub (ws' := [(pu, .inr (0, [.int 0, .ref (qu 0), .ref (qu 1)]))]) [2] (by decide) rfl
  have hKc := hK.sub (tys' := []) [] rfl
  have hFc := va_free (wc := [(pu, .inr (0, [.int 0, .ref (qu 0), .ref (qu 1)]))]) hD hS hA [2] rfl
  refine va_calli (va_runV (As := [.int i, .int j]) (rest := []) ⟨hx, hb, hml, hown, hts⟩ (ct_X0_tell l dC dI pu qu i j s.heap.size) (cwV 2 hts (gd_V wd_1252 wd_1253 wd_1254 wd_11 wd_1255) rfl rfl rfl (by decide +kernel) ⟨Nat.le_of_ble_eq_true rfl, Nat.le_of_ble_eq_true rfl⟩) ⟨fun a U g mk q => by obtain ⟨q0, q1, qP, qK, qD⟩ := q; exact ⟨q0, q1, qP, va_K.moved (u := U) (U := U.calling g mk a) (Vm.Alike.refl U.vm) qK, qD⟩, va_recv hKc hPc (ci := 0) (q0 := 0) rfl rfl, fun U hU hW => ⟨rfl, by rw [hU], by rw [hU]; exact hPc, va_K.moved hW.alike hKc, hDc.weaken (fun _ _ _ _ => trivial)⟩⟩ rfl rfl hl.1 rfl (lv_room (Nat.le_of_ble_eq_true rfl)) dX11_put_9 ⟨Nat.le_of_ble_eq_true rfl, Nat.le_of_ble_eq_true rfl⟩) hS (fun q _ h => hFc q h) hFc (fun r1 u t H1 locs ht hvm hw hB hz1 hk1 hS => ?_)
  obtain ⟨hP1, hK1, hD1⟩ := hB
  rw [ht] at hP1
  have hK1 := va_K.moved hvm.symm hK1
  obtain ⟨hP, hD⟩ := va_join (wr := [(h0, .inr (11, [.ref tk, .ref pa, .ref ta, .ref ha, .ref ru, .ref to, .ref sp])), (ru, .inr (6, [.int 0, .int 0, .ref pu, .ref ha, .ref nu, .int 0, .int 0, .int 0]))]) (w1 := []) hP hD [2] [0, 1] rfl rfl (by decide) (by decide) hk1 hFc hP1 hD1
  have hK := (hK.sub (tys' := []) [] rfl).app (hK1.sub (tys' := []) [] rfl)
  generalize H1 = H at hP hS ⊢
  have hP : va_P (dC, dI) vwCl [(h0, .inr (11, [.ref tk, .ref pa, .ref ta, .ref ha, .ref ru, .ref to, .ref sp])), (ru, .inr (6, [.int 0, .int 0, .ref pu, .ref ha, .ref nu, .int 0, .int 0, .int 0]))] H := hP
  have hD : va_D A [(h0, .inr (11, [.ref tk, .ref pa, .ref ta, .ref ha, .ref ru, .ref to, .ref sp])), (ru, .inr (6, [.int 0, .int 0, .ref pu, .ref ha, .ref nu, .int 0, .int 0, .int 0]))] := hD
  have hK : va_K (dC, dI) vwCl [] s := hK
  obtain rfl := hw
  have hP9 := hP.sub (ws' := []) [] rfl
  have hD9 := hD.sub (ws' := []) [] (by decide) rfl
  have hK9 := hK.sub (tys' := []) [] rfl
  refine W.widen (k := 0) (n := 0) (Nat.le_of_ble_eq_true rfl) (Nat.le_of_ble_eq_true rfl) ?_
  exact W.iret (v := -1) hx hb hr (fun t ht hW => ⟨⟨-1, (), rfl, rfl, by rw [ht]; exact hP9, va_K.moved hW.alike hK9, hD9⟩, hS.F ht⟩) hS.2.2 dX11_put_12
set_option maxHeartbeats 4000000 in
set_option maxRecDepth 100000 in
theorem ct_X11_lost (l : Launch) (dC : Nat → ClassId) (dI : Nat → Nat → Nat) (h0 : Nat) (tk : Nat) (pa : Nat) (ta : Nat) (ha : Nat) (ru : Nat) (to : Nat) (sp : Nat) (pv : Value) (xt : Nat) (xr : Nat) (le : Nat) (lc : Nat) (ln : Nat) (al : Nat) (lo : Nat) (xg : Nat) (ql : Nat → Nat) (i : Int32) (j : Int32) (sz : Nat) : Met l yX11_lost (.code yX11_lost cX11_lost 3 (some .int) :: tb) ({ frames := 1, cells := 0, slots := 0, locals := 22 }) (va_Pc [.ref h0, .int i, .int j] (fun U => U.heap.size = sz ∧ va_P (dC, dI) vwCl [(h0, .inr (11, [.ref tk, .ref pa, .ref ta, .ref ha, .ref ru, .ref to, .ref sp])), (ha, .inr (1, [pv, .ref xt, .int 0, .int 0, .ref xr, .int 0, .int 0, .ref le, .ref lc, .ref ln, .ref al, .ref lo, .ref xg, .int 0, .null])), (lo, .inr (0, [.int 0, .ref (ql 0), .ref (ql 1)]))] U.heap ∧ va_K (dC, dI) vwCl [] U ∧ va_D (fun _ => True) [(h0, .inr (11, [.ref tk, .ref pa, .ref ta, .ref ha, .ref ru, .ref to, .ref sp])), (ha, .inr (1, [pv, .ref xt, .int 0, .int 0, .ref xr, .int 0, .int 0, .ref le, .ref lc, .ref ln, .ref al, .ref lo, .ref xg, .int 0, .null])), (lo, .inr (0, [.int 0, .ref (ql 0), .ref (ql 1)]))])) (va_Qi (fun (r : Int32) (_ : Unit) => r = -1) (fun (_ : Unit) t => va_P (dC, dI) vwCl [] t.heap ∧ va_K (dC, dI) vwCl [] t ∧ va_D (va_A [(h0, .inr (11, [.ref tk, .ref pa, .ref ta, .ref ha, .ref ru, .ref to, .ref sp])), (ha, .inr (1, [pv, .ref xt, .int 0, .int 0, .ref xr, .int 0, .int 0, .ref le, .ref lc, .ref ln, .ref al, .ref lo, .ref xg, .int 0, .null])), (lo, .inr (0, [.int 0, .ref (ql 0), .ref (ql 1)]))] sz) []) (va_A [(h0, .inr (11, [.ref tk, .ref pa, .ref ta, .ref ha, .ref ru, .ref to, .ref sp])), (ha, .inr (1, [pv, .ref xt, .int 0, .int 0, .ref xr, .int 0, .int 0, .ref le, .ref lc, .ref ln, .ref al, .ref lo, .ref xg, .int 0, .null])), (lo, .inr (0, [.int 0, .ref (ql 0), .ref (ql 1)]))] sz)) 0 0 (va_A [(h0, .inr (11, [.ref tk, .ref pa, .ref ta, .ref ha, .ref ru, .ref to, .ref sp])), (ha, .inr (1, [pv, .ref xt, .int 0, .int 0, .ref xr, .int 0, .int 0, .ref le, .ref lc, .ref ln, .ref al, .ref lo, .ref xg, .int 0, .null])), (lo, .inr (0, [.int 0, .ref (ql 0), .ref (ql 1)]))] sz) := by
  refine Met.ofW (cc := cX11_lost) (maxL := 3) (ret := (some .int)) (by decide) rfl ?_
  intro p e s m args below meth c s₁ B hml hv
  obtain ⟨rfl, hsz, hP, hK, hD0⟩ := hv
  have hx := B.exec
  have hb := B.bytes
  have hr := B.returns
  have hts : ∀ w ∈ tb, w.before _ s = true := fun w h => atoms_spec (ws := (.code yX11_lost cX11_lost 3 (some .int) :: tb)) B.pre w (List.mem_cons_of_mem _ h)
  have hown : s.vm.findClass RX11 = some m.cls := findClass_of_methodNamed B.named
  have hlocks := B.notSynchronized
  subst hsz
  have hD := hD0.self (sz := s.heap.size)
  generalize hAe : va_A [(h0, .inr (11, [.ref tk, .ref pa, .ref ta, .ref ha, .ref ru, .ref to, .ref sp])), (ha, .inr (1, [pv, .ref xt, .int 0, .int 0, .ref xr, .int 0, .int 0, .ref le, .ref lc, .ref ln, .ref al, .ref lo, .ref xg, .int 0, .null])), (lo, .inr (0, [.int 0, .ref (ql 0), .ref (ql 1)]))] s.heap.size = A at hD ⊢
  have hA : ∀ q : Nat, s.heap.size ≤ q → A q := fun q h => by rw [← hAe]; exact Or.inr h
  have hS : va_S A s.heap s.heap [] := va_S.rf
  have hP : va_P (dC, dI) vwCl [(h0, .inr (11, [.ref tk, .ref pa, .ref ta, .ref ha, .ref ru, .ref to, .ref sp])), (ha, .inr (1, [pv, .ref xt, .int 0, .int 0, .ref xr, .int 0, .int 0, .ref le, .ref lc, .ref ln, .ref al, .ref lo, .ref xg, .int 0, .null])), (lo, .inr (0, [.int 0, .ref (ql 0), .ref (ql 1)]))] s.heap := hP
  have hl := lv_entry ([.ref h0, .int i, .int j]) (n := 3) (Nat.le_of_ble_eq_true rfl)
  rw [lg_entry_eq]
  generalize (lg_sl ([.ref h0, .int i, .int j]) ++ List.replicate (3 - (lg_sl ([.ref h0, .int i, .int j])).length) Slot.unset).toArray = ls at hl ⊢
  have hl : lv_has ls 3 [(0, .ref h0), (1, .int i), (2, .int j)] := hl
  refine lv_aload_n hx hb dX11_lost_0 rfl (lv_at hl 0 rfl) ?_
  refine va_get (D := (dC, dI)) (ci := 11) (v := .ref ha) (C := RX11) (T := TX11) (N := 7) hx hb hts in_X11 hown hK hP 0 rfl rfl 3 (by decide) (hts _ wd_481) (fun _ h9 => h9) rfl dX11_lost_1 ?_
  refine va_get (D := (dC, dI)) (ci := 1) (v := .ref lo) (C := RX1) (T := TX1) (N := 15) hx hb hts in_X1 hown hK hP 1 rfl rfl 11 (by decide) (hts _ wd_258) (fun _ h9 => h9) rfl dX11_lost_4 ?_
  refine lv_iload_n hx hb dX11_lost_7 rfl (lv_at hl 1 rfl) ?_
  refine lv_iload_n hx hb dX11_lost_8 rfl (lv_at hl 2 rfl) ?_
  have hPc := hP.sub (ws' := [(lo, .inr (0, [.int 0, .ref (ql 0), .ref (ql 1)]))]) [2] rfl
  have hDc := hD.sub (ws' := [(lo, .inr (0, [.int 0, .ref (ql 0), .ref (ql 1)]))]) [2] (by decide) rfl
  have hKc := hK.sub (tys' := []) [] rfl
  have hFc := va_free (wc := [(lo, .inr (0, [.int 0, .ref (ql 0), .ref (ql 1)]))]) hD hS hA [2] rfl
  refine va_calli (va_runV (As := [.int i, .int j]) (rest := []) ⟨hx, hb, hml, hown, hts⟩ (ct_X0_tell l dC dI lo ql i j s.heap.size) (cwV 2 hts (gd_V wd_1252 wd_1253 wd_1254 wd_11 wd_1255) rfl rfl rfl (by decide +kernel) ⟨Nat.le_of_ble_eq_true rfl, Nat.le_of_ble_eq_true rfl⟩) ⟨fun a U g mk q => by obtain ⟨q0, q1, qP, qK, qD⟩ := q; exact ⟨q0, q1, qP, va_K.moved (u := U) (U := U.calling g mk a) (Vm.Alike.refl U.vm) qK, qD⟩, va_recv hKc hPc (ci := 0) (q0 := 0) rfl rfl, fun U hU hW => ⟨rfl, by rw [hU], by rw [hU]; exact hPc, va_K.moved hW.alike hKc, hDc.weaken (fun _ _ _ _ => trivial)⟩⟩ rfl rfl hl.1 rfl (lv_room (Nat.le_of_ble_eq_true rfl)) dX11_lost_9 ⟨Nat.le_of_ble_eq_true rfl, Nat.le_of_ble_eq_true rfl⟩) hS (fun q _ h => hFc q h) hFc (fun r1 u t H1 locs ht hvm hw hB hz1 hk1 hS => ?_)
  obtain ⟨hP1, hK1, hD1⟩ := hB
  rw [ht] at hP1
  have hK1 := va_K.moved hvm.symm hK1
  obtain ⟨hP, hD⟩ := va_join (wr := [(h0, .inr (11, [.ref tk, .ref pa, .ref ta, .ref ha, .ref ru, .ref to, .ref sp])), (ha, .inr (1, [pv, .ref xt, .int 0, .int 0, .ref xr, .int 0, .int 0, .ref le, .ref lc, .ref ln, .ref al, .ref lo, .ref xg, .int 0, .null]))]) (w1 := []) hP hD [2] [0, 1] rfl rfl (by decide) (by decide) hk1 hFc hP1 hD1
  have hK := (hK.sub (tys' := []) [] rfl).app (hK1.sub (tys' := []) [] rfl)
  generalize H1 = H at hP hS ⊢
  have hP : va_P (dC, dI) vwCl [(h0, .inr (11, [.ref tk, .ref pa, .ref ta, .ref ha, .ref ru, .ref to, .ref sp])), (ha, .inr (1, [pv, .ref xt, .int 0, .int 0, .ref xr, .int 0, .int 0, .ref le, .ref lc, .ref ln, .ref al, .ref lo, .ref xg, .int 0, .null]))] H := hP
  have hD : va_D A [(h0, .inr (11, [.ref tk, .ref pa, .ref ta, .ref ha, .ref ru, .ref to, .ref sp])), (ha, .inr (1, [pv, .ref xt, .int 0, .int 0, .ref xr, .int 0, .int 0, .ref le, .ref lc, .ref ln, .ref al, .ref lo, .ref xg, .int 0, .null]))] := hD
  have hK : va_K (dC, dI) vwCl [] s := hK
  obtain rfl := hw
  have hP9 := hP.sub (ws' := []) [] rfl
  have hD9 := hD.sub (ws' := []) [] (by decide) rfl
  have hK9 := hK.sub (tys' := []) [] rfl
  refine W.widen (k := 0) (n := 0) (Nat.le_of_ble_eq_true rfl) (Nat.le_of_ble_eq_true rfl) ?_
  exact W.iret (v := -1) hx hb hr (fun t ht hW => ⟨⟨-1, (), rfl, rfl, by rw [ht]; exact hP9, va_K.moved hW.alike hK9, hD9⟩, hS.F ht⟩) hS.2.2 dX11_lost_12
set_option maxHeartbeats 4000000 in
set_option maxRecDepth 100000 in
theorem ct_X11_box (l : Launch) (dC : Nat → ClassId) (dI : Nat → Nat → Nat) (h0 : Nat) (tk : Nat) (pa : Nat) (ta : Nat) (ha : Nat) (ru : Nat) (to : Nat) (sp : Nat) (pv : Value) (xt : Nat) (xr : Nat) (le : Nat) (lc : Nat) (ln : Nat) (al : Nat) (lo : Nat) (xg : Nat) (klc : ClassId) (i : Int32) (j : Int32) (sz : Nat) : Met l yX11_box (.code yX11_box cX11_box 3 (some .int) :: tb) ({ frames := 0, cells := 0, slots := 0, locals := 0 }) (va_Pc [.ref h0, .int i, .int j] (fun U => U.heap.size = sz ∧ va_P (dC, dI) vwCl [(h0, .inr (11, [.ref tk, .ref pa, .ref ta, .ref ha, .ref ru, .ref to, .ref sp])), (ha, .inr (1, [pv, .ref xt, .int 0, .int 0, .ref xr, .int 0, .int 0, .ref le, .ref lc, .ref ln, .ref al, .ref lo, .ref xg, .int 0, .null])), (lc, .inl (klc, 8, .inl (fun _ => 0)))] U.heap ∧ va_K (dC, dI) vwCl [(klc, .int)] U ∧ va_D (fun _ => True) [(h0, .inr (11, [.ref tk, .ref pa, .ref ta, .ref ha, .ref ru, .ref to, .ref sp])), (ha, .inr (1, [pv, .ref xt, .int 0, .int 0, .ref xr, .int 0, .int 0, .ref le, .ref lc, .ref ln, .ref al, .ref lo, .ref xg, .int 0, .null])), (lc, .inl (klc, 8, .inl (fun _ => 0)))])) (va_Qi (fun (r : Int32) (_ : Unit) => r = 0) (fun (_ : Unit) t => va_P (dC, dI) vwCl [] t.heap ∧ va_K (dC, dI) vwCl [] t ∧ va_D (va_A [(h0, .inr (11, [.ref tk, .ref pa, .ref ta, .ref ha, .ref ru, .ref to, .ref sp])), (ha, .inr (1, [pv, .ref xt, .int 0, .int 0, .ref xr, .int 0, .int 0, .ref le, .ref lc, .ref ln, .ref al, .ref lo, .ref xg, .int 0, .null])), (lc, .inl (klc, 8, .inl (fun _ => 0)))] sz) []) (va_A [(h0, .inr (11, [.ref tk, .ref pa, .ref ta, .ref ha, .ref ru, .ref to, .ref sp])), (ha, .inr (1, [pv, .ref xt, .int 0, .int 0, .ref xr, .int 0, .int 0, .ref le, .ref lc, .ref ln, .ref al, .ref lo, .ref xg, .int 0, .null])), (lc, .inl (klc, 8, .inl (fun _ => 0)))] sz)) 0 0 (va_A [(h0, .inr (11, [.ref tk, .ref pa, .ref ta, .ref ha, .ref ru, .ref to, .ref sp])), (ha, .inr (1, [pv, .ref xt, .int 0, .int 0, .ref xr, .int 0, .int 0, .ref le, .ref lc, .ref ln, .ref al, .ref lo, .ref xg, .int 0, .null])), (lc, .inl (klc, 8, .inl (fun _ => 0)))] sz) := by
  refine Met.ofW (cc := cX11_box) (maxL := 3) (ret := (some .int)) (by decide) rfl ?_
  intro p e s m args below meth c s₁ B hml hv
  obtain ⟨rfl, hsz, hP, hK, hD0⟩ := hv
  have hx := B.exec
  have hb := B.bytes
  have hr := B.returns
  have hts : ∀ w ∈ tb, w.before _ s = true := fun w h => atoms_spec (ws := (.code yX11_box cX11_box 3 (some .int) :: tb)) B.pre w (List.mem_cons_of_mem _ h)
  have hown : s.vm.findClass RX11 = some m.cls := findClass_of_methodNamed B.named
  have hlocks := B.notSynchronized
  subst hsz
  have hD := hD0.self (sz := s.heap.size)
  generalize hAe : va_A [(h0, .inr (11, [.ref tk, .ref pa, .ref ta, .ref ha, .ref ru, .ref to, .ref sp])), (ha, .inr (1, [pv, .ref xt, .int 0, .int 0, .ref xr, .int 0, .int 0, .ref le, .ref lc, .ref ln, .ref al, .ref lo, .ref xg, .int 0, .null])), (lc, .inl (klc, 8, .inl (fun _ => 0)))] s.heap.size = A at hD ⊢
  have hA : ∀ q : Nat, s.heap.size ≤ q → A q := fun q h => by rw [← hAe]; exact Or.inr h
  have hS : va_S A s.heap s.heap [] := va_S.rf
  have hP : va_P (dC, dI) vwCl [(h0, .inr (11, [.ref tk, .ref pa, .ref ta, .ref ha, .ref ru, .ref to, .ref sp])), (ha, .inr (1, [pv, .ref xt, .int 0, .int 0, .ref xr, .int 0, .int 0, .ref le, .ref lc, .ref ln, .ref al, .ref lo, .ref xg, .int 0, .null])), (lc, .inl (klc, 8, .inl (fun _ => 0)))] s.heap := hP
  have hl := lv_entry ([.ref h0, .int i, .int j]) (n := 3) (Nat.le_of_ble_eq_true rfl)
  rw [lg_entry_eq]
  generalize (lg_sl ([.ref h0, .int i, .int j]) ++ List.replicate (3 - (lg_sl ([.ref h0, .int i, .int j])).length) Slot.unset).toArray = ls at hl ⊢
  have hl : lv_has ls 3 [(0, .ref h0), (1, .int i), (2, .int j)] := hl
  refine lv_iload_n hx hb dX11_box_0 rfl (lv_at hl 1 rfl) ?_
  refine lv_if_lt (tgt := 27) hx hb dX11_box_1 (by decide) (fun c1 => ?_) (fun c1 => ?_)
  · refine lv_iconst (v := 0) hx hb dX11_box_27 (by decide) ?_
    have hP9 := hP.sub (ws' := []) [] rfl
    have hD9 := hD.sub (ws' := []) [] (by decide) rfl
    have hK9 := hK.sub (tys' := []) [] rfl
    refine W.widen (k := 0) (n := 0) (Nat.le_of_ble_eq_true rfl) (Nat.le_of_ble_eq_true rfl) ?_
    exact W.iret (v := 0) hx hb hr (fun t ht hW => ⟨⟨0, (), rfl, rfl, by rw [ht]; exact hP9, va_K.moved hW.alike hK9, hD9⟩, hS.F ht⟩) hS.2.2 dX11_box_28
  · refine lv_iload_n hx hb dX11_box_4 rfl (lv_at hl 1 rfl) ?_
    refine lv_bipush (v := 8) hx hb dX11_box_5 (by decide) ?_
    refine lv_icmp_ge (tgt := 27) hx hb dX11_box_7 (by decide) (fun c2 => ?_) (fun c2 => ?_)
    · refine lv_iconst (v := 0) hx hb dX11_box_27 (by decide) ?_
      have hP9 := hP.sub (ws' := []) [] rfl
      have hD9 := hD.sub (ws' := []) [] (by decide) rfl
      have hK9 := hK.sub (tys' := []) [] rfl
      refine W.widen (k := 0) (n := 0) (Nat.le_of_ble_eq_true rfl) (Nat.le_of_ble_eq_true rfl) ?_
      exact W.iret (v := 0) hx hb hr (fun t ht hW => ⟨⟨0, (), rfl, rfl, by rw [ht]; exact hP9, va_K.moved hW.alike hK9, hD9⟩, hS.F ht⟩) hS.2.2 dX11_box_28
    · refine lv_iload_n hx hb dX11_box_10 rfl (lv_at hl 2 rfl) ?_
      refine lv_if_lt (tgt := 27) hx hb dX11_box_11 (by decide) (fun c3 => ?_) (fun c3 => ?_)
      · refine lv_iconst (v := 0) hx hb dX11_box_27 (by decide) ?_
        have hP9 := hP.sub (ws' := []) [] rfl
        have hD9 := hD.sub (ws' := []) [] (by decide) rfl
        have hK9 := hK.sub (tys' := []) [] rfl
        refine W.widen (k := 0) (n := 0) (Nat.le_of_ble_eq_true rfl) (Nat.le_of_ble_eq_true rfl) ?_
        exact W.iret (v := 0) hx hb hr (fun t ht hW => ⟨⟨0, (), rfl, rfl, by rw [ht]; exact hP9, va_K.moved hW.alike hK9, hD9⟩, hS.F ht⟩) hS.2.2 dX11_box_28
      · refine lv_iload_n hx hb dX11_box_14 rfl (lv_at hl 2 rfl) ?_
        refine lv_aload_n hx hb dX11_box_15 rfl (lv_at hl 0 rfl) ?_
        refine va_get (D := (dC, dI)) (ci := 11) (v := .ref ha) (C := RX11) (T := TX11) (N := 7) hx hb hts in_X11 hown hK hP 0 rfl rfl 3 (by decide) (hts _ wd_481) (fun _ h9 => h9) rfl dX11_box_16 ?_
        refine va_get (D := (dC, dI)) (ci := 1) (v := .ref lc) (C := RX1) (T := TX1) (N := 15) hx hb hts in_X1 hown hK hP 1 rfl rfl 8 (by decide) (hts _ wd_252) (fun _ h9 => h9) rfl dX11_box_19 ?_
        refine lv_iload_n hx hb dX11_box_22 rfl (lv_at hl 1 rfl) ?_
        refine va_iald hx hb hK hP 2 0 rfl rfl (px_inb (N := 8) rfl c1 c2) dX11_box_23 ?_
        refine lv_topi (fun z4 ez4 => ?_)
        obtain rfl : z4 = 0 := ez4.trans (by first | rfl | decide)
        refine lv_icmp_lt (tgt := 29) hx hb dX11_box_24 (by decide) (fun c5 => ?_) (fun c5 => ?_)
        · exact px_dead (by first | exact absurd c5 c3 | exact absurd c3 c5 | exact absurd (Int32.not_lt.mp c3) c5 | exact absurd (Int32.not_le.mp c3) c5 | exact absurd c5 (Int32.not_lt.mpr c3) | exact absurd c5 (Int32.not_le.mpr c3))
        · refine lv_iconst (v := 0) hx hb dX11_box_27 (by decide) ?_
          have hP9 := hP.sub (ws' := []) [] rfl
          have hD9 := hD.sub (ws' := []) [] (by decide) rfl
          have hK9 := hK.sub (tys' := []) [] rfl
          refine W.widen (k := 0) (n := 0) (Nat.le_of_ble_eq_true rfl) (Nat.le_of_ble_eq_true rfl) ?_
          exact W.iret (v := 0) hx hb hr (fun t ht hW => ⟨⟨0, (), rfl, rfl, by rw [ht]; exact hP9, va_K.moved hW.alike hK9, hD9⟩, hS.F ht⟩) hS.2.2 dX11_box_28
set_option maxHeartbeats 4000000 in
set_option maxRecDepth 100000 in
theorem ct_X11_stands (l : Launch) (dC : Nat → ClassId) (dI : Nat → Nat → Nat) (h0 : Nat) (tk : Nat) (pa : Nat) (ta : Nat) (ha : Nat) (ru : Nat) (to : Nat) (sp : Nat) (pv : Value) (xt : Nat) (xr : Nat) (le : Nat) (lc : Nat) (ln : Nat) (al : Nat) (lo : Nat) (xg : Nat) (kln : ClassId) (l0 : Nat) (l1 : Nat) (l2 : Nat) (l3 : Nat) (l4 : Nat) (l5 : Nat) (l6 : Nat) (l7 : Nat) (i : Int32) (j : Int32) (sz : Nat) : Met l yX11_stands (.code yX11_stands cX11_stands 3 (some .int) :: tb) ({ frames := 1, cells := 0, slots := 0, locals := 23 }) (va_Pc [.ref h0, .int i, .int j] (fun U => U.heap.size = sz ∧ va_P (dC, dI) vwCl [(h0, .inr (11, [.ref tk, .ref pa, .ref ta, .ref ha, .ref ru, .ref to, .ref sp])), (ha, .inr (1, [pv, .ref xt, .int 0, .int 0, .ref xr, .int 0, .int 0, .ref le, .ref lc, .ref ln, .ref al, .ref lo, .ref xg, .int 0, .null])), (ln, .inl (kln, 8, .inr (.inr (.inr (.inr (fun i => [l0, l1, l2, l3, l4, l5, l6, l7][i]?)))))), (l0, .inr (2, [.null, .null])), (l1, .inr (2, [.null, .null])), (l2, .inr (2, [.null, .null])), (l3, .inr (2, [.null, .null])), (l4, .inr (2, [.null, .null])), (l5, .inr (2, [.null, .null])), (l6, .inr (2, [.null, .null])), (l7, .inr (2, [.null, .null]))] U.heap ∧ va_K (dC, dI) vwCl [(kln, .object RX2)] U ∧ va_D (fun _ => True) [(h0, .inr (11, [.ref tk, .ref pa, .ref ta, .ref ha, .ref ru, .ref to, .ref sp])), (ha, .inr (1, [pv, .ref xt, .int 0, .int 0, .ref xr, .int 0, .int 0, .ref le, .ref lc, .ref ln, .ref al, .ref lo, .ref xg, .int 0, .null])), (ln, .inl (kln, 8, .inr (.inr (.inr (.inr (fun i => [l0, l1, l2, l3, l4, l5, l6, l7][i]?)))))), (l0, .inr (2, [.null, .null])), (l1, .inr (2, [.null, .null])), (l2, .inr (2, [.null, .null])), (l3, .inr (2, [.null, .null])), (l4, .inr (2, [.null, .null])), (l5, .inr (2, [.null, .null])), (l6, .inr (2, [.null, .null])), (l7, .inr (2, [.null, .null]))])) (va_Qi (fun (r : Int32) (_ : Unit) => r = -1) (fun (_ : Unit) t => va_P (dC, dI) vwCl [] t.heap ∧ va_K (dC, dI) vwCl [] t ∧ va_D (va_A [(h0, .inr (11, [.ref tk, .ref pa, .ref ta, .ref ha, .ref ru, .ref to, .ref sp])), (ha, .inr (1, [pv, .ref xt, .int 0, .int 0, .ref xr, .int 0, .int 0, .ref le, .ref lc, .ref ln, .ref al, .ref lo, .ref xg, .int 0, .null])), (ln, .inl (kln, 8, .inr (.inr (.inr (.inr (fun i => [l0, l1, l2, l3, l4, l5, l6, l7][i]?)))))), (l0, .inr (2, [.null, .null])), (l1, .inr (2, [.null, .null])), (l2, .inr (2, [.null, .null])), (l3, .inr (2, [.null, .null])), (l4, .inr (2, [.null, .null])), (l5, .inr (2, [.null, .null])), (l6, .inr (2, [.null, .null])), (l7, .inr (2, [.null, .null]))] sz) []) (va_A [(h0, .inr (11, [.ref tk, .ref pa, .ref ta, .ref ha, .ref ru, .ref to, .ref sp])), (ha, .inr (1, [pv, .ref xt, .int 0, .int 0, .ref xr, .int 0, .int 0, .ref le, .ref lc, .ref ln, .ref al, .ref lo, .ref xg, .int 0, .null])), (ln, .inl (kln, 8, .inr (.inr (.inr (.inr (fun i => [l0, l1, l2, l3, l4, l5, l6, l7][i]?)))))), (l0, .inr (2, [.null, .null])), (l1, .inr (2, [.null, .null])), (l2, .inr (2, [.null, .null])), (l3, .inr (2, [.null, .null])), (l4, .inr (2, [.null, .null])), (l5, .inr (2, [.null, .null])), (l6, .inr (2, [.null, .null])), (l7, .inr (2, [.null, .null]))] sz)) 0 0 (va_A [(h0, .inr (11, [.ref tk, .ref pa, .ref ta, .ref ha, .ref ru, .ref to, .ref sp])), (ha, .inr (1, [pv, .ref xt, .int 0, .int 0, .ref xr, .int 0, .int 0, .ref le, .ref lc, .ref ln, .ref al, .ref lo, .ref xg, .int 0, .null])), (ln, .inl (kln, 8, .inr (.inr (.inr (.inr (fun i => [l0, l1, l2, l3, l4, l5, l6, l7][i]?)))))), (l0, .inr (2, [.null, .null])), (l1, .inr (2, [.null, .null])), (l2, .inr (2, [.null, .null])), (l3, .inr (2, [.null, .null])), (l4, .inr (2, [.null, .null])), (l5, .inr (2, [.null, .null])), (l6, .inr (2, [.null, .null])), (l7, .inr (2, [.null, .null]))] sz) := by
  refine Met.ofW (cc := cX11_stands) (maxL := 3) (ret := (some .int)) (by decide) rfl ?_
  intro p e s m args below meth c s₁ B hml hv
  obtain ⟨rfl, hsz, hP, hK, hD0⟩ := hv
  have hx := B.exec
  have hb := B.bytes
  have hr := B.returns
  have hts : ∀ w ∈ tb, w.before _ s = true := fun w h => atoms_spec (ws := (.code yX11_stands cX11_stands 3 (some .int) :: tb)) B.pre w (List.mem_cons_of_mem _ h)
  have hown : s.vm.findClass RX11 = some m.cls := findClass_of_methodNamed B.named
  have hlocks := B.notSynchronized
  subst hsz
  have hD := hD0.self (sz := s.heap.size)
  generalize hAe : va_A [(h0, .inr (11, [.ref tk, .ref pa, .ref ta, .ref ha, .ref ru, .ref to, .ref sp])), (ha, .inr (1, [pv, .ref xt, .int 0, .int 0, .ref xr, .int 0, .int 0, .ref le, .ref lc, .ref ln, .ref al, .ref lo, .ref xg, .int 0, .null])), (ln, .inl (kln, 8, .inr (.inr (.inr (.inr (fun i => [l0, l1, l2, l3, l4, l5, l6, l7][i]?)))))), (l0, .inr (2, [.null, .null])), (l1, .inr (2, [.null, .null])), (l2, .inr (2, [.null, .null])), (l3, .inr (2, [.null, .null])), (l4, .inr (2, [.null, .null])), (l5, .inr (2, [.null, .null])), (l6, .inr (2, [.null, .null])), (l7, .inr (2, [.null, .null]))] s.heap.size = A at hD ⊢
  have hA : ∀ q : Nat, s.heap.size ≤ q → A q := fun q h => by rw [← hAe]; exact Or.inr h
  have hS : va_S A s.heap s.heap [] := va_S.rf
  have hP : va_P (dC, dI) vwCl [(h0, .inr (11, [.ref tk, .ref pa, .ref ta, .ref ha, .ref ru, .ref to, .ref sp])), (ha, .inr (1, [pv, .ref xt, .int 0, .int 0, .ref xr, .int 0, .int 0, .ref le, .ref lc, .ref ln, .ref al, .ref lo, .ref xg, .int 0, .null])), (ln, .inl (kln, 8, .inr (.inr (.inr (.inr (fun i => [l0, l1, l2, l3, l4, l5, l6, l7][i]?)))))), (l0, .inr (2, [.null, .null])), (l1, .inr (2, [.null, .null])), (l2, .inr (2, [.null, .null])), (l3, .inr (2, [.null, .null])), (l4, .inr (2, [.null, .null])), (l5, .inr (2, [.null, .null])), (l6, .inr (2, [.null, .null])), (l7, .inr (2, [.null, .null]))] s.heap := hP
  have hl := lv_entry ([.ref h0, .int i, .int j]) (n := 3) (Nat.le_of_ble_eq_true rfl)
  rw [lg_entry_eq]
  generalize (lg_sl ([.ref h0, .int i, .int j]) ++ List.replicate (3 - (lg_sl ([.ref h0, .int i, .int j])).length) Slot.unset).toArray = ls at hl ⊢
  have hl : lv_has ls 3 [(0, .ref h0), (1, .int i), (2, .int j)] := hl
  refine lv_iload_n hx hb dX11_stands_0 rfl (lv_at hl 1 rfl) ?_
  refine lv_if_lt (tgt := 10) hx hb dX11_stands_1 (by decide) (fun c1 => ?_) (fun c1 => ?_)
  · refine lv_iconst (v := -1) hx hb dX11_stands_10 (by decide) ?_
    refine lv_goto (tgt := 27) hx hb dX11_stands_11 (by decide) ?_
    have hP9 := hP.sub (ws' := []) [] rfl
    have hD9 := hD.sub (ws' := []) [] (by decide) rfl
    have hK9 := hK.sub (tys' := []) [] rfl
    refine W.widen (k := 0) (n := 0) (Nat.le_of_ble_eq_true rfl) (Nat.le_of_ble_eq_true rfl) ?_
    exact W.iret (v := -1) hx hb hr (fun t ht hW => ⟨⟨-1, (), rfl, rfl, by rw [ht]; exact hP9, va_K.moved hW.alike hK9, hD9⟩, hS.F ht⟩) hS.2.2 dX11_stands_27
  · refine lv_iload_n hx hb dX11_stands_4 rfl (lv_at hl 1 rfl) ?_
    refine lv_bipush (v := 8) hx hb dX11_stands_5 (by decide) ?_
    refine lv_icmp_lt (tgt := 14) hx hb dX11_stands_7 (by decide) (fun c2 => ?_) (fun c2 => ?_)
    · refine lv_aload_n hx hb dX11_stands_14 rfl (lv_at hl 0 rfl) ?_
      refine va_get (D := (dC, dI)) (ci := 11) (v := .ref ha) (C := RX11) (T := TX11) (N := 7) hx hb hts in_X11 hown hK hP 0 rfl rfl 3 (by decide) (hts _ wd_481) (fun _ h9 => h9) rfl dX11_stands_15 ?_
      refine va_get (D := (dC, dI)) (ci := 1) (v := .ref ln) (C := RX1) (T := TX1) (N := 15) hx hb hts in_X1 hown hK hP 1 rfl rfl 9 (by decide) (hts _ wd_255) (fun _ h9 => h9) rfl dX11_stands_18 ?_
      refine lv_iload_n hx hb dX11_stands_21 rfl (lv_at hl 1 rfl) ?_
      rcases px_8 (px_inc (N := 8) rfl c1 c2) with rfl | rfl | rfl | rfl | rfl | rfl | rfl | rfl
      · refine va_aldq hx hb hK hP 2 0 rfl rfl (px_in 0 8 (by decide +kernel)) dX11_stands_22 ?_
        refine W.eq (g2 := F0 m 23 ls [.ref l0]) rfl ?_
        refine lv_iload_n hx hb dX11_stands_23 rfl (lv_at hl 2 rfl) ?_
        have hPc := hP.sub (ws' := [(l0, .inr (2, [.null, .null]))]) [3] rfl
        have hDc := hD.sub (ws' := [(l0, .inr (2, [.null, .null]))]) [3] (by decide) rfl
        have hKc := hK.sub (tys' := []) [] rfl
        have hFc := va_free (wc := [(l0, .inr (2, [.null, .null]))]) hD hS hA [3] rfl
        refine va_calli (va_runV (As := [.int j]) (rest := []) ⟨hx, hb, hml, hown, hts⟩ (ct_X2_taskAt l dC dI l0 j s.heap.size) (cwV 1 hts (gd_V wd_1268 wd_1269 wd_1270 wd_10 wd_1271) rfl rfl rfl (by decide +kernel) ⟨Nat.le_of_ble_eq_true rfl, Nat.le_of_ble_eq_true rfl⟩) ⟨fun a U g mk q => by obtain ⟨q0, q1, qP, qK, qD⟩ := q; exact ⟨q0, q1, qP, va_K.moved (u := U) (U := U.calling g mk a) (Vm.Alike.refl U.vm) qK, qD⟩, va_recv hKc hPc (ci := 2) (q0 := 0) rfl rfl, fun U hU hW => ⟨rfl, by rw [hU], by rw [hU]; exact hPc, va_K.moved hW.alike hKc, hDc.weaken (fun _ _ _ _ => trivial)⟩⟩ rfl rfl hl.1 rfl (lv_room (Nat.le_of_ble_eq_true rfl)) dX11_stands_24 ⟨Nat.le_of_ble_eq_true rfl, Nat.le_of_ble_eq_true rfl⟩) hS (fun q _ h => hFc q h) hFc (fun r3 u t H1 locs ht hvm hw hB hz1 hk1 hS => ?_)
        obtain ⟨hP1, hK1, hD1⟩ := hB
        rw [ht] at hP1
        have hK1 := va_K.moved hvm.symm hK1
        obtain ⟨hP, hD⟩ := va_join (wr := [(h0, .inr (11, [.ref tk, .ref pa, .ref ta, .ref ha, .ref ru, .ref to, .ref sp])), (ha, .inr (1, [pv, .ref xt, .int 0, .int 0, .ref xr, .int 0, .int 0, .ref le, .ref lc, .ref ln, .ref al, .ref lo, .ref xg, .int 0, .null])), (ln, .inl (kln, 8, .inr (.inr (.inr (.inr (fun i => [l0, l1, l2, l3, l4, l5, l6, l7][i]?)))))), (l1, .inr (2, [.null, .null])), (l2, .inr (2, [.null, .null])), (l3, .inr (2, [.null, .null])), (l4, .inr (2, [.null, .null])), (l5, .inr (2, [.null, .null])), (l6, .inr (2, [.null, .null])), (l7, .inr (2, [.null, .null]))]) (w1 := []) hP hD [3] [0, 1, 2, 4, 5, 6, 7, 8, 9, 10] rfl rfl (by decide) (by decide) hk1 hFc hP1 hD1
        have hK := (hK.sub (tys' := [(kln, .object RX2)]) [0] rfl).app (hK1.sub (tys' := []) [] rfl)
        generalize H1 = H at hP hS ⊢
        have hP : va_P (dC, dI) vwCl [(h0, .inr (11, [.ref tk, .ref pa, .ref ta, .ref ha, .ref ru, .ref to, .ref sp])), (ha, .inr (1, [pv, .ref xt, .int 0, .int 0, .ref xr, .int 0, .int 0, .ref le, .ref lc, .ref ln, .ref al, .ref lo, .ref xg, .int 0, .null])), (ln, .inl (kln, 8, .inr (.inr (.inr (.inr (fun i => [l0, l1, l2, l3, l4, l5, l6, l7][i]?)))))), (l1, .inr (2, [.null, .null])), (l2, .inr (2, [.null, .null])), (l3, .inr (2, [.null, .null])), (l4, .inr (2, [.null, .null])), (l5, .inr (2, [.null, .null])), (l6, .inr (2, [.null, .null])), (l7, .inr (2, [.null, .null]))] H := hP
        have hD : va_D A [(h0, .inr (11, [.ref tk, .ref pa, .ref ta, .ref ha, .ref ru, .ref to, .ref sp])), (ha, .inr (1, [pv, .ref xt, .int 0, .int 0, .ref xr, .int 0, .int 0, .ref le, .ref lc, .ref ln, .ref al, .ref lo, .ref xg, .int 0, .null])), (ln, .inl (kln, 8, .inr (.inr (.inr (.inr (fun i => [l0, l1, l2, l3, l4, l5, l6, l7][i]?)))))), (l1, .inr (2, [.null, .null])), (l2, .inr (2, [.null, .null])), (l3, .inr (2, [.null, .null])), (l4, .inr (2, [.null, .null])), (l5, .inr (2, [.null, .null])), (l6, .inr (2, [.null, .null])), (l7, .inr (2, [.null, .null]))] := hD
        have hK : va_K (dC, dI) vwCl [(kln, .object RX2)] s := hK
        obtain rfl := hw
        have hP9 := hP.sub (ws' := []) [] rfl
        have hD9 := hD.sub (ws' := []) [] (by decide) rfl
        have hK9 := hK.sub (tys' := []) [] rfl
        refine W.widen (k := 0) (n := 0) (Nat.le_of_ble_eq_true rfl) (Nat.le_of_ble_eq_true rfl) ?_
        exact W.iret (v := -1) hx hb hr (fun t ht hW => ⟨⟨-1, (), rfl, rfl, by rw [ht]; exact hP9, va_K.moved hW.alike hK9, hD9⟩, hS.F ht⟩) hS.2.2 dX11_stands_27
      · refine va_aldq hx hb hK hP 2 0 rfl rfl (px_in 1 8 (by decide +kernel)) dX11_stands_22 ?_
        refine W.eq (g2 := F0 m 23 ls [.ref l1]) rfl ?_
        refine lv_iload_n hx hb dX11_stands_23 rfl (lv_at hl 2 rfl) ?_
        have hPc := hP.sub (ws' := [(l1, .inr (2, [.null, .null]))]) [4] rfl
        have hDc := hD.sub (ws' := [(l1, .inr (2, [.null, .null]))]) [4] (by decide) rfl
        have hKc := hK.sub (tys' := []) [] rfl
        have hFc := va_free (wc := [(l1, .inr (2, [.null, .null]))]) hD hS hA [4] rfl
        refine va_calli (va_runV (As := [.int j]) (rest := []) ⟨hx, hb, hml, hown, hts⟩ (ct_X2_taskAt l dC dI l1 j s.heap.size) (cwV 1 hts (gd_V wd_1268 wd_1269 wd_1270 wd_10 wd_1271) rfl rfl rfl (by decide +kernel) ⟨Nat.le_of_ble_eq_true rfl, Nat.le_of_ble_eq_true rfl⟩) ⟨fun a U g mk q => by obtain ⟨q0, q1, qP, qK, qD⟩ := q; exact ⟨q0, q1, qP, va_K.moved (u := U) (U := U.calling g mk a) (Vm.Alike.refl U.vm) qK, qD⟩, va_recv hKc hPc (ci := 2) (q0 := 0) rfl rfl, fun U hU hW => ⟨rfl, by rw [hU], by rw [hU]; exact hPc, va_K.moved hW.alike hKc, hDc.weaken (fun _ _ _ _ => trivial)⟩⟩ rfl rfl hl.1 rfl (lv_room (Nat.le_of_ble_eq_true rfl)) dX11_stands_24 ⟨Nat.le_of_ble_eq_true rfl, Nat.le_of_ble_eq_true rfl⟩) hS (fun q _ h => hFc q h) hFc (fun r4 u t H1 locs ht hvm hw hB hz1 hk1 hS => ?_)
        obtain ⟨hP1, hK1, hD1⟩ := hB
        rw [ht] at hP1
        have hK1 := va_K.moved hvm.symm hK1
        obtain ⟨hP, hD⟩ := va_join (wr := [(h0, .inr (11, [.ref tk, .ref pa, .ref ta, .ref ha, .ref ru, .ref to, .ref sp])), (ha, .inr (1, [pv, .ref xt, .int 0, .int 0, .ref xr, .int 0, .int 0, .ref le, .ref lc, .ref ln, .ref al, .ref lo, .ref xg, .int 0, .null])), (ln, .inl (kln, 8, .inr (.inr (.inr (.inr (fun i => [l0, l1, l2, l3, l4, l5, l6, l7][i]?)))))), (l0, .inr (2, [.null, .null])), (l2, .inr (2, [.null, .null])), (l3, .inr (2, [.null, .null])), (l4, .inr (2, [.null, .null])), (l5, .inr (2, [.null, .null])), (l6, .inr (2, [.null, .null])), (l7, .inr (2, [.null, .null]))]) (w1 := []) hP hD [4] [0, 1, 2, 3, 5, 6, 7, 8, 9, 10] rfl rfl (by decide) (by decide) hk1 hFc hP1 hD1
        have hK := (hK.sub (tys' := [(kln, .object RX2)]) [0] rfl).app (hK1.sub (tys' := []) [] rfl)
        generalize H1 = H at hP hS ⊢
        have hP : va_P (dC, dI) vwCl [(h0, .inr (11, [.ref tk, .ref pa, .ref ta, .ref ha, .ref ru, .ref to, .ref sp])), (ha, .inr (1, [pv, .ref xt, .int 0, .int 0, .ref xr, .int 0, .int 0, .ref le, .ref lc, .ref ln, .ref al, .ref lo, .ref xg, .int 0, .null])), (ln, .inl (kln, 8, .inr (.inr (.inr (.inr (fun i => [l0, l1, l2, l3, l4, l5, l6, l7][i]?)))))), (l0, .inr (2, [.null, .null])), (l2, .inr (2, [.null, .null])), (l3, .inr (2, [.null, .null])), (l4, .inr (2, [.null, .null])), (l5, .inr (2, [.null, .null])), (l6, .inr (2, [.null, .null])), (l7, .inr (2, [.null, .null]))] H := hP
        have hD : va_D A [(h0, .inr (11, [.ref tk, .ref pa, .ref ta, .ref ha, .ref ru, .ref to, .ref sp])), (ha, .inr (1, [pv, .ref xt, .int 0, .int 0, .ref xr, .int 0, .int 0, .ref le, .ref lc, .ref ln, .ref al, .ref lo, .ref xg, .int 0, .null])), (ln, .inl (kln, 8, .inr (.inr (.inr (.inr (fun i => [l0, l1, l2, l3, l4, l5, l6, l7][i]?)))))), (l0, .inr (2, [.null, .null])), (l2, .inr (2, [.null, .null])), (l3, .inr (2, [.null, .null])), (l4, .inr (2, [.null, .null])), (l5, .inr (2, [.null, .null])), (l6, .inr (2, [.null, .null])), (l7, .inr (2, [.null, .null]))] := hD
        have hK : va_K (dC, dI) vwCl [(kln, .object RX2)] s := hK
        obtain rfl := hw
        have hP9 := hP.sub (ws' := []) [] rfl
        have hD9 := hD.sub (ws' := []) [] (by decide) rfl
        have hK9 := hK.sub (tys' := []) [] rfl
        refine W.widen (k := 0) (n := 0) (Nat.le_of_ble_eq_true rfl) (Nat.le_of_ble_eq_true rfl) ?_
        exact W.iret (v := -1) hx hb hr (fun t ht hW => ⟨⟨-1, (), rfl, rfl, by rw [ht]; exact hP9, va_K.moved hW.alike hK9, hD9⟩, hS.F ht⟩) hS.2.2 dX11_stands_27
      · refine va_aldq hx hb hK hP 2 0 rfl rfl (px_in 2 8 (by decide +kernel)) dX11_stands_22 ?_
        refine W.eq (g2 := F0 m 23 ls [.ref l2]) rfl ?_
        refine lv_iload_n hx hb dX11_stands_23 rfl (lv_at hl 2 rfl) ?_
        have hPc := hP.sub (ws' := [(l2, .inr (2, [.null, .null]))]) [5] rfl
        have hDc := hD.sub (ws' := [(l2, .inr (2, [.null, .null]))]) [5] (by decide) rfl
        have hKc := hK.sub (tys' := []) [] rfl
        have hFc := va_free (wc := [(l2, .inr (2, [.null, .null]))]) hD hS hA [5] rfl
        refine va_calli (va_runV (As := [.int j]) (rest := []) ⟨hx, hb, hml, hown, hts⟩ (ct_X2_taskAt l dC dI l2 j s.heap.size) (cwV 1 hts (gd_V wd_1268 wd_1269 wd_1270 wd_10 wd_1271) rfl rfl rfl (by decide +kernel) ⟨Nat.le_of_ble_eq_true rfl, Nat.le_of_ble_eq_true rfl⟩) ⟨fun a U g mk q => by obtain ⟨q0, q1, qP, qK, qD⟩ := q; exact ⟨q0, q1, qP, va_K.moved (u := U) (U := U.calling g mk a) (Vm.Alike.refl U.vm) qK, qD⟩, va_recv hKc hPc (ci := 2) (q0 := 0) rfl rfl, fun U hU hW => ⟨rfl, by rw [hU], by rw [hU]; exact hPc, va_K.moved hW.alike hKc, hDc.weaken (fun _ _ _ _ => trivial)⟩⟩ rfl rfl hl.1 rfl (lv_room (Nat.le_of_ble_eq_true rfl)) dX11_stands_24 ⟨Nat.le_of_ble_eq_true rfl, Nat.le_of_ble_eq_true rfl⟩) hS (fun q _ h => hFc q h) hFc (fun r5 u t H1 locs ht hvm hw hB hz1 hk1 hS => ?_)
        obtain ⟨hP1, hK1, hD1⟩ := hB
        rw [ht] at hP1
        have hK1 := va_K.moved hvm.symm hK1
        obtain ⟨hP, hD⟩ := va_join (wr := [(h0, .inr (11, [.ref tk, .ref pa, .ref ta, .ref ha, .ref ru, .ref to, .ref sp])), (ha, .inr (1, [pv, .ref xt, .int 0, .int 0, .ref xr, .int 0, .int 0, .ref le, .ref lc, .ref ln, .ref al, .ref lo, .ref xg, .int 0, .null])), (ln, .inl (kln, 8, .inr (.inr (.inr (.inr (fun i => [l0, l1, l2, l3, l4, l5, l6, l7][i]?)))))), (l0, .inr (2, [.null, .null])), (l1, .inr (2, [.null, .null])), (l3, .inr (2, [.null, .null])), (l4, .inr (2, [.null, .null])), (l5, .inr (2, [.null, .null])), (l6, .inr (2, [.null, .null])), (l7, .inr (2, [.null, .null]))]) (w1 := []) hP hD [5] [0, 1, 2, 3, 4, 6, 7, 8, 9, 10] rfl rfl (by decide) (by decide) hk1 hFc hP1 hD1
        have hK := (hK.sub (tys' := [(kln, .object RX2)]) [0] rfl).app (hK1.sub (tys' := []) [] rfl)
        generalize H1 = H at hP hS ⊢
        have hP : va_P (dC, dI) vwCl [(h0, .inr (11, [.ref tk, .ref pa, .ref ta, .ref ha, .ref ru, .ref to, .ref sp])), (ha, .inr (1, [pv, .ref xt, .int 0, .int 0, .ref xr, .int 0, .int 0, .ref le, .ref lc, .ref ln, .ref al, .ref lo, .ref xg, .int 0, .null])), (ln, .inl (kln, 8, .inr (.inr (.inr (.inr (fun i => [l0, l1, l2, l3, l4, l5, l6, l7][i]?)))))), (l0, .inr (2, [.null, .null])), (l1, .inr (2, [.null, .null])), (l3, .inr (2, [.null, .null])), (l4, .inr (2, [.null, .null])), (l5, .inr (2, [.null, .null])), (l6, .inr (2, [.null, .null])), (l7, .inr (2, [.null, .null]))] H := hP
        have hD : va_D A [(h0, .inr (11, [.ref tk, .ref pa, .ref ta, .ref ha, .ref ru, .ref to, .ref sp])), (ha, .inr (1, [pv, .ref xt, .int 0, .int 0, .ref xr, .int 0, .int 0, .ref le, .ref lc, .ref ln, .ref al, .ref lo, .ref xg, .int 0, .null])), (ln, .inl (kln, 8, .inr (.inr (.inr (.inr (fun i => [l0, l1, l2, l3, l4, l5, l6, l7][i]?)))))), (l0, .inr (2, [.null, .null])), (l1, .inr (2, [.null, .null])), (l3, .inr (2, [.null, .null])), (l4, .inr (2, [.null, .null])), (l5, .inr (2, [.null, .null])), (l6, .inr (2, [.null, .null])), (l7, .inr (2, [.null, .null]))] := hD
        have hK : va_K (dC, dI) vwCl [(kln, .object RX2)] s := hK
        obtain rfl := hw
        have hP9 := hP.sub (ws' := []) [] rfl
        have hD9 := hD.sub (ws' := []) [] (by decide) rfl
        have hK9 := hK.sub (tys' := []) [] rfl
        refine W.widen (k := 0) (n := 0) (Nat.le_of_ble_eq_true rfl) (Nat.le_of_ble_eq_true rfl) ?_
        exact W.iret (v := -1) hx hb hr (fun t ht hW => ⟨⟨-1, (), rfl, rfl, by rw [ht]; exact hP9, va_K.moved hW.alike hK9, hD9⟩, hS.F ht⟩) hS.2.2 dX11_stands_27
      · refine va_aldq hx hb hK hP 2 0 rfl rfl (px_in 3 8 (by decide +kernel)) dX11_stands_22 ?_
        refine W.eq (g2 := F0 m 23 ls [.ref l3]) rfl ?_
        refine lv_iload_n hx hb dX11_stands_23 rfl (lv_at hl 2 rfl) ?_
        have hPc := hP.sub (ws' := [(l3, .inr (2, [.null, .null]))]) [6] rfl
        have hDc := hD.sub (ws' := [(l3, .inr (2, [.null, .null]))]) [6] (by decide) rfl
        have hKc := hK.sub (tys' := []) [] rfl
        have hFc := va_free (wc := [(l3, .inr (2, [.null, .null]))]) hD hS hA [6] rfl
        refine va_calli (va_runV (As := [.int j]) (rest := []) ⟨hx, hb, hml, hown, hts⟩ (ct_X2_taskAt l dC dI l3 j s.heap.size) (cwV 1 hts (gd_V wd_1268 wd_1269 wd_1270 wd_10 wd_1271) rfl rfl rfl (by decide +kernel) ⟨Nat.le_of_ble_eq_true rfl, Nat.le_of_ble_eq_true rfl⟩) ⟨fun a U g mk q => by obtain ⟨q0, q1, qP, qK, qD⟩ := q; exact ⟨q0, q1, qP, va_K.moved (u := U) (U := U.calling g mk a) (Vm.Alike.refl U.vm) qK, qD⟩, va_recv hKc hPc (ci := 2) (q0 := 0) rfl rfl, fun U hU hW => ⟨rfl, by rw [hU], by rw [hU]; exact hPc, va_K.moved hW.alike hKc, hDc.weaken (fun _ _ _ _ => trivial)⟩⟩ rfl rfl hl.1 rfl (lv_room (Nat.le_of_ble_eq_true rfl)) dX11_stands_24 ⟨Nat.le_of_ble_eq_true rfl, Nat.le_of_ble_eq_true rfl⟩) hS (fun q _ h => hFc q h) hFc (fun r6 u t H1 locs ht hvm hw hB hz1 hk1 hS => ?_)
        obtain ⟨hP1, hK1, hD1⟩ := hB
        rw [ht] at hP1
        have hK1 := va_K.moved hvm.symm hK1
        obtain ⟨hP, hD⟩ := va_join (wr := [(h0, .inr (11, [.ref tk, .ref pa, .ref ta, .ref ha, .ref ru, .ref to, .ref sp])), (ha, .inr (1, [pv, .ref xt, .int 0, .int 0, .ref xr, .int 0, .int 0, .ref le, .ref lc, .ref ln, .ref al, .ref lo, .ref xg, .int 0, .null])), (ln, .inl (kln, 8, .inr (.inr (.inr (.inr (fun i => [l0, l1, l2, l3, l4, l5, l6, l7][i]?)))))), (l0, .inr (2, [.null, .null])), (l1, .inr (2, [.null, .null])), (l2, .inr (2, [.null, .null])), (l4, .inr (2, [.null, .null])), (l5, .inr (2, [.null, .null])), (l6, .inr (2, [.null, .null])), (l7, .inr (2, [.null, .null]))]) (w1 := []) hP hD [6] [0, 1, 2, 3, 4, 5, 7, 8, 9, 10] rfl rfl (by decide) (by decide) hk1 hFc hP1 hD1
        have hK := (hK.sub (tys' := [(kln, .object RX2)]) [0] rfl).app (hK1.sub (tys' := []) [] rfl)
        generalize H1 = H at hP hS ⊢
        have hP : va_P (dC, dI) vwCl [(h0, .inr (11, [.ref tk, .ref pa, .ref ta, .ref ha, .ref ru, .ref to, .ref sp])), (ha, .inr (1, [pv, .ref xt, .int 0, .int 0, .ref xr, .int 0, .int 0, .ref le, .ref lc, .ref ln, .ref al, .ref lo, .ref xg, .int 0, .null])), (ln, .inl (kln, 8, .inr (.inr (.inr (.inr (fun i => [l0, l1, l2, l3, l4, l5, l6, l7][i]?)))))), (l0, .inr (2, [.null, .null])), (l1, .inr (2, [.null, .null])), (l2, .inr (2, [.null, .null])), (l4, .inr (2, [.null, .null])), (l5, .inr (2, [.null, .null])), (l6, .inr (2, [.null, .null])), (l7, .inr (2, [.null, .null]))] H := hP
        have hD : va_D A [(h0, .inr (11, [.ref tk, .ref pa, .ref ta, .ref ha, .ref ru, .ref to, .ref sp])), (ha, .inr (1, [pv, .ref xt, .int 0, .int 0, .ref xr, .int 0, .int 0, .ref le, .ref lc, .ref ln, .ref al, .ref lo, .ref xg, .int 0, .null])), (ln, .inl (kln, 8, .inr (.inr (.inr (.inr (fun i => [l0, l1, l2, l3, l4, l5, l6, l7][i]?)))))), (l0, .inr (2, [.null, .null])), (l1, .inr (2, [.null, .null])), (l2, .inr (2, [.null, .null])), (l4, .inr (2, [.null, .null])), (l5, .inr (2, [.null, .null])), (l6, .inr (2, [.null, .null])), (l7, .inr (2, [.null, .null]))] := hD
        have hK : va_K (dC, dI) vwCl [(kln, .object RX2)] s := hK
        obtain rfl := hw
        have hP9 := hP.sub (ws' := []) [] rfl
        have hD9 := hD.sub (ws' := []) [] (by decide) rfl
        have hK9 := hK.sub (tys' := []) [] rfl
        refine W.widen (k := 0) (n := 0) (Nat.le_of_ble_eq_true rfl) (Nat.le_of_ble_eq_true rfl) ?_
        exact W.iret (v := -1) hx hb hr (fun t ht hW => ⟨⟨-1, (), rfl, rfl, by rw [ht]; exact hP9, va_K.moved hW.alike hK9, hD9⟩, hS.F ht⟩) hS.2.2 dX11_stands_27
      · refine va_aldq hx hb hK hP 2 0 rfl rfl (px_in 4 8 (by decide +kernel)) dX11_stands_22 ?_
        refine W.eq (g2 := F0 m 23 ls [.ref l4]) rfl ?_
        refine lv_iload_n hx hb dX11_stands_23 rfl (lv_at hl 2 rfl) ?_
        have hPc := hP.sub (ws' := [(l4, .inr (2, [.null, .null]))]) [7] rfl
        have hDc := hD.sub (ws' := [(l4, .inr (2, [.null, .null]))]) [7] (by decide) rfl
        have hKc := hK.sub (tys' := []) [] rfl
        have hFc := va_free (wc := [(l4, .inr (2, [.null, .null]))]) hD hS hA [7] rfl
        refine va_calli (va_runV (As := [.int j]) (rest := []) ⟨hx, hb, hml, hown, hts⟩ (ct_X2_taskAt l dC dI l4 j s.heap.size) (cwV 1 hts (gd_V wd_1268 wd_1269 wd_1270 wd_10 wd_1271) rfl rfl rfl (by decide +kernel) ⟨Nat.le_of_ble_eq_true rfl, Nat.le_of_ble_eq_true rfl⟩) ⟨fun a U g mk q => by obtain ⟨q0, q1, qP, qK, qD⟩ := q; exact ⟨q0, q1, qP, va_K.moved (u := U) (U := U.calling g mk a) (Vm.Alike.refl U.vm) qK, qD⟩, va_recv hKc hPc (ci := 2) (q0 := 0) rfl rfl, fun U hU hW => ⟨rfl, by rw [hU], by rw [hU]; exact hPc, va_K.moved hW.alike hKc, hDc.weaken (fun _ _ _ _ => trivial)⟩⟩ rfl rfl hl.1 rfl (lv_room (Nat.le_of_ble_eq_true rfl)) dX11_stands_24 ⟨Nat.le_of_ble_eq_true rfl, Nat.le_of_ble_eq_true rfl⟩) hS (fun q _ h => hFc q h) hFc (fun r7 u t H1 locs ht hvm hw hB hz1 hk1 hS => ?_)
        obtain ⟨hP1, hK1, hD1⟩ := hB
        rw [ht] at hP1
        have hK1 := va_K.moved hvm.symm hK1
        obtain ⟨hP, hD⟩ := va_join (wr := [(h0, .inr (11, [.ref tk, .ref pa, .ref ta, .ref ha, .ref ru, .ref to, .ref sp])), (ha, .inr (1, [pv, .ref xt, .int 0, .int 0, .ref xr, .int 0, .int 0, .ref le, .ref lc, .ref ln, .ref al, .ref lo, .ref xg, .int 0, .null])), (ln, .inl (kln, 8, .inr (.inr (.inr (.inr (fun i => [l0, l1, l2, l3, l4, l5, l6, l7][i]?)))))), (l0, .inr (2, [.null, .null])), (l1, .inr (2, [.null, .null])), (l2, .inr (2, [.null, .null])), (l3, .inr (2, [.null, .null])), (l5, .inr (2, [.null, .null])), (l6, .inr (2, [.null, .null])), (l7, .inr (2, [.null, .null]))]) (w1 := []) hP hD [7] [0, 1, 2, 3, 4, 5, 6, 8, 9, 10] rfl rfl (by decide) (by decide) hk1 hFc hP1 hD1
        have hK := (hK.sub (tys' := [(kln, .object RX2)]) [0] rfl).app (hK1.sub (tys' := []) [] rfl)
        generalize H1 = H at hP hS ⊢
        have hP : va_P (dC, dI) vwCl [(h0, .inr (11, [.ref tk, .ref pa, .ref ta, .ref ha, .ref ru, .ref to, .ref sp])), (ha, .inr (1, [pv, .ref xt, .int 0, .int 0, .ref xr, .int 0, .int 0, .ref le, .ref lc, .ref ln, .ref al, .ref lo, .ref xg, .int 0, .null])), (ln, .inl (kln, 8, .inr (.inr (.inr (.inr (fun i => [l0, l1, l2, l3, l4, l5, l6, l7][i]?)))))), (l0, .inr (2, [.null, .null])), (l1, .inr (2, [.null, .null])), (l2, .inr (2, [.null, .null])), (l3, .inr (2, [.null, .null])), (l5, .inr (2, [.null, .null])), (l6, .inr (2, [.null, .null])), (l7, .inr (2, [.null, .null]))] H := hP
        have hD : va_D A [(h0, .inr (11, [.ref tk, .ref pa, .ref ta, .ref ha, .ref ru, .ref to, .ref sp])), (ha, .inr (1, [pv, .ref xt, .int 0, .int 0, .ref xr, .int 0, .int 0, .ref le, .ref lc, .ref ln, .ref al, .ref lo, .ref xg, .int 0, .null])), (ln, .inl (kln, 8, .inr (.inr (.inr (.inr (fun i => [l0, l1, l2, l3, l4, l5, l6, l7][i]?)))))), (l0, .inr (2, [.null, .null])), (l1, .inr (2, [.null, .null])), (l2, .inr (2, [.null, .null])), (l3, .inr (2, [.null, .null])), (l5, .inr (2, [.null, .null])), (l6, .inr (2, [.null, .null])), (l7, .inr (2, [.null, .null]))] := hD
        have hK : va_K (dC, dI) vwCl [(kln, .object RX2)] s := hK
        obtain rfl := hw
        have hP9 := hP.sub (ws' := []) [] rfl
        have hD9 := hD.sub (ws' := []) [] (by decide) rfl
        have hK9 := hK.sub (tys' := []) [] rfl
        refine W.widen (k := 0) (n := 0) (Nat.le_of_ble_eq_true rfl) (Nat.le_of_ble_eq_true rfl) ?_
        exact W.iret (v := -1) hx hb hr (fun t ht hW => ⟨⟨-1, (), rfl, rfl, by rw [ht]; exact hP9, va_K.moved hW.alike hK9, hD9⟩, hS.F ht⟩) hS.2.2 dX11_stands_27
      · refine va_aldq hx hb hK hP 2 0 rfl rfl (px_in 5 8 (by decide +kernel)) dX11_stands_22 ?_
        refine W.eq (g2 := F0 m 23 ls [.ref l5]) rfl ?_
        refine lv_iload_n hx hb dX11_stands_23 rfl (lv_at hl 2 rfl) ?_
        have hPc := hP.sub (ws' := [(l5, .inr (2, [.null, .null]))]) [8] rfl
        have hDc := hD.sub (ws' := [(l5, .inr (2, [.null, .null]))]) [8] (by decide) rfl
        have hKc := hK.sub (tys' := []) [] rfl
        have hFc := va_free (wc := [(l5, .inr (2, [.null, .null]))]) hD hS hA [8] rfl
        refine va_calli (va_runV (As := [.int j]) (rest := []) ⟨hx, hb, hml, hown, hts⟩ (ct_X2_taskAt l dC dI l5 j s.heap.size) (cwV 1 hts (gd_V wd_1268 wd_1269 wd_1270 wd_10 wd_1271) rfl rfl rfl (by decide +kernel) ⟨Nat.le_of_ble_eq_true rfl, Nat.le_of_ble_eq_true rfl⟩) ⟨fun a U g mk q => by obtain ⟨q0, q1, qP, qK, qD⟩ := q; exact ⟨q0, q1, qP, va_K.moved (u := U) (U := U.calling g mk a) (Vm.Alike.refl U.vm) qK, qD⟩, va_recv hKc hPc (ci := 2) (q0 := 0) rfl rfl, fun U hU hW => ⟨rfl, by rw [hU], by rw [hU]; exact hPc, va_K.moved hW.alike hKc, hDc.weaken (fun _ _ _ _ => trivial)⟩⟩ rfl rfl hl.1 rfl (lv_room (Nat.le_of_ble_eq_true rfl)) dX11_stands_24 ⟨Nat.le_of_ble_eq_true rfl, Nat.le_of_ble_eq_true rfl⟩) hS (fun q _ h => hFc q h) hFc (fun r8 u t H1 locs ht hvm hw hB hz1 hk1 hS => ?_)
        obtain ⟨hP1, hK1, hD1⟩ := hB
        rw [ht] at hP1
        have hK1 := va_K.moved hvm.symm hK1
        obtain ⟨hP, hD⟩ := va_join (wr := [(h0, .inr (11, [.ref tk, .ref pa, .ref ta, .ref ha, .ref ru, .ref to, .ref sp])), (ha, .inr (1, [pv, .ref xt, .int 0, .int 0, .ref xr, .int 0, .int 0, .ref le, .ref lc, .ref ln, .ref al, .ref lo, .ref xg, .int 0, .null])), (ln, .inl (kln, 8, .inr (.inr (.inr (.inr (fun i => [l0, l1, l2, l3, l4, l5, l6, l7][i]?)))))), (l0, .inr (2, [.null, .null])), (l1, .inr (2, [.null, .null])), (l2, .inr (2, [.null, .null])), (l3, .inr (2, [.null, .null])), (l4, .inr (2, [.null, .null])), (l6, .inr (2, [.null, .null])), (l7, .inr (2, [.null, .null]))]) (w1 := []) hP hD [8] [0, 1, 2, 3, 4, 5, 6, 7, 9, 10] rfl rfl (by decide) (by decide) hk1 hFc hP1 hD1
        have hK := (hK.sub (tys' := [(kln, .object RX2)]) [0] rfl).app (hK1.sub (tys' := []) [] rfl)
        generalize H1 = H at hP hS ⊢
        have hP : va_P (dC, dI) vwCl [(h0, .inr (11, [.ref tk, .ref pa, .ref ta, .ref ha, .ref ru, .ref to, .ref sp])), (ha, .inr (1, [pv, .ref xt, .int 0, .int 0, .ref xr, .int 0, .int 0, .ref le, .ref lc, .ref ln, .ref al, .ref lo, .ref xg, .int 0, .null])), (ln, .inl (kln, 8, .inr (.inr (.inr (.inr (fun i => [l0, l1, l2, l3, l4, l5, l6, l7][i]?)))))), (l0, .inr (2, [.null, .null])), (l1, .inr (2, [.null, .null])), (l2, .inr (2, [.null, .null])), (l3, .inr (2, [.null, .null])), (l4, .inr (2, [.null, .null])), (l6, .inr (2, [.null, .null])), (l7, .inr (2, [.null, .null]))] H := hP
        have hD : va_D A [(h0, .inr (11, [.ref tk, .ref pa, .ref ta, .ref ha, .ref ru, .ref to, .ref sp])), (ha, .inr (1, [pv, .ref xt, .int 0, .int 0, .ref xr, .int 0, .int 0, .ref le, .ref lc, .ref ln, .ref al, .ref lo, .ref xg, .int 0, .null])), (ln, .inl (kln, 8, .inr (.inr (.inr (.inr (fun i => [l0, l1, l2, l3, l4, l5, l6, l7][i]?)))))), (l0, .inr (2, [.null, .null])), (l1, .inr (2, [.null, .null])), (l2, .inr (2, [.null, .null])), (l3, .inr (2, [.null, .null])), (l4, .inr (2, [.null, .null])), (l6, .inr (2, [.null, .null])), (l7, .inr (2, [.null, .null]))] := hD
        have hK : va_K (dC, dI) vwCl [(kln, .object RX2)] s := hK
        obtain rfl := hw
        have hP9 := hP.sub (ws' := []) [] rfl
        have hD9 := hD.sub (ws' := []) [] (by decide) rfl
        have hK9 := hK.sub (tys' := []) [] rfl
        refine W.widen (k := 0) (n := 0) (Nat.le_of_ble_eq_true rfl) (Nat.le_of_ble_eq_true rfl) ?_
        exact W.iret (v := -1) hx hb hr (fun t ht hW => ⟨⟨-1, (), rfl, rfl, by rw [ht]; exact hP9, va_K.moved hW.alike hK9, hD9⟩, hS.F ht⟩) hS.2.2 dX11_stands_27
      · refine va_aldq hx hb hK hP 2 0 rfl rfl (px_in 6 8 (by decide +kernel)) dX11_stands_22 ?_
        refine W.eq (g2 := F0 m 23 ls [.ref l6]) rfl ?_
        refine lv_iload_n hx hb dX11_stands_23 rfl (lv_at hl 2 rfl) ?_
        have hPc := hP.sub (ws' := [(l6, .inr (2, [.null, .null]))]) [9] rfl
        have hDc := hD.sub (ws' := [(l6, .inr (2, [.null, .null]))]) [9] (by decide) rfl
        have hKc := hK.sub (tys' := []) [] rfl
        have hFc := va_free (wc := [(l6, .inr (2, [.null, .null]))]) hD hS hA [9] rfl
        refine va_calli (va_runV (As := [.int j]) (rest := []) ⟨hx, hb, hml, hown, hts⟩ (ct_X2_taskAt l dC dI l6 j s.heap.size) (cwV 1 hts (gd_V wd_1268 wd_1269 wd_1270 wd_10 wd_1271) rfl rfl rfl (by decide +kernel) ⟨Nat.le_of_ble_eq_true rfl, Nat.le_of_ble_eq_true rfl⟩) ⟨fun a U g mk q => by obtain ⟨q0, q1, qP, qK, qD⟩ := q; exact ⟨q0, q1, qP, va_K.moved (u := U) (U := U.calling g mk a) (Vm.Alike.refl U.vm) qK, qD⟩, va_recv hKc hPc (ci := 2) (q0 := 0) rfl rfl, fun U hU hW => ⟨rfl, by rw [hU], by rw [hU]; exact hPc, va_K.moved hW.alike hKc, hDc.weaken (fun _ _ _ _ => trivial)⟩⟩ rfl rfl hl.1 rfl (lv_room (Nat.le_of_ble_eq_true rfl)) dX11_stands_24 ⟨Nat.le_of_ble_eq_true rfl, Nat.le_of_ble_eq_true rfl⟩) hS (fun q _ h => hFc q h) hFc (fun r9 u t H1 locs ht hvm hw hB hz1 hk1 hS => ?_)
        obtain ⟨hP1, hK1, hD1⟩ := hB
        rw [ht] at hP1
        have hK1 := va_K.moved hvm.symm hK1
        obtain ⟨hP, hD⟩ := va_join (wr := [(h0, .inr (11, [.ref tk, .ref pa, .ref ta, .ref ha, .ref ru, .ref to, .ref sp])), (ha, .inr (1, [pv, .ref xt, .int 0, .int 0, .ref xr, .int 0, .int 0, .ref le, .ref lc, .ref ln, .ref al, .ref lo, .ref xg, .int 0, .null])), (ln, .inl (kln, 8, .inr (.inr (.inr (.inr (fun i => [l0, l1, l2, l3, l4, l5, l6, l7][i]?)))))), (l0, .inr (2, [.null, .null])), (l1, .inr (2, [.null, .null])), (l2, .inr (2, [.null, .null])), (l3, .inr (2, [.null, .null])), (l4, .inr (2, [.null, .null])), (l5, .inr (2, [.null, .null])), (l7, .inr (2, [.null, .null]))]) (w1 := []) hP hD [9] [0, 1, 2, 3, 4, 5, 6, 7, 8, 10] rfl rfl (by decide) (by decide) hk1 hFc hP1 hD1
        have hK := (hK.sub (tys' := [(kln, .object RX2)]) [0] rfl).app (hK1.sub (tys' := []) [] rfl)
        generalize H1 = H at hP hS ⊢
        have hP : va_P (dC, dI) vwCl [(h0, .inr (11, [.ref tk, .ref pa, .ref ta, .ref ha, .ref ru, .ref to, .ref sp])), (ha, .inr (1, [pv, .ref xt, .int 0, .int 0, .ref xr, .int 0, .int 0, .ref le, .ref lc, .ref ln, .ref al, .ref lo, .ref xg, .int 0, .null])), (ln, .inl (kln, 8, .inr (.inr (.inr (.inr (fun i => [l0, l1, l2, l3, l4, l5, l6, l7][i]?)))))), (l0, .inr (2, [.null, .null])), (l1, .inr (2, [.null, .null])), (l2, .inr (2, [.null, .null])), (l3, .inr (2, [.null, .null])), (l4, .inr (2, [.null, .null])), (l5, .inr (2, [.null, .null])), (l7, .inr (2, [.null, .null]))] H := hP
        have hD : va_D A [(h0, .inr (11, [.ref tk, .ref pa, .ref ta, .ref ha, .ref ru, .ref to, .ref sp])), (ha, .inr (1, [pv, .ref xt, .int 0, .int 0, .ref xr, .int 0, .int 0, .ref le, .ref lc, .ref ln, .ref al, .ref lo, .ref xg, .int 0, .null])), (ln, .inl (kln, 8, .inr (.inr (.inr (.inr (fun i => [l0, l1, l2, l3, l4, l5, l6, l7][i]?)))))), (l0, .inr (2, [.null, .null])), (l1, .inr (2, [.null, .null])), (l2, .inr (2, [.null, .null])), (l3, .inr (2, [.null, .null])), (l4, .inr (2, [.null, .null])), (l5, .inr (2, [.null, .null])), (l7, .inr (2, [.null, .null]))] := hD
        have hK : va_K (dC, dI) vwCl [(kln, .object RX2)] s := hK
        obtain rfl := hw
        have hP9 := hP.sub (ws' := []) [] rfl
        have hD9 := hD.sub (ws' := []) [] (by decide) rfl
        have hK9 := hK.sub (tys' := []) [] rfl
        refine W.widen (k := 0) (n := 0) (Nat.le_of_ble_eq_true rfl) (Nat.le_of_ble_eq_true rfl) ?_
        exact W.iret (v := -1) hx hb hr (fun t ht hW => ⟨⟨-1, (), rfl, rfl, by rw [ht]; exact hP9, va_K.moved hW.alike hK9, hD9⟩, hS.F ht⟩) hS.2.2 dX11_stands_27
      · refine va_aldq hx hb hK hP 2 0 rfl rfl (px_in 7 8 (by decide +kernel)) dX11_stands_22 ?_
        refine W.eq (g2 := F0 m 23 ls [.ref l7]) rfl ?_
        refine lv_iload_n hx hb dX11_stands_23 rfl (lv_at hl 2 rfl) ?_
        have hPc := hP.sub (ws' := [(l7, .inr (2, [.null, .null]))]) [10] rfl
        have hDc := hD.sub (ws' := [(l7, .inr (2, [.null, .null]))]) [10] (by decide) rfl
        have hKc := hK.sub (tys' := []) [] rfl
        have hFc := va_free (wc := [(l7, .inr (2, [.null, .null]))]) hD hS hA [10] rfl
        refine va_calli (va_runV (As := [.int j]) (rest := []) ⟨hx, hb, hml, hown, hts⟩ (ct_X2_taskAt l dC dI l7 j s.heap.size) (cwV 1 hts (gd_V wd_1268 wd_1269 wd_1270 wd_10 wd_1271) rfl rfl rfl (by decide +kernel) ⟨Nat.le_of_ble_eq_true rfl, Nat.le_of_ble_eq_true rfl⟩) ⟨fun a U g mk q => by obtain ⟨q0, q1, qP, qK, qD⟩ := q; exact ⟨q0, q1, qP, va_K.moved (u := U) (U := U.calling g mk a) (Vm.Alike.refl U.vm) qK, qD⟩, va_recv hKc hPc (ci := 2) (q0 := 0) rfl rfl, fun U hU hW => ⟨rfl, by rw [hU], by rw [hU]; exact hPc, va_K.moved hW.alike hKc, hDc.weaken (fun _ _ _ _ => trivial)⟩⟩ rfl rfl hl.1 rfl (lv_room (Nat.le_of_ble_eq_true rfl)) dX11_stands_24 ⟨Nat.le_of_ble_eq_true rfl, Nat.le_of_ble_eq_true rfl⟩) hS (fun q _ h => hFc q h) hFc (fun r10 u t H1 locs ht hvm hw hB hz1 hk1 hS => ?_)
        obtain ⟨hP1, hK1, hD1⟩ := hB
        rw [ht] at hP1
        have hK1 := va_K.moved hvm.symm hK1
        obtain ⟨hP, hD⟩ := va_join (wr := [(h0, .inr (11, [.ref tk, .ref pa, .ref ta, .ref ha, .ref ru, .ref to, .ref sp])), (ha, .inr (1, [pv, .ref xt, .int 0, .int 0, .ref xr, .int 0, .int 0, .ref le, .ref lc, .ref ln, .ref al, .ref lo, .ref xg, .int 0, .null])), (ln, .inl (kln, 8, .inr (.inr (.inr (.inr (fun i => [l0, l1, l2, l3, l4, l5, l6, l7][i]?)))))), (l0, .inr (2, [.null, .null])), (l1, .inr (2, [.null, .null])), (l2, .inr (2, [.null, .null])), (l3, .inr (2, [.null, .null])), (l4, .inr (2, [.null, .null])), (l5, .inr (2, [.null, .null])), (l6, .inr (2, [.null, .null]))]) (w1 := []) hP hD [10] [0, 1, 2, 3, 4, 5, 6, 7, 8, 9] rfl rfl (by decide) (by decide) hk1 hFc hP1 hD1
        have hK := (hK.sub (tys' := [(kln, .object RX2)]) [0] rfl).app (hK1.sub (tys' := []) [] rfl)
        generalize H1 = H at hP hS ⊢
        have hP : va_P (dC, dI) vwCl [(h0, .inr (11, [.ref tk, .ref pa, .ref ta, .ref ha, .ref ru, .ref to, .ref sp])), (ha, .inr (1, [pv, .ref xt, .int 0, .int 0, .ref xr, .int 0, .int 0, .ref le, .ref lc, .ref ln, .ref al, .ref lo, .ref xg, .int 0, .null])), (ln, .inl (kln, 8, .inr (.inr (.inr (.inr (fun i => [l0, l1, l2, l3, l4, l5, l6, l7][i]?)))))), (l0, .inr (2, [.null, .null])), (l1, .inr (2, [.null, .null])), (l2, .inr (2, [.null, .null])), (l3, .inr (2, [.null, .null])), (l4, .inr (2, [.null, .null])), (l5, .inr (2, [.null, .null])), (l6, .inr (2, [.null, .null]))] H := hP
        have hD : va_D A [(h0, .inr (11, [.ref tk, .ref pa, .ref ta, .ref ha, .ref ru, .ref to, .ref sp])), (ha, .inr (1, [pv, .ref xt, .int 0, .int 0, .ref xr, .int 0, .int 0, .ref le, .ref lc, .ref ln, .ref al, .ref lo, .ref xg, .int 0, .null])), (ln, .inl (kln, 8, .inr (.inr (.inr (.inr (fun i => [l0, l1, l2, l3, l4, l5, l6, l7][i]?)))))), (l0, .inr (2, [.null, .null])), (l1, .inr (2, [.null, .null])), (l2, .inr (2, [.null, .null])), (l3, .inr (2, [.null, .null])), (l4, .inr (2, [.null, .null])), (l5, .inr (2, [.null, .null])), (l6, .inr (2, [.null, .null]))] := hD
        have hK : va_K (dC, dI) vwCl [(kln, .object RX2)] s := hK
        obtain rfl := hw
        have hP9 := hP.sub (ws' := []) [] rfl
        have hD9 := hD.sub (ws' := []) [] (by decide) rfl
        have hK9 := hK.sub (tys' := []) [] rfl
        refine W.widen (k := 0) (n := 0) (Nat.le_of_ble_eq_true rfl) (Nat.le_of_ble_eq_true rfl) ?_
        exact W.iret (v := -1) hx hb hr (fun t ht hW => ⟨⟨-1, (), rfl, rfl, by rw [ht]; exact hP9, va_K.moved hW.alike hK9, hD9⟩, hS.F ht⟩) hS.2.2 dX11_stands_27
    · refine lv_iconst (v := -1) hx hb dX11_stands_10 (by decide) ?_
      refine lv_goto (tgt := 27) hx hb dX11_stands_11 (by decide) ?_
      have hP9 := hP.sub (ws' := []) [] rfl
      have hD9 := hD.sub (ws' := []) [] (by decide) rfl
      have hK9 := hK.sub (tys' := []) [] rfl
      refine W.widen (k := 0) (n := 0) (Nat.le_of_ble_eq_true rfl) (Nat.le_of_ble_eq_true rfl) ?_
      exact W.iret (v := -1) hx hb hr (fun t ht hW => ⟨⟨-1, (), rfl, rfl, by rw [ht]; exact hP9, va_K.moved hW.alike hK9, hD9⟩, hS.F ht⟩) hS.2.2 dX11_stands_27
set_option maxHeartbeats 4000000 in
set_option maxRecDepth 100000 in
theorem ct_X11_count (l : Launch) (dC : Nat → ClassId) (dI : Nat → Nat → Nat) (h0 : Nat) (tk : Nat) (pa : Nat) (ta : Nat) (ha : Nat) (ru : Nat) (to : Nat) (sp : Nat) (pu : Nat) (nu : Nat) (pv : Value) (xt : Nat) (xr : Nat) (le : Nat) (lc : Nat) (ln : Nat) (al : Nat) (lo : Nat) (xg : Nat) (qu : Nat → Nat) (ql : Nat → Nat) (klc : ClassId) (qt : Nat → Nat) (ts : Nat) (kd : Nat) (pl : Nat) (va : Nat) (tp : Nat) (rs : Nat) (k : Int32) (sz : Nat) : Met l yX11_count (.code yX11_count cX11_count 2 (some .int) :: tb) ({ frames := 1, cells := 0, slots := 0, locals := 22 }) (va_Pc [.ref h0, .int k] (fun U => U.heap.size = sz ∧ va_P (dC, dI) vwCl [(h0, .inr (11, [.ref tk, .ref pa, .ref ta, .ref ha, .ref ru, .ref to, .ref sp])), (to, .inr (5, [.int 0, .ref (qt 0), .ref (qt 1), .ref (qt 2), .ref ts, .int 0, .ref (qt 3), .ref (qt 4), .ref (qt 5), .ref (qt 6), .ref (qt 7), .ref (qt 8), .ref (qt 9), .ref (qt 10)])), (ha, .inr (1, [pv, .ref xt, .int 0, .int 0, .ref xr, .int 0, .int 0, .ref le, .ref lc, .ref ln, .ref al, .ref lo, .ref xg, .int 0, .null])), (lc, .inl (klc, 8, .inl (fun _ => 0))), (lo, .inr (0, [.int 0, .ref (ql 0), .ref (ql 1)])), (ru, .inr (6, [.int 0, .int 0, .ref pu, .ref ha, .ref nu, .int 0, .int 0, .int 0])), (pu, .inr (0, [.int 0, .ref (qu 0), .ref (qu 1)])), (tk, .inr (10, [.ref kd, .ref pl, .ref va, .int 0, .int 0, .ref tp, .ref rs]))] U.heap ∧ va_K (dC, dI) vwCl [(klc, .int)] U ∧ va_D (fun _ => True) [(h0, .inr (11, [.ref tk, .ref pa, .ref ta, .ref ha, .ref ru, .ref to, .ref sp])), (to, .inr (5, [.int 0, .ref (qt 0), .ref (qt 1), .ref (qt 2), .ref ts, .int 0, .ref (qt 3), .ref (qt 4), .ref (qt 5), .ref (qt 6), .ref (qt 7), .ref (qt 8), .ref (qt 9), .ref (qt 10)])), (ha, .inr (1, [pv, .ref xt, .int 0, .int 0, .ref xr, .int 0, .int 0, .ref le, .ref lc, .ref ln, .ref al, .ref lo, .ref xg, .int 0, .null])), (lc, .inl (klc, 8, .inl (fun _ => 0))), (lo, .inr (0, [.int 0, .ref (ql 0), .ref (ql 1)])), (ru, .inr (6, [.int 0, .int 0, .ref pu, .ref ha, .ref nu, .int 0, .int 0, .int 0])), (pu, .inr (0, [.int 0, .ref (qu 0), .ref (qu 1)])), (tk, .inr (10, [.ref kd, .ref pl, .ref va, .int 0, .int 0, .ref tp, .ref rs]))])) (va_Qi (fun (r : Int32) (_ : Unit) => r = if k = 0 ∨ k = 1 ∨ k = 2 ∨ k = 3 ∨ k = 4 ∨ k = 5 ∨ k = 6 ∨ k = 7 ∨ k = 8 ∨ k = 9 ∨ k = 10 ∨ k = 11 then 0 else -1) (fun (_ : Unit) t => va_P (dC, dI) vwCl [] t.heap ∧ va_K (dC, dI) vwCl [] t ∧ va_D (va_A [(h0, .inr (11, [.ref tk, .ref pa, .ref ta, .ref ha, .ref ru, .ref to, .ref sp])), (to, .inr (5, [.int 0, .ref (qt 0), .ref (qt 1), .ref (qt 2), .ref ts, .int 0, .ref (qt 3), .ref (qt 4), .ref (qt 5), .ref (qt 6), .ref (qt 7), .ref (qt 8), .ref (qt 9), .ref (qt 10)])), (ha, .inr (1, [pv, .ref xt, .int 0, .int 0, .ref xr, .int 0, .int 0, .ref le, .ref lc, .ref ln, .ref al, .ref lo, .ref xg, .int 0, .null])), (lc, .inl (klc, 8, .inl (fun _ => 0))), (lo, .inr (0, [.int 0, .ref (ql 0), .ref (ql 1)])), (ru, .inr (6, [.int 0, .int 0, .ref pu, .ref ha, .ref nu, .int 0, .int 0, .int 0])), (pu, .inr (0, [.int 0, .ref (qu 0), .ref (qu 1)])), (tk, .inr (10, [.ref kd, .ref pl, .ref va, .int 0, .int 0, .ref tp, .ref rs]))] sz) []) (va_A [(h0, .inr (11, [.ref tk, .ref pa, .ref ta, .ref ha, .ref ru, .ref to, .ref sp])), (to, .inr (5, [.int 0, .ref (qt 0), .ref (qt 1), .ref (qt 2), .ref ts, .int 0, .ref (qt 3), .ref (qt 4), .ref (qt 5), .ref (qt 6), .ref (qt 7), .ref (qt 8), .ref (qt 9), .ref (qt 10)])), (ha, .inr (1, [pv, .ref xt, .int 0, .int 0, .ref xr, .int 0, .int 0, .ref le, .ref lc, .ref ln, .ref al, .ref lo, .ref xg, .int 0, .null])), (lc, .inl (klc, 8, .inl (fun _ => 0))), (lo, .inr (0, [.int 0, .ref (ql 0), .ref (ql 1)])), (ru, .inr (6, [.int 0, .int 0, .ref pu, .ref ha, .ref nu, .int 0, .int 0, .int 0])), (pu, .inr (0, [.int 0, .ref (qu 0), .ref (qu 1)])), (tk, .inr (10, [.ref kd, .ref pl, .ref va, .int 0, .int 0, .ref tp, .ref rs]))] sz)) 0 0 (va_A [(h0, .inr (11, [.ref tk, .ref pa, .ref ta, .ref ha, .ref ru, .ref to, .ref sp])), (to, .inr (5, [.int 0, .ref (qt 0), .ref (qt 1), .ref (qt 2), .ref ts, .int 0, .ref (qt 3), .ref (qt 4), .ref (qt 5), .ref (qt 6), .ref (qt 7), .ref (qt 8), .ref (qt 9), .ref (qt 10)])), (ha, .inr (1, [pv, .ref xt, .int 0, .int 0, .ref xr, .int 0, .int 0, .ref le, .ref lc, .ref ln, .ref al, .ref lo, .ref xg, .int 0, .null])), (lc, .inl (klc, 8, .inl (fun _ => 0))), (lo, .inr (0, [.int 0, .ref (ql 0), .ref (ql 1)])), (ru, .inr (6, [.int 0, .int 0, .ref pu, .ref ha, .ref nu, .int 0, .int 0, .int 0])), (pu, .inr (0, [.int 0, .ref (qu 0), .ref (qu 1)])), (tk, .inr (10, [.ref kd, .ref pl, .ref va, .int 0, .int 0, .ref tp, .ref rs]))] sz) := by
  refine Met.ofW (cc := cX11_count) (maxL := 2) (ret := (some .int)) (by decide) rfl ?_
  intro p e s m args below meth c s₁ B hml hv
  obtain ⟨rfl, hsz, hP, hK, hD0⟩ := hv
  have hx := B.exec
  have hb := B.bytes
  have hr := B.returns
  have hts : ∀ w ∈ tb, w.before _ s = true := fun w h => atoms_spec (ws := (.code yX11_count cX11_count 2 (some .int) :: tb)) B.pre w (List.mem_cons_of_mem _ h)
  have hown : s.vm.findClass RX11 = some m.cls := findClass_of_methodNamed B.named
  have hlocks := B.notSynchronized
  subst hsz
  have hD := hD0.self (sz := s.heap.size)
  generalize hAe : va_A [(h0, .inr (11, [.ref tk, .ref pa, .ref ta, .ref ha, .ref ru, .ref to, .ref sp])), (to, .inr (5, [.int 0, .ref (qt 0), .ref (qt 1), .ref (qt 2), .ref ts, .int 0, .ref (qt 3), .ref (qt 4), .ref (qt 5), .ref (qt 6), .ref (qt 7), .ref (qt 8), .ref (qt 9), .ref (qt 10)])), (ha, .inr (1, [pv, .ref xt, .int 0, .int 0, .ref xr, .int 0, .int 0, .ref le, .ref lc, .ref ln, .ref al, .ref lo, .ref xg, .int 0, .null])), (lc, .inl (klc, 8, .inl (fun _ => 0))), (lo, .inr (0, [.int 0, .ref (ql 0), .ref (ql 1)])), (ru, .inr (6, [.int 0, .int 0, .ref pu, .ref ha, .ref nu, .int 0, .int 0, .int 0])), (pu, .inr (0, [.int 0, .ref (qu 0), .ref (qu 1)])), (tk, .inr (10, [.ref kd, .ref pl, .ref va, .int 0, .int 0, .ref tp, .ref rs]))] s.heap.size = A at hD ⊢
  have hA : ∀ q : Nat, s.heap.size ≤ q → A q := fun q h => by rw [← hAe]; exact Or.inr h
  have hS : va_S A s.heap s.heap [] := va_S.rf
  have hP : va_P (dC, dI) vwCl [(h0, .inr (11, [.ref tk, .ref pa, .ref ta, .ref ha, .ref ru, .ref to, .ref sp])), (to, .inr (5, [.int 0, .ref (qt 0), .ref (qt 1), .ref (qt 2), .ref ts, .int 0, .ref (qt 3), .ref (qt 4), .ref (qt 5), .ref (qt 6), .ref (qt 7), .ref (qt 8), .ref (qt 9), .ref (qt 10)])), (ha, .inr (1, [pv, .ref xt, .int 0, .int 0, .ref xr, .int 0, .int 0, .ref le, .ref lc, .ref ln, .ref al, .ref lo, .ref xg, .int 0, .null])), (lc, .inl (klc, 8, .inl (fun _ => 0))), (lo, .inr (0, [.int 0, .ref (ql 0), .ref (ql 1)])), (ru, .inr (6, [.int 0, .int 0, .ref pu, .ref ha, .ref nu, .int 0, .int 0, .int 0])), (pu, .inr (0, [.int 0, .ref (qu 0), .ref (qu 1)])), (tk, .inr (10, [.ref kd, .ref pl, .ref va, .int 0, .int 0, .ref tp, .ref rs]))] s.heap := hP
  have hl := lv_entry ([.ref h0, .int k]) (n := 2) (Nat.le_of_ble_eq_true rfl)
  rw [lg_entry_eq]
  generalize (lg_sl ([.ref h0, .int k]) ++ List.replicate (2 - (lg_sl ([.ref h0, .int k])).length) Slot.unset).toArray = ls at hl ⊢
  have hl : lv_has ls 2 [(0, .ref h0), (1, .int k)] := hl
  refine lv_iload_n hx hb dX11_count_0 rfl (lv_at hl 1 rfl) ?_
  rcases Decidable.em (k = 0) with c1 | c1
  · obtain rfl := c1
    refine lv_tableIn (tgt := 64) hx hb dX11_count_1 (by decide) (by decide) rfl (by decide) ?_
    refine lv_aload_n hx hb dX11_count_64 rfl (lv_at hl 0 rfl) ?_
    refine va_get (D := (dC, dI)) (ci := 11) (v := .ref to) (C := RX11) (T := TX11) (N := 7) hx hb hts in_X11 hown hK hP 0 rfl rfl 5 (by decide) (hts _ wd_483) (fun _ h9 => h9) rfl dX11_count_65 ?_
    refine va_get (D := (dC, dI)) (ci := 5) (v := .int 0) (C := RX5) (T := TX5) (N := 14) hx hb hts in_X5 hown hK hP 1 rfl rfl 5 (by decide) (hts _ wd_415) (fun _ h9 => h9) rfl dX11_count_68 ?_
    have hP9 := hP.sub (ws' := []) [] rfl
    have hD9 := hD.sub (ws' := []) [] (by decide) rfl
    have hK9 := hK.sub (tys' := []) [] rfl
    refine W.widen (k := 0) (n := 0) (Nat.le_of_ble_eq_true rfl) (Nat.le_of_ble_eq_true rfl) ?_
    exact W.iret (v := 0) hx hb hr (fun t ht hW => ⟨⟨0, (), rfl, (by first | rfl | decide), by rw [ht]; exact hP9, va_K.moved hW.alike hK9, hD9⟩, hS.F ht⟩) hS.2.2 dX11_count_71
  rcases Decidable.em (k = 1) with c2 | c2
  · obtain rfl := c2
    refine lv_tableIn (tgt := 72) hx hb dX11_count_1 (by decide) (by decide) rfl (by decide) ?_
    refine lv_aload_n hx hb dX11_count_72 rfl (lv_at hl 0 rfl) ?_
    refine va_get (D := (dC, dI)) (ci := 11) (v := .ref ha) (C := RX11) (T := TX11) (N := 7) hx hb hts in_X11 hown hK hP 0 rfl rfl 3 (by decide) (hts _ wd_481) (fun _ h9 => h9) rfl dX11_count_73 ?_
    refine va_get (D := (dC, dI)) (ci := 1) (v := .int 0) (C := RX1) (T := TX1) (N := 15) hx hb hts in_X1 hown hK hP 2 rfl rfl 2 (by decide) (hts _ wd_238) (fun _ h9 => h9) rfl dX11_count_76 ?_
    have hP9 := hP.sub (ws' := []) [] rfl
    have hD9 := hD.sub (ws' := []) [] (by decide) rfl
    have hK9 := hK.sub (tys' := []) [] rfl
    refine W.widen (k := 0) (n := 0) (Nat.le_of_ble_eq_true rfl) (Nat.le_of_ble_eq_true rfl) ?_
    exact W.iret (v := 0) hx hb hr (fun t ht hW => ⟨⟨0, (), rfl, (by first | rfl | decide), by rw [ht]; exact hP9, va_K.moved hW.alike hK9, hD9⟩, hS.F ht⟩) hS.2.2 dX11_count_79
  rcases Decidable.em (k = 2) with c3 | c3
  · obtain rfl := c3
    refine lv_tableIn (tgt := 80) hx hb dX11_count_1 (by decide) (by decide) rfl (by decide) ?_
    refine lv_aload_n hx hb dX11_count_80 rfl (lv_at hl 0 rfl) ?_
    refine va_get (D := (dC, dI)) (ci := 11) (v := .ref ha) (C := RX11) (T := TX11) (N := 7) hx hb hts in_X11 hown hK hP 0 rfl rfl 3 (by decide) (hts _ wd_481) (fun _ h9 => h9) rfl dX11_count_81 ?_
    refine va_get (D := (dC, dI)) (ci := 1) (v := .int 0) (C := RX1) (T := TX1) (N := 15) hx hb hts in_X1 hown hK hP 2 rfl rfl 3 (by decide) (hts _ wd_240) (fun _ h9 => h9) rfl dX11_count_84 ?_
    have hP9 := hP.sub (ws' := []) [] rfl
    have hD9 := hD.sub (ws' := []) [] (by decide) rfl
    have hK9 := hK.sub (tys' := []) [] rfl
    refine W.widen (k := 0) (n := 0) (Nat.le_of_ble_eq_true rfl) (Nat.le_of_ble_eq_true rfl) ?_
    exact W.iret (v := 0) hx hb hr (fun t ht hW => ⟨⟨0, (), rfl, (by first | rfl | decide), by rw [ht]; exact hP9, va_K.moved hW.alike hK9, hD9⟩, hS.F ht⟩) hS.2.2 dX11_count_87
  rcases Decidable.em (k = 3) with c4 | c4
  · obtain rfl := c4
    refine lv_tableIn (tgt := 88) hx hb dX11_count_1 (by decide) (by decide) rfl (by decide) ?_
    refine lv_aload_n hx hb dX11_count_88 rfl (lv_at hl 0 rfl) ?_
    refine va_get (D := (dC, dI)) (ci := 11) (v := .ref ha) (C := RX11) (T := TX11) (N := 7) hx hb hts in_X11 hown hK hP 0 rfl rfl 3 (by decide) (hts _ wd_481) (fun _ h9 => h9) rfl dX11_count_89 ?_
    refine va_get (D := (dC, dI)) (ci := 1) (v := .int 0) (C := RX1) (T := TX1) (N := 15) hx hb hts in_X1 hown hK hP 2 rfl rfl 5 (by decide) (hts _ wd_244) (fun _ h9 => h9) rfl dX11_count_92 ?_
    have hP9 := hP.sub (ws' := []) [] rfl
    have hD9 := hD.sub (ws' := []) [] (by decide) rfl
    have hK9 := hK.sub (tys' := []) [] rfl
    refine W.widen (k := 0) (n := 0) (Nat.le_of_ble_eq_true rfl) (Nat.le_of_ble_eq_true rfl) ?_
    exact W.iret (v := 0) hx hb hr (fun t ht hW => ⟨⟨0, (), rfl, (by first | rfl | decide), by rw [ht]; exact hP9, va_K.moved hW.alike hK9, hD9⟩, hS.F ht⟩) hS.2.2 dX11_count_95
  rcases Decidable.em (k = 4) with c5 | c5
  · obtain rfl := c5
    refine lv_tableIn (tgt := 96) hx hb dX11_count_1 (by decide) (by decide) rfl (by decide) ?_
    refine lv_aload_n hx hb dX11_count_96 rfl (lv_at hl 0 rfl) ?_
    refine va_get (D := (dC, dI)) (ci := 11) (v := .ref ha) (C := RX11) (T := TX11) (N := 7) hx hb hts in_X11 hown hK hP 0 rfl rfl 3 (by decide) (hts _ wd_481) (fun _ h9 => h9) rfl dX11_count_97 ?_
    refine va_get (D := (dC, dI)) (ci := 1) (v := .int 0) (C := RX1) (T := TX1) (N := 15) hx hb hts in_X1 hown hK hP 2 rfl rfl 2 (by decide) (hts _ wd_238) (fun _ h9 => h9) rfl dX11_count_100 ?_
    refine lv_aload_n hx hb dX11_count_103 rfl (lv_at hl 0 rfl) ?_
    refine va_get (D := (dC, dI)) (ci := 11) (v := .ref ha) (C := RX11) (T := TX11) (N := 7) hx hb hts in_X11 hown hK hP 0 rfl rfl 3 (by decide) (hts _ wd_481) (fun _ h9 => h9) rfl dX11_count_104 ?_
    refine va_get (D := (dC, dI)) (ci := 1) (v := .int 0) (C := RX1) (T := TX1) (N := 15) hx hb hts in_X1 hown hK hP 2 rfl rfl 3 (by decide) (hts _ wd_240) (fun _ h9 => h9) rfl dX11_count_107 ?_
    refine lv_isub hx hb dX11_count_110 ?_
    refine lv_topi (fun z6 ez6 => ?_)
    obtain rfl : z6 = 0 := ez6.trans (by decide)
    refine lv_aload_n hx hb dX11_count_111 rfl (lv_at hl 0 rfl) ?_
    refine va_get (D := (dC, dI)) (ci := 11) (v := .ref ha) (C := RX11) (T := TX11) (N := 7) hx hb hts in_X11 hown hK hP 0 rfl rfl 3 (by decide) (hts _ wd_481) (fun _ h9 => h9) rfl dX11_count_112 ?_
    refine va_get (D := (dC, dI)) (ci := 1) (v := .int 0) (C := RX1) (T := TX1) (N := 15) hx hb hts in_X1 hown hK hP 2 rfl rfl 5 (by decide) (hts _ wd_244) (fun _ h9 => h9) rfl dX11_count_115 ?_
    refine lv_isub hx hb dX11_count_118 ?_
    refine lv_topi (fun z7 ez7 => ?_)
    obtain rfl : z7 = 0 := ez7.trans (by decide)
    have hP9 := hP.sub (ws' := []) [] rfl
    have hD9 := hD.sub (ws' := []) [] (by decide) rfl
    have hK9 := hK.sub (tys' := []) [] rfl
    refine W.widen (k := 0) (n := 0) (Nat.le_of_ble_eq_true rfl) (Nat.le_of_ble_eq_true rfl) ?_
    exact W.iret (v := 0) hx hb hr (fun t ht hW => ⟨⟨0, (), rfl, (by first | rfl | decide), by rw [ht]; exact hP9, va_K.moved hW.alike hK9, hD9⟩, hS.F ht⟩) hS.2.2 dX11_count_119
  rcases Decidable.em (k = 5) with c8 | c8
  · obtain rfl := c8
    refine lv_tableIn (tgt := 120) hx hb dX11_count_1 (by decide) (by decide) rfl (by decide) ?_
    refine lv_aload_n hx hb dX11_count_120 rfl (lv_at hl 0 rfl) ?_
    refine va_get (D := (dC, dI)) (ci := 11) (v := .ref ru) (C := RX11) (T := TX11) (N := 7) hx hb hts in_X11 hown hK hP 0 rfl rfl 4 (by decide) (hts _ wd_482) (fun _ h9 => h9) rfl dX11_count_121 ?_
    refine va_get (D := (dC, dI)) (ci := 6) (v := .ref pu) (C := RX6) (T := TX6) (N := 8) hx hb hts in_X6 hown hK hP 5 rfl rfl 2 (by decide) (hts _ wd_306) (fun _ h9 => h9) rfl dX11_count_124 ?_
    refine va_get (D := (dC, dI)) (ci := 0) (v := .int 0) (C := RX0) (T := TX0) (N := 3) hx hb hts in_X0 hown hK hP 6 rfl rfl 0 (by decide) (hts _ wd_223) (fun _ h9 => h9) rfl dX11_count_127 ?_
    have hP9 := hP.sub (ws' := []) [] rfl
    have hD9 := hD.sub (ws' := []) [] (by decide) rfl
    have hK9 := hK.sub (tys' := []) [] rfl
    refine W.widen (k := 0) (n := 0) (Nat.le_of_ble_eq_true rfl) (Nat.le_of_ble_eq_true rfl) ?_
    exact W.iret (v := 0) hx hb hr (fun t ht hW => ⟨⟨0, (), rfl, (by first | rfl | decide), by rw [ht]; exact hP9, va_K.moved hW.alike hK9, hD9⟩, hS.F ht⟩) hS.2.2 dX11_count_130
  rcases Decidable.em (k = 6) with c9 | c9
  · obtain rfl := c9
    refine lv_tableIn (tgt := 131) hx hb dX11_count_1 (by decide) (by decide) rfl (by decide) ?_
    refine lv_aload_n hx hb dX11_count_131 rfl (lv_at hl 0 rfl) ?_
    refine va_get (D := (dC, dI)) (ci := 11) (v := .ref ha) (C := RX11) (T := TX11) (N := 7) hx hb hts in_X11 hown hK hP 0 rfl rfl 3 (by decide) (hts _ wd_481) (fun _ h9 => h9) rfl dX11_count_132 ?_
    refine va_get (D := (dC, dI)) (ci := 1) (v := .ref lo) (C := RX1) (T := TX1) (N := 15) hx hb hts in_X1 hown hK hP 2 rfl rfl 11 (by decide) (hts _ wd_258) (fun _ h9 => h9) rfl dX11_count_135 ?_
    refine va_get (D := (dC, dI)) (ci := 0) (v := .int 0) (C := RX0) (T := TX0) (N := 3) hx hb hts in_X0 hown hK hP 4 rfl rfl 0 (by decide) (hts _ wd_223) (fun _ h9 => h9) rfl dX11_count_138 ?_
    have hP9 := hP.sub (ws' := []) [] rfl
    have hD9 := hD.sub (ws' := []) [] (by decide) rfl
    have hK9 := hK.sub (tys' := []) [] rfl
    refine W.widen (k := 0) (n := 0) (Nat.le_of_ble_eq_true rfl) (Nat.le_of_ble_eq_true rfl) ?_
    exact W.iret (v := 0) hx hb hr (fun t ht hW => ⟨⟨0, (), rfl, (by first | rfl | decide), by rw [ht]; exact hP9, va_K.moved hW.alike hK9, hD9⟩, hS.F ht⟩) hS.2.2 dX11_count_141
  rcases Decidable.em (k = 7) with c10 | c10
  · obtain rfl := c10
    refine lv_tableIn (tgt := 142) hx hb dX11_count_1 (by decide) (by decide) rfl (by decide) ?_
    refine lv_aload_n hx hb dX11_count_142 rfl (lv_at hl 0 rfl) ?_
    refine va_get (D := (dC, dI)) (ci := 11) (v := .ref ha) (C := RX11) (T := TX11) (N := 7) hx hb hts in_X11 hown hK hP 0 rfl rfl 3 (by decide) (hts _ wd_481) (fun _ h9 => h9) rfl dX11_count_143 ?_
    refine va_get (D := (dC, dI)) (ci := 1) (v := .int 0) (C := RX1) (T := TX1) (N := 15) hx hb hts in_X1 hown hK hP 2 rfl rfl 6 (by decide) (hts _ wd_247) (fun _ h9 => h9) rfl dX11_count_146 ?_
    have hP9 := hP.sub (ws' := []) [] rfl
    have hD9 := hD.sub (ws' := []) [] (by decide) rfl
    have hK9 := hK.sub (tys' := []) [] rfl
    refine W.widen (k := 0) (n := 0) (Nat.le_of_ble_eq_true rfl) (Nat.le_of_ble_eq_true rfl) ?_
    exact W.iret (v := 0) hx hb hr (fun t ht hW => ⟨⟨0, (), rfl, (by first | rfl | decide), by rw [ht]; exact hP9, va_K.moved hW.alike hK9, hD9⟩, hS.F ht⟩) hS.2.2 dX11_count_149
  rcases Decidable.em (k = 8) with c11 | c11
  · obtain rfl := c11
    refine lv_tableIn (tgt := 150) hx hb dX11_count_1 (by decide) (by decide) rfl (by decide) ?_
    refine lv_aload_n hx hb dX11_count_150 rfl (lv_at hl 0 rfl) ?_
    refine va_get (D := (dC, dI)) (ci := 11) (v := .ref ru) (C := RX11) (T := TX11) (N := 7) hx hb hts in_X11 hown hK hP 0 rfl rfl 4 (by decide) (hts _ wd_482) (fun _ h9 => h9) rfl dX11_count_151 ?_
    refine va_get (D := (dC, dI)) (ci := 6) (v := .int 0) (C := RX6) (T := TX6) (N := 8) hx hb hts in_X6 hown hK hP 5 rfl rfl 0 (by decide) (hts _ wd_302) (fun _ h9 => h9) rfl dX11_count_154 ?_
    have hP9 := hP.sub (ws' := []) [] rfl
    have hD9 := hD.sub (ws' := []) [] (by decide) rfl
    have hK9 := hK.sub (tys' := []) [] rfl
    refine W.widen (k := 0) (n := 0) (Nat.le_of_ble_eq_true rfl) (Nat.le_of_ble_eq_true rfl) ?_
    exact W.iret (v := 0) hx hb hr (fun t ht hW => ⟨⟨0, (), rfl, (by first | rfl | decide), by rw [ht]; exact hP9, va_K.moved hW.alike hK9, hD9⟩, hS.F ht⟩) hS.2.2 dX11_count_157
  rcases Decidable.em (k = 9) with c12 | c12
  · obtain rfl := c12
    refine lv_tableIn (tgt := 158) hx hb dX11_count_1 (by decide) (by decide) rfl (by decide) ?_
    refine lv_aload_n hx hb dX11_count_158 rfl (lv_at hl 0 rfl) ?_
    refine va_get (D := (dC, dI)) (ci := 11) (v := .ref ru) (C := RX11) (T := TX11) (N := 7) hx hb hts in_X11 hown hK hP 0 rfl rfl 4 (by decide) (hts _ wd_482) (fun _ h9 => h9) rfl dX11_count_159 ?_
    refine va_get (D := (dC, dI)) (ci := 6) (v := .int 0) (C := RX6) (T := TX6) (N := 8) hx hb hts in_X6 hown hK hP 5 rfl rfl 1 (by decide) (hts _ wd_304) (fun _ h9 => h9) rfl dX11_count_162 ?_
    have hP9 := hP.sub (ws' := []) [] rfl
    have hD9 := hD.sub (ws' := []) [] (by decide) rfl
    have hK9 := hK.sub (tys' := []) [] rfl
    refine W.widen (k := 0) (n := 0) (Nat.le_of_ble_eq_true rfl) (Nat.le_of_ble_eq_true rfl) ?_
    exact W.iret (v := 0) hx hb hr (fun t ht hW => ⟨⟨0, (), rfl, (by first | rfl | decide), by rw [ht]; exact hP9, va_K.moved hW.alike hK9, hD9⟩, hS.F ht⟩) hS.2.2 dX11_count_165
  rcases Decidable.em (k = 10) with c13 | c13
  · obtain rfl := c13
    refine lv_tableIn (tgt := 166) hx hb dX11_count_1 (by decide) (by decide) rfl (by decide) ?_
    refine lv_aload_n hx hb dX11_count_166 rfl (lv_at hl 0 rfl) ?_
    refine va_get (D := (dC, dI)) (ci := 11) (v := .ref ha) (C := RX11) (T := TX11) (N := 7) hx hb hts in_X11 hown hK hP 0 rfl rfl 3 (by decide) (hts _ wd_481) (fun _ h9 => h9) rfl dX11_count_167 ?_
    have hPc := hP.sub (ws' := [(ha, .inr (1, [(pv : Value), .ref xt, .int 0, .int 0, .ref xr, .int 0, .int 0, .ref le, .ref lc, .ref ln, .ref al, .ref lo, .ref xg, .int 0, .null])), (lc, .inl (klc, 8, .inl (fun _ => 0)))]) [2, 3] rfl
    have hDc := hD.sub (ws' := [(ha, .inr (1, [(pv : Value), .ref xt, .int 0, .int 0, .ref xr, .int 0, .int 0, .ref le, .ref lc, .ref ln, .ref al, .ref lo, .ref xg, .int 0, .null])), (lc, .inl (klc, 8, .inl (fun _ => 0)))]) [2, 3] (by decide) rfl
    have hKc := hK.sub (tys' := [(klc, .int)]) [0] rfl
    have hFc := va_free (wc := [(ha, .inr (1, [(pv : Value), .ref xt, .int 0, .int 0, .ref xr, .int 0, .int 0, .ref le, .ref lc, .ref ln, .ref al, .ref lo, .ref xg, .int 0, .null])), (lc, .inl (klc, 8, .inl (fun _ => 0)))]) hD hS hA [2, 3] rfl
    refine va_calli (va_runV (As := []) (rest := []) ⟨hx, hb, hml, hown, hts⟩ (ct_X1_lettersLying l dC dI ha (pv : Value) xt xr le lc ln al lo xg klc s.heap.size) (cwV 0 hts (gd_V wd_1276 wd_1277 wd_1278 wd_9 wd_1279) rfl rfl rfl (by decide +kernel) ⟨Nat.le_of_ble_eq_true rfl, Nat.le_of_ble_eq_true rfl⟩) ⟨fun a U g mk q => by obtain ⟨q0, q1, qP, qK, qD⟩ := q; exact ⟨q0, q1, qP, va_K.moved (u := U) (U := U.calling g mk a) (Vm.Alike.refl U.vm) qK, qD⟩, va_recv hKc hPc (ci := 1) (q0 := 0) rfl rfl, fun U hU hW => ⟨rfl, by rw [hU], by rw [hU]; exact hPc, va_K.moved hW.alike hKc, hDc.weaken (fun _ _ _ _ => trivial)⟩⟩ rfl rfl hl.1 rfl (lv_room (Nat.le_of_ble_eq_true rfl)) dX11_count_170 ⟨Nat.le_of_ble_eq_true rfl, Nat.le_of_ble_eq_true rfl⟩) hS (fun q _ h => hFc q h) hFc (fun r14 u t H1 locs ht hvm hw hB hz1 hk1 hS => ?_)
    obtain ⟨hP1, hK1, hD1⟩ := hB
    rw [ht] at hP1
    have hK1 := va_K.moved hvm.symm hK1
    obtain ⟨hP, hD⟩ := va_join (wr := [(h0, .inr (11, [.ref tk, .ref pa, .ref ta, .ref ha, .ref ru, .ref to, .ref sp])), (to, .inr (5, [.int 0, .ref (qt 0), .ref (qt 1), .ref (qt 2), .ref ts, .int 0, .ref (qt 3), .ref (qt 4), .ref (qt 5), .ref (qt 6), .ref (qt 7), .ref (qt 8), .ref (qt 9), .ref (qt 10)])), (lo, .inr (0, [.int 0, .ref (ql 0), .ref (ql 1)])), (ru, .inr (6, [.int 0, .int 0, .ref pu, .ref ha, .ref nu, .int 0, .int 0, .int 0])), (pu, .inr (0, [.int 0, .ref (qu 0), .ref (qu 1)])), (tk, .inr (10, [.ref kd, .ref pl, .ref va, .int 0, .int 0, .ref tp, .ref rs]))]) (w1 := []) hP hD [2, 3] [0, 1, 4, 5, 6, 7] rfl rfl (by decide) (by decide) hk1 hFc hP1 hD1
    have hK := (hK.sub (tys' := [(klc, .int)]) [0] rfl).app (hK1.sub (tys' := []) [] rfl)
    generalize H1 = H at hP hS ⊢
    have hP : va_P (dC, dI) vwCl [(h0, .inr (11, [.ref tk, .ref pa, .ref ta, .ref ha, .ref ru, .ref to, .ref sp])), (to, .inr (5, [.int 0, .ref (qt 0), .ref (qt 1), .ref (qt 2), .ref ts, .int 0, .ref (qt 3), .ref (qt 4), .ref (qt 5), .ref (qt 6), .ref (qt 7), .ref (qt 8), .ref (qt 9), .ref (qt 10)])), (lo, .inr (0, [.int 0, .ref (ql 0), .ref (ql 1)])), (ru, .inr (6, [.int 0, .int 0, .ref pu, .ref ha, .ref nu, .int 0, .int 0, .int 0])), (pu, .inr (0, [.int 0, .ref (qu 0), .ref (qu 1)])), (tk, .inr (10, [.ref kd, .ref pl, .ref va, .int 0, .int 0, .ref tp, .ref rs]))] H := hP
    have hD : va_D A [(h0, .inr (11, [.ref tk, .ref pa, .ref ta, .ref ha, .ref ru, .ref to, .ref sp])), (to, .inr (5, [.int 0, .ref (qt 0), .ref (qt 1), .ref (qt 2), .ref ts, .int 0, .ref (qt 3), .ref (qt 4), .ref (qt 5), .ref (qt 6), .ref (qt 7), .ref (qt 8), .ref (qt 9), .ref (qt 10)])), (lo, .inr (0, [.int 0, .ref (ql 0), .ref (ql 1)])), (ru, .inr (6, [.int 0, .int 0, .ref pu, .ref ha, .ref nu, .int 0, .int 0, .int 0])), (pu, .inr (0, [.int 0, .ref (qu 0), .ref (qu 1)])), (tk, .inr (10, [.ref kd, .ref pl, .ref va, .int 0, .int 0, .ref tp, .ref rs]))] := hD
    have hK : va_K (dC, dI) vwCl [(klc, .int)] s := hK
    obtain rfl := hw
    have hP9 := hP.sub (ws' := []) [] rfl
    have hD9 := hD.sub (ws' := []) [] (by decide) rfl
    have hK9 := hK.sub (tys' := []) [] rfl
    refine W.widen (k := 0) (n := 0) (Nat.le_of_ble_eq_true rfl) (Nat.le_of_ble_eq_true rfl) ?_
    exact W.iret (v := 0) hx hb hr (fun t ht hW => ⟨⟨0, (), rfl, (by first | rfl | decide), by rw [ht]; exact hP9, va_K.moved hW.alike hK9, hD9⟩, hS.F ht⟩) hS.2.2 dX11_count_173
  rcases Decidable.em (k = 11) with c15 | c15
  · obtain rfl := c15
    refine lv_tableIn (tgt := 174) hx hb dX11_count_1 (by decide) (by decide) rfl (by decide) ?_
    refine lv_aload_n hx hb dX11_count_174 rfl (lv_at hl 0 rfl) ?_
    refine va_get (D := (dC, dI)) (ci := 11) (v := .ref tk) (C := RX11) (T := TX11) (N := 7) hx hb hts in_X11 hown hK hP 0 rfl rfl 0 (by decide) (hts _ wd_478) (fun _ h9 => h9) rfl dX11_count_175 ?_
    refine va_get (D := (dC, dI)) (ci := 10) (v := .int 0) (C := RX10) (T := TX10) (N := 7) hx hb hts in_X10 hown hK hP 7 rfl rfl 4 (by decide) (hts _ wd_102) (fun _ h9 => h9) rfl dX11_count_178 ?_
    have hP9 := hP.sub (ws' := []) [] rfl
    have hD9 := hD.sub (ws' := []) [] (by decide) rfl
    have hK9 := hK.sub (tys' := []) [] rfl
    refine W.widen (k := 0) (n := 0) (Nat.le_of_ble_eq_true rfl) (Nat.le_of_ble_eq_true rfl) ?_
    exact W.iret (v := 0) hx hb hr (fun t ht hW => ⟨⟨0, (), rfl, (by first | rfl | decide), by rw [ht]; exact hP9, va_K.moved hW.alike hK9, hD9⟩, hS.F ht⟩) hS.2.2 dX11_count_181
  refine lv_tableOut (tgt := 182) hx hb dX11_count_1 (by have nc1 := lv_neT c1 (show (0 : Int32).toInt = 0 by decide); have nc2 := lv_neT c2 (show (1 : Int32).toInt = 1 by decide); have nc3 := lv_neT c3 (show (2 : Int32).toInt = 2 by decide); have nc4 := lv_neT c4 (show (3 : Int32).toInt = 3 by decide); have nc5 := lv_neT c5 (show (4 : Int32).toInt = 4 by decide); have nc8 := lv_neT c8 (show (5 : Int32).toInt = 5 by decide); have nc9 := lv_neT c9 (show (6 : Int32).toInt = 6 by decide); have nc10 := lv_neT c10 (show (7 : Int32).toInt = 7 by decide); have nc11 := lv_neT c11 (show (8 : Int32).toInt = 8 by decide); have nc12 := lv_neT c12 (show (9 : Int32).toInt = 9 by decide); have nc13 := lv_neT c13 (show (10 : Int32).toInt = 10 by decide); have nc15 := lv_neT c15 (show (11 : Int32).toInt = 11 by decide); omega) (by decide) ?_
  refine lv_iconst (v := -1) hx hb dX11_count_182 (by decide) ?_
  have hP9 := hP.sub (ws' := []) [] rfl
  have hD9 := hD.sub (ws' := []) [] (by decide) rfl
  have hK9 := hK.sub (tys' := []) [] rfl
  refine W.widen (k := 0) (n := 0) (Nat.le_of_ble_eq_true rfl) (Nat.le_of_ble_eq_true rfl) ?_
  exact W.iret (v := -1) hx hb hr (fun t ht hW => ⟨⟨-1, (), rfl, (if_neg (fun h => by rcases h with h | h | h | h | h | h | h | h | h | h | h | h <;> exact absurd h (by assumption))).symm, by rw [ht]; exact hP9, va_K.moved hW.alike hK9, hD9⟩, hS.F ht⟩) hS.2.2 dX11_count_183
