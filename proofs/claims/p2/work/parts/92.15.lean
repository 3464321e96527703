theorem wd_234 : (Jvm.Cond.fieldLink "Sleepers$Runner" (82 : Nat) "Sleepers$Hall" "program" "LSleepers$Program;") ∈ tb := tb_at 234 (by decide +kernel) (by decide +kernel)
theorem wd_309 : (Jvm.Cond.fieldLink "Sleepers$Runner" (36 : Nat) "Sleepers$Runner" "numberCount" "I") ∈ tb := tb_at 309 (by decide +kernel) (by decide +kernel)
theorem wd_311 : (Jvm.Cond.fieldLink "Sleepers$Runner" (53 : Nat) "Sleepers$Runner" "failure" "I") ∈ tb := tb_at 311 (by decide +kernel) (by decide +kernel)
theorem wd_344 : (Jvm.Cond.fieldLink "Sleepers$Runner" (193 : Nat) "Sleepers$Scopes" "outer" "[I") ∈ tb := tb_at 344 (by decide +kernel) (by decide +kernel)
theorem wd_346 : (Jvm.Cond.fieldLink "Sleepers$Runner" (178 : Nat) "Sleepers$Scopes" "deep" "[I") ∈ tb := tb_at 346 (by decide +kernel) (by decide +kernel)
theorem wd_350 : (Jvm.Cond.fieldLink "Sleepers$Runner" (199 : Nat) "Sleepers$Scopes" "onAt" "[I") ∈ tb := tb_at 350 (by decide +kernel) (by decide +kernel)
theorem wd_354 : (Jvm.Cond.fieldLink "Sleepers$Runner" (181 : Nat) "Sleepers$Scopes" "finishAt" "[I") ∈ tb := tb_at 354 (by decide +kernel) (by decide +kernel)
theorem wd_358 : (Jvm.Cond.fieldLink "Sleepers$Runner" (184 : Nat) "Sleepers$Scopes" "behindTry" "[I") ∈ tb := tb_at 358 (by decide +kernel) (by decide +kernel)
theorem wd_363 : (Jvm.Cond.fieldLink "Sleepers$Runner" (196 : Nat) "Sleepers$Scopes" "loopScope" "[I") ∈ tb := tb_at 363 (by decide +kernel) (by decide +kernel)
theorem wd_366 : (Jvm.Cond.fieldLink "Sleepers$Runner" (205 : Nat) "Sleepers$Scopes" "loopAt" "[I") ∈ tb := tb_at 366 (by decide +kernel) (by decide +kernel)
theorem wd_368 : (Jvm.Cond.fieldLink "Sleepers$Runner" (202 : Nat) "Sleepers$Scopes" "behindLoop" "[I") ∈ tb := tb_at 368 (by decide +kernel) (by decide +kernel)
theorem wd_408 : (Jvm.Cond.fieldLink "Sleepers$Runner" (166 : Nat) "Sleepers$Program" "scope" "[I") ∈ tb := tb_at 408 (by decide +kernel) (by decide +kernel)
theorem wd_412 : (Jvm.Cond.fieldLink "Sleepers$Runner" (155 : Nat) "Sleepers$Program" "scopes" "LSleepers$Scopes;") ∈ tb := tb_at 412 (by decide +kernel) (by decide +kernel)
theorem wd_873 : (Jvm.Cond.fieldLink "Sleepers$Runner" (76 : Nat) "Sleepers$Task" "state" "I") ∈ tb := tb_at 873 (by decide +kernel) (by decide +kernel)
theorem wd_890 : (Jvm.Cond.fieldLink "Sleepers$Runner" (86 : Nat) "Sleepers$Task" "pc" "I") ∈ tb := tb_at 890 (by decide +kernel) (by decide +kernel)
theorem wd_892 : (Jvm.Cond.fieldLink "Sleepers$Task" (9 : Nat) "Sleepers$Task" "cells" "[I") ∈ tb := tb_at 892 (by decide +kernel) (by decide +kernel)
theorem wd_895 : (Jvm.Cond.fieldLink "Sleepers$Runner" (175 : Nat) "Sleepers$Task" "leftBy" "[I") ∈ tb := tb_at 895 (by decide +kernel) (by decide +kernel)
theorem wd_897 : (Jvm.Cond.fieldLink "Sleepers$Runner" (190 : Nat) "Sleepers$Task" "leftWith" "[I") ∈ tb := tb_at 897 (by decide +kernel) (by decide +kernel)
theorem wd_982 : (Jvm.Cond.methodLink "Sleepers$Runner" (102 : Nat) ({ cls := "Sleepers$Runner", name := "leave", desc := "(LSleepers$Task;III)V" } : Jvm.MethodName)) ∈ tb := tb_at 982 (by decide +kernel) (by decide +kernel)
theorem wd_984 : (Jvm.Cond.instanceMethod ({ cls := "Sleepers$Runner", name := "leave", desc := "(LSleepers$Task;III)V" } : Jvm.MethodName)) ∈ tb := tb_at 984 (by decide +kernel) (by decide +kernel)
theorem wd_985 : (Jvm.Cond.code ({ cls := "Sleepers$Runner", name := "leave", desc := "(LSleepers$Task;III)V" } : Jvm.MethodName) prog_8_method_13_code (14 : Nat) (Option.none : Option Jvm.ClassFile.FieldType)) ∈ tb := tb_at 985 (by decide +kernel) (by decide +kernel)
theorem wd_986 : (Jvm.Cond.methodLink "Sleepers$Runner" (171 : Nat) ({ cls := "Sleepers$Scopes", name := "is", desc := "(II)Z" } : Jvm.MethodName)) ∈ tb := tb_at 986 (by decide +kernel) (by decide +kernel)
theorem wd_987 : (Jvm.Cond.methodLink "Sleepers$Runner" (109 : Nat) ({ cls := "Sleepers$Runner", name := "end", desc := "(LSleepers$Task;II)V" } : Jvm.MethodName)) ∈ tb := tb_at 987 (by decide +kernel) (by decide +kernel)
theorem wd_989 : (Jvm.Cond.instanceMethod ({ cls := "Sleepers$Runner", name := "end", desc := "(LSleepers$Task;II)V" } : Jvm.MethodName)) ∈ tb := tb_at 989 (by decide +kernel) (by decide +kernel)
theorem wd_990 : (Jvm.Cond.code ({ cls := "Sleepers$Runner", name := "end", desc := "(LSleepers$Task;II)V" } : Jvm.MethodName) prog_8_method_14_code (4 : Nat) (Option.none : Option Jvm.ClassFile.FieldType)) ∈ tb := tb_at 990 (by decide +kernel) (by decide +kernel)
theorem sl_X6_end : Cond.selects RX6 yX6_end yX6_end ∈ tb := sl_of (y := ⟨"Sleepers$Runner", "end", "(LSleepers$Task;II)V"⟩) (n := 8) (by decide +kernel) (by decide +kernel)
theorem sl_X6_leave : Cond.selects RX6 yX6_leave yX6_leave ∈ tb := sl_of (y := ⟨"Sleepers$Runner", "leave", "(LSleepers$Task;III)V"⟩) (n := 8) (by decide +kernel) (by decide +kernel)
theorem dX6_fail_0 : decode cX6_fail 0 = .ok (.aload_n 1, 1) := by decide +kernel
theorem dX6_fail_1 : decode cX6_fail 1 = .ok (.getfield 76, 3) := by decide +kernel
theorem dX6_fail_4 : decode cX6_fail 4 = .ok (.iconst 5, 1) := by decide +kernel
theorem dX6_fail_5 : decode cX6_fail 5 = .ok (.if_icmp .ne 21, 3) := by decide +kernel
theorem dX6_fail_8 : decode cX6_fail 8 = .ok (.aload_n 1, 1) := by decide +kernel
theorem dX6_fail_9 : decode cX6_fail 9 = .ok (.iload_n 3, 1) := by decide +kernel
theorem dX6_fail_10 : decode cX6_fail 10 = .ok (.putfield 86, 3) := by decide +kernel
theorem dX6_fail_13 : decode cX6_fail 13 = .ok (.aload_n 0, 1) := by decide +kernel
theorem dX6_fail_14 : decode cX6_fail 14 = .ok (.iload_n 2, 1) := by decide +kernel
theorem dX6_fail_15 : decode cX6_fail 15 = .ok (.putfield 53, 3) := by decide +kernel
theorem dX6_fail_18 : decode cX6_fail 18 = .ok (.aload_n 0, 1) := by decide +kernel
theorem dX6_fail_19 : decode cX6_fail 19 = .ok (.iconst 2, 1) := by decide +kernel
theorem dX6_fail_20 : decode cX6_fail 20 = .ok (.putfield 39, 3) := by decide +kernel
theorem dX6_fail_23 : decode cX6_fail 23 = .ok (.goto 22, 3) := by decide +kernel
theorem dX6_fail_26 : decode cX6_fail 26 = .ok (.aload_n 0, 1) := by decide +kernel
theorem dX6_fail_27 : decode cX6_fail 27 = .ok (.aload_n 1, 1) := by decide +kernel
theorem dX6_fail_28 : decode cX6_fail 28 = .ok (.iconst 4, 1) := by decide +kernel
theorem dX6_fail_29 : decode cX6_fail 29 = .ok (.iload_n 2, 1) := by decide +kernel
theorem dX6_fail_30 : decode cX6_fail 30 = .ok (.aload_n 0, 1) := by decide +kernel
theorem dX6_fail_31 : decode cX6_fail 31 = .ok (.getfield 22, 3) := by decide +kernel
theorem dX6_fail_34 : decode cX6_fail 34 = .ok (.getfield 82, 3) := by decide +kernel
theorem dX6_fail_37 : decode cX6_fail 37 = .ok (.getfield 166, 3) := by decide +kernel
theorem dX6_fail_40 : decode cX6_fail 40 = .ok (.iload_n 3, 1) := by decide +kernel
theorem dX6_fail_41 : decode cX6_fail 41 = .ok (.iaload, 1) := by decide +kernel
theorem dX6_fail_42 : decode cX6_fail 42 = .ok (.invokevirtual 102, 3) := by decide +kernel
theorem dX6_fail_45 : decode cX6_fail 45 = .ok (.return_, 1) := by decide +kernel
theorem dX6_finishEnd_0 : decode cX6_finishEnd 0 = .ok (.aload_n 0, 1) := by decide +kernel
theorem dX6_finishEnd_1 : decode cX6_finishEnd 1 = .ok (.getfield 22, 3) := by decide +kernel
theorem dX6_finishEnd_4 : decode cX6_finishEnd 4 = .ok (.getfield 82, 3) := by decide +kernel
theorem dX6_finishEnd_7 : decode cX6_finishEnd 7 = .ok (.getfield 155, 3) := by decide +kernel
theorem dX6_finishEnd_10 : decode cX6_finishEnd 10 = .ok (.astore_n 3, 1) := by decide +kernel
theorem dX6_finishEnd_11 : decode cX6_finishEnd 11 = .ok (.aload_n 3, 1) := by decide +kernel
theorem dX6_finishEnd_12 : decode cX6_finishEnd 12 = .ok (.getfield 178, 3) := by decide +kernel
theorem dX6_finishEnd_15 : decode cX6_finishEnd 15 = .ok (.iload_n 2, 1) := by decide +kernel
theorem dX6_finishEnd_16 : decode cX6_finishEnd 16 = .ok (.iaload, 1) := by decide +kernel
theorem dX6_finishEnd_17 : decode cX6_finishEnd 17 = .ok (.istore 4, 2) := by decide +kernel
theorem dX6_finishEnd_19 : decode cX6_finishEnd 19 = .ok (.aload_n 1, 1) := by decide +kernel
theorem dX6_finishEnd_20 : decode cX6_finishEnd 20 = .ok (.getfield 175, 3) := by decide +kernel
theorem dX6_finishEnd_23 : decode cX6_finishEnd 23 = .ok (.iload 4, 2) := by decide +kernel
theorem dX6_finishEnd_25 : decode cX6_finishEnd 25 = .ok (.iaload, 1) := by decide +kernel
theorem dX6_finishEnd_26 : decode cX6_finishEnd 26 = .ok (.ifCond .ne 16, 3) := by decide +kernel
theorem dX6_finishEnd_29 : decode cX6_finishEnd 29 = .ok (.aload_n 1, 1) := by decide +kernel
theorem dX6_finishEnd_30 : decode cX6_finishEnd 30 = .ok (.aload_n 3, 1) := by decide +kernel
theorem dX6_finishEnd_31 : decode cX6_finishEnd 31 = .ok (.getfield 184, 3) := by decide +kernel
theorem dX6_finishEnd_34 : decode cX6_finishEnd 34 = .ok (.iload_n 2, 1) := by decide +kernel
theorem dX6_finishEnd_35 : decode cX6_finishEnd 35 = .ok (.iaload, 1) := by decide +kernel
theorem dX6_finishEnd_36 : decode cX6_finishEnd 36 = .ok (.putfield 86, 3) := by decide +kernel
theorem dX6_finishEnd_39 : decode cX6_finishEnd 39 = .ok (.goto 28, 3) := by decide +kernel
theorem dX6_finishEnd_42 : decode cX6_finishEnd 42 = .ok (.aload_n 0, 1) := by decide +kernel
theorem dX6_finishEnd_43 : decode cX6_finishEnd 43 = .ok (.aload_n 1, 1) := by decide +kernel
theorem dX6_finishEnd_44 : decode cX6_finishEnd 44 = .ok (.aload_n 1, 1) := by decide +kernel
theorem dX6_finishEnd_45 : decode cX6_finishEnd 45 = .ok (.getfield 175, 3) := by decide +kernel
theorem dX6_finishEnd_48 : decode cX6_finishEnd 48 = .ok (.iload 4, 2) := by decide +kernel
theorem dX6_finishEnd_50 : decode cX6_finishEnd 50 = .ok (.iaload, 1) := by decide +kernel
theorem dX6_finishEnd_51 : decode cX6_finishEnd 51 = .ok (.aload_n 1, 1) := by decide +kernel
theorem dX6_finishEnd_52 : decode cX6_finishEnd 52 = .ok (.getfield 190, 3) := by decide +kernel
theorem dX6_finishEnd_55 : decode cX6_finishEnd 55 = .ok (.iload 4, 2) := by decide +kernel
theorem dX6_finishEnd_57 : decode cX6_finishEnd 57 = .ok (.iaload, 1) := by decide +kernel
theorem dX6_finishEnd_58 : decode cX6_finishEnd 58 = .ok (.aload_n 3, 1) := by decide +kernel
theorem dX6_finishEnd_59 : decode cX6_finishEnd 59 = .ok (.getfield 193, 3) := by decide +kernel
theorem dX6_finishEnd_62 : decode cX6_finishEnd 62 = .ok (.iload_n 2, 1) := by decide +kernel
theorem dX6_finishEnd_63 : decode cX6_finishEnd 63 = .ok (.iaload, 1) := by decide +kernel
theorem dX6_finishEnd_64 : decode cX6_finishEnd 64 = .ok (.invokevirtual 102, 3) := by decide +kernel
theorem dX6_finishEnd_67 : decode cX6_finishEnd 67 = .ok (.return_, 1) := by decide +kernel
theorem dX6_leave_0 : decode cX6_leave 0 = .ok (.aload_n 0, 1) := by decide +kernel
theorem dX6_leave_1 : decode cX6_leave 1 = .ok (.getfield 22, 3) := by decide +kernel
theorem dX6_leave_4 : decode cX6_leave 4 = .ok (.getfield 82, 3) := by decide +kernel
theorem dX6_leave_7 : decode cX6_leave 7 = .ok (.getfield 155, 3) := by decide +kernel
theorem dX6_leave_10 : decode cX6_leave 10 = .ok (.astore 5, 2) := by decide +kernel
theorem dX6_leave_12 : decode cX6_leave 12 = .ok (.iload_n 2, 1) := by decide +kernel
theorem dX6_leave_13 : decode cX6_leave 13 = .ok (.iconst 1, 1) := by decide +kernel
theorem dX6_leave_14 : decode cX6_leave 14 = .ok (.if_icmp .eq 8, 3) := by decide +kernel
theorem dX6_leave_17 : decode cX6_leave 17 = .ok (.iload_n 2, 1) := by decide +kernel
theorem dX6_leave_18 : decode cX6_leave 18 = .ok (.iconst 2, 1) := by decide +kernel
theorem dX6_leave_19 : decode cX6_leave 19 = .ok (.if_icmp .ne 7, 3) := by decide +kernel
theorem dX6_leave_22 : decode cX6_leave 22 = .ok (.iconst 1, 1) := by decide +kernel
theorem dX6_leave_23 : decode cX6_leave 23 = .ok (.goto 4, 3) := by decide +kernel
theorem dX6_leave_26 : decode cX6_leave 26 = .ok (.iconst 0, 1) := by decide +kernel
theorem dX6_leave_27 : decode cX6_leave 27 = .ok (.istore 6, 2) := by decide +kernel
theorem dX6_leave_29 : decode cX6_leave 29 = .ok (.iload 6, 2) := by decide +kernel
theorem dX6_leave_31 : decode cX6_leave 31 = .ok (.ifCond .eq 13, 3) := by decide +kernel
theorem dX6_leave_34 : decode cX6_leave 34 = .ok (.aload 5, 2) := by decide +kernel
theorem dX6_leave_36 : decode cX6_leave 36 = .ok (.getfield 196, 3) := by decide +kernel
theorem dX6_leave_39 : decode cX6_leave 39 = .ok (.iload_n 3, 1) := by decide +kernel
theorem dX6_leave_40 : decode cX6_leave 40 = .ok (.iaload, 1) := by decide +kernel
theorem dX6_leave_41 : decode cX6_leave 41 = .ok (.goto 4, 3) := by decide +kernel
theorem dX6_leave_44 : decode cX6_leave 44 = .ok (.iconst (-1), 1) := by decide +kernel
theorem dX6_leave_45 : decode cX6_leave 45 = .ok (.istore 7, 2) := by decide +kernel
theorem dX6_leave_47 : decode cX6_leave 47 = .ok (.iload_n 2, 1) := by decide +kernel
theorem dX6_leave_48 : decode cX6_leave 48 = .ok (.istore 8, 2) := by decide +kernel
theorem dX6_leave_50 : decode cX6_leave 50 = .ok (.iload 4, 2) := by decide +kernel
theorem dX6_leave_52 : decode cX6_leave 52 = .ok (.istore 9, 2) := by decide +kernel
theorem dX6_leave_54 : decode cX6_leave 54 = .ok (.iconst 0, 1) := by decide +kernel
theorem dX6_leave_55 : decode cX6_leave 55 = .ok (.istore 10, 2) := by decide +kernel
theorem dX6_leave_57 : decode cX6_leave 57 = .ok (.iload 10, 2) := by decide +kernel
theorem dX6_leave_59 : decode cX6_leave 59 = .ok (.sipush 460, 3) := by decide +kernel
theorem dX6_leave_62 : decode cX6_leave 62 = .ok (.if_icmp .ge 168, 3) := by decide +kernel
theorem dX6_leave_65 : decode cX6_leave 65 = .ok (.iload 9, 2) := by decide +kernel
theorem dX6_leave_67 : decode cX6_leave 67 = .ok (.ifCond .lt 163, 3) := by decide +kernel
theorem dX6_leave_70 : decode cX6_leave 70 = .ok (.iload 9, 2) := by decide +kernel
theorem dX6_leave_72 : decode cX6_leave 72 = .ok (.iload 7, 2) := by decide +kernel
theorem dX6_leave_74 : decode cX6_leave 74 = .ok (.if_icmp .eq 156, 3) := by decide +kernel
theorem dX6_leave_77 : decode cX6_leave 77 = .ok (.iload 9, 2) := by decide +kernel
theorem dX6_leave_79 : decode cX6_leave 79 = .ok (.iconst 3, 1) := by decide +kernel
theorem dX6_leave_80 : decode cX6_leave 80 = .ok (.idiv, 1) := by decide +kernel
theorem dX6_leave_81 : decode cX6_leave 81 = .ok (.istore 11, 2) := by decide +kernel
theorem dX6_leave_83 : decode cX6_leave 83 = .ok (.iload 9, 2) := by decide +kernel
theorem dX6_leave_85 : decode cX6_leave 85 = .ok (.iconst 3, 1) := by decide +kernel
theorem dX6_leave_86 : decode cX6_leave 86 = .ok (.irem, 1) := by decide +kernel
theorem dX6_leave_87 : decode cX6_leave 87 = .ok (.istore 12, 2) := by decide +kernel
theorem dX6_leave_89 : decode cX6_leave 89 = .ok (.aload 5, 2) := by decide +kernel
theorem dX6_leave_91 : decode cX6_leave 91 = .ok (.getfield 178, 3) := by decide +kernel
theorem dX6_leave_94 : decode cX6_leave 94 = .ok (.iload 11, 2) := by decide +kernel
theorem dX6_leave_96 : decode cX6_leave 96 = .ok (.iaload, 1) := by decide +kernel
theorem dX6_leave_97 : decode cX6_leave 97 = .ok (.istore 13, 2) := by decide +kernel
theorem dX6_leave_99 : decode cX6_leave 99 = .ok (.iload 12, 2) := by decide +kernel
theorem dX6_leave_101 : decode cX6_leave 101 = .ok (.iconst 2, 1) := by decide +kernel
theorem dX6_leave_102 : decode cX6_leave 102 = .ok (.if_icmp .ne 31, 3) := by decide +kernel
theorem dX6_leave_105 : decode cX6_leave 105 = .ok (.iload 8, 2) := by decide +kernel
theorem dX6_leave_107 : decode cX6_leave 107 = .ok (.iconst 4, 1) := by decide +kernel
theorem dX6_leave_108 : decode cX6_leave 108 = .ok (.if_icmp .ne 18, 3) := by decide +kernel
theorem dX6_leave_111 : decode cX6_leave 111 = .ok (.aload_n 1, 1) := by decide +kernel
theorem dX6_leave_112 : decode cX6_leave 112 = .ok (.getfield 175, 3) := by decide +kernel
theorem dX6_leave_115 : decode cX6_leave 115 = .ok (.iload 13, 2) := by decide +kernel
theorem dX6_leave_117 : decode cX6_leave 117 = .ok (.iaload, 1) := by decide +kernel
theorem dX6_leave_118 : decode cX6_leave 118 = .ok (.iconst 5, 1) := by decide +kernel
theorem dX6_leave_119 : decode cX6_leave 119 = .ok (.if_icmp .ne 7, 3) := by decide +kernel
theorem dX6_leave_122 : decode cX6_leave 122 = .ok (.iconst 5, 1) := by decide +kernel
theorem dX6_leave_123 : decode cX6_leave 123 = .ok (.goto 5, 3) := by decide +kernel
theorem dX6_leave_126 : decode cX6_leave 126 = .ok (.iload 8, 2) := by decide +kernel
theorem dX6_leave_128 : decode cX6_leave 128 = .ok (.istore 8, 2) := by decide +kernel
theorem dX6_leave_130 : decode cX6_leave 130 = .ok (.goto 84, 3) := by decide +kernel
theorem dX6_leave_133 : decode cX6_leave 133 = .ok (.iload 8, 2) := by decide +kernel
theorem dX6_leave_135 : decode cX6_leave 135 = .ok (.iconst 4, 1) := by decide +kernel
theorem dX6_leave_136 : decode cX6_leave 136 = .ok (.if_icmp .ne 37, 3) := by decide +kernel
theorem dX6_leave_139 : decode cX6_leave 139 = .ok (.iload 12, 2) := by decide +kernel
theorem dX6_leave_141 : decode cX6_leave 141 = .ok (.ifCond .ne 32, 3) := by decide +kernel
theorem dX6_leave_144 : decode cX6_leave 144 = .ok (.aload 5, 2) := by decide +kernel
theorem dX6_leave_146 : decode cX6_leave 146 = .ok (.iload 11, 2) := by decide +kernel
theorem dX6_leave_148 : decode cX6_leave 148 = .ok (.iconst 1, 1) := by decide +kernel
theorem dX6_leave_149 : decode cX6_leave 149 = .ok (.invokevirtual 171, 3) := by decide +kernel
theorem dX6_leave_152 : decode cX6_leave 152 = .ok (.ifCond .eq 21, 3) := by decide +kernel
theorem dX6_leave_155 : decode cX6_leave 155 = .ok (.aload_n 0, 1) := by decide +kernel
theorem dX6_leave_156 : decode cX6_leave 156 = .ok (.iload_n 3, 1) := by decide +kernel
theorem dX6_leave_157 : decode cX6_leave 157 = .ok (.putfield 53, 3) := by decide +kernel
theorem dX6_leave_160 : decode cX6_leave 160 = .ok (.aload_n 1, 1) := by decide +kernel
theorem dX6_leave_161 : decode cX6_leave 161 = .ok (.aload 5, 2) := by decide +kernel
theorem dX6_leave_163 : decode cX6_leave 163 = .ok (.getfield 199, 3) := by decide +kernel
theorem dX6_leave_166 : decode cX6_leave 166 = .ok (.iload 11, 2) := by decide +kernel
theorem dX6_leave_168 : decode cX6_leave 168 = .ok (.iaload, 1) := by decide +kernel
theorem dX6_leave_169 : decode cX6_leave 169 = .ok (.putfield 86, 3) := by decide +kernel
theorem dX6_leave_172 : decode cX6_leave 172 = .ok (.return_, 1) := by decide +kernel
theorem dX6_leave_173 : decode cX6_leave 173 = .ok (.aload 5, 2) := by decide +kernel
theorem dX6_leave_175 : decode cX6_leave 175 = .ok (.iload 11, 2) := by decide +kernel
theorem dX6_leave_177 : decode cX6_leave 177 = .ok (.iconst 2, 1) := by decide +kernel
theorem dX6_leave_178 : decode cX6_leave 178 = .ok (.invokevirtual 171, 3) := by decide +kernel
theorem dX6_leave_181 : decode cX6_leave 181 = .ok (.ifCond .eq 33, 3) := by decide +kernel
theorem dX6_leave_184 : decode cX6_leave 184 = .ok (.aload_n 1, 1) := by decide +kernel
theorem dX6_leave_185 : decode cX6_leave 185 = .ok (.getfield 175, 3) := by decide +kernel
theorem dX6_leave_188 : decode cX6_leave 188 = .ok (.iload 13, 2) := by decide +kernel
theorem dX6_leave_190 : decode cX6_leave 190 = .ok (.iload 8, 2) := by decide +kernel
theorem dX6_leave_192 : decode cX6_leave 192 = .ok (.iastore, 1) := by decide +kernel
theorem dX6_leave_193 : decode cX6_leave 193 = .ok (.aload_n 1, 1) := by decide +kernel
theorem dX6_leave_194 : decode cX6_leave 194 = .ok (.getfield 190, 3) := by decide +kernel
theorem dX6_leave_197 : decode cX6_leave 197 = .ok (.iload 13, 2) := by decide +kernel
theorem dX6_leave_199 : decode cX6_leave 199 = .ok (.iload_n 3, 1) := by decide +kernel
theorem dX6_leave_200 : decode cX6_leave 200 = .ok (.iastore, 1) := by decide +kernel
theorem dX6_leave_201 : decode cX6_leave 201 = .ok (.aload_n 1, 1) := by decide +kernel
theorem dX6_leave_202 : decode cX6_leave 202 = .ok (.aload 5, 2) := by decide +kernel
theorem dX6_leave_204 : decode cX6_leave 204 = .ok (.getfield 181, 3) := by decide +kernel
theorem dX6_leave_207 : decode cX6_leave 207 = .ok (.iload 11, 2) := by decide +kernel
theorem dX6_leave_209 : decode cX6_leave 209 = .ok (.iaload, 1) := by decide +kernel
theorem dX6_leave_210 : decode cX6_leave 210 = .ok (.putfield 86, 3) := by decide +kernel
theorem dX6_leave_213 : decode cX6_leave 213 = .ok (.return_, 1) := by decide +kernel
theorem dX6_leave_214 : decode cX6_leave 214 = .ok (.aload 5, 2) := by decide +kernel
theorem dX6_leave_216 : decode cX6_leave 216 = .ok (.getfield 193, 3) := by decide +kernel
theorem dX6_leave_219 : decode cX6_leave 219 = .ok (.iload 11, 2) := by decide +kernel
theorem dX6_leave_221 : decode cX6_leave 221 = .ok (.iaload, 1) := by decide +kernel
theorem dX6_leave_222 : decode cX6_leave 222 = .ok (.istore 9, 2) := by decide +kernel
theorem dX6_leave_224 : decode cX6_leave 224 = .ok (.iinc 10 1, 3) := by decide +kernel
theorem dX6_leave_227 : decode cX6_leave 227 = .ok (.goto (-170), 3) := by decide +kernel
theorem dX6_leave_230 : decode cX6_leave 230 = .ok (.iload 6, 2) := by decide +kernel
theorem dX6_leave_232 : decode cX6_leave 232 = .ok (.ifCond .eq 33, 3) := by decide +kernel
theorem dX6_leave_235 : decode cX6_leave 235 = .ok (.aload_n 1, 1) := by decide +kernel
theorem dX6_leave_236 : decode cX6_leave 236 = .ok (.iload 8, 2) := by decide +kernel
theorem dX6_leave_238 : decode cX6_leave 238 = .ok (.iconst 1, 1) := by decide +kernel
theorem dX6_leave_239 : decode cX6_leave 239 = .ok (.if_icmp .ne 13, 3) := by decide +kernel
theorem dX6_leave_242 : decode cX6_leave 242 = .ok (.aload 5, 2) := by decide +kernel
theorem dX6_leave_244 : decode cX6_leave 244 = .ok (.getfield 202, 3) := by decide +kernel
theorem dX6_leave_247 : decode cX6_leave 247 = .ok (.iload_n 3, 1) := by decide +kernel
theorem dX6_leave_248 : decode cX6_leave 248 = .ok (.iaload, 1) := by decide +kernel
theorem dX6_leave_249 : decode cX6_leave 249 = .ok (.goto 10, 3) := by decide +kernel
theorem dX6_leave_252 : decode cX6_leave 252 = .ok (.aload 5, 2) := by decide +kernel
theorem dX6_leave_254 : decode cX6_leave 254 = .ok (.getfield 205, 3) := by decide +kernel
theorem dX6_leave_257 : decode cX6_leave 257 = .ok (.iload_n 3, 1) := by decide +kernel
theorem dX6_leave_258 : decode cX6_leave 258 = .ok (.iaload, 1) := by decide +kernel
theorem dX6_leave_259 : decode cX6_leave 259 = .ok (.putfield 86, 3) := by decide +kernel
theorem dX6_leave_262 : decode cX6_leave 262 = .ok (.goto 37, 3) := by decide +kernel
theorem dX6_leave_265 : decode cX6_leave 265 = .ok (.iload 8, 2) := by decide +kernel
theorem dX6_leave_267 : decode cX6_leave 267 = .ok (.iconst 3, 1) := by decide +kernel
theorem dX6_leave_268 : decode cX6_leave 268 = .ok (.if_icmp .ne 13, 3) := by decide +kernel
theorem dX6_leave_271 : decode cX6_leave 271 = .ok (.aload_n 0, 1) := by decide +kernel
theorem dX6_leave_272 : decode cX6_leave 272 = .ok (.aload_n 1, 1) := by decide +kernel
theorem dX6_leave_273 : decode cX6_leave 273 = .ok (.iconst 0, 1) := by decide +kernel
theorem dX6_leave_274 : decode cX6_leave 274 = .ok (.iload_n 3, 1) := by decide +kernel
theorem dX6_leave_275 : decode cX6_leave 275 = .ok (.invokevirtual 109, 3) := by decide +kernel
theorem dX6_leave_278 : decode cX6_leave 278 = .ok (.goto 21, 3) := by decide +kernel
theorem dX6_leave_281 : decode cX6_leave 281 = .ok (.aload_n 0, 1) := by decide +kernel
theorem dX6_leave_282 : decode cX6_leave 282 = .ok (.aload_n 1, 1) := by decide +kernel
theorem dX6_leave_283 : decode cX6_leave 283 = .ok (.iload 8, 2) := by decide +kernel
theorem dX6_leave_285 : decode cX6_leave 285 = .ok (.iconst 5, 1) := by decide +kernel
theorem dX6_leave_286 : decode cX6_leave 286 = .ok (.if_icmp .ne 8, 3) := by decide +kernel
theorem dX6_leave_289 : decode cX6_leave 289 = .ok (.bipush 22, 2) := by decide +kernel
theorem dX6_leave_291 : decode cX6_leave 291 = .ok (.goto 4, 3) := by decide +kernel
theorem dX6_leave_294 : decode cX6_leave 294 = .ok (.iload_n 3, 1) := by decide +kernel
theorem dX6_leave_295 : decode cX6_leave 295 = .ok (.iconst 0, 1) := by decide +kernel
theorem dX6_leave_296 : decode cX6_leave 296 = .ok (.invokevirtual 109, 3) := by decide +kernel
theorem dX6_leave_299 : decode cX6_leave 299 = .ok (.return_, 1) := by decide +kernel
theorem dX6_pop_0 : decode cX6_pop 0 = .ok (.aload_n 0, 1) := by decide +kernel
theorem dX6_pop_1 : decode cX6_pop 1 = .ok (.getfield 36, 3) := by decide +kernel
theorem dX6_pop_4 : decode cX6_pop 4 = .ok (.ifCond .ne 5, 3) := by decide +kernel
theorem dX6_pop_7 : decode cX6_pop 7 = .ok (.iconst 0, 1) := by decide +kernel
theorem dX6_pop_8 : decode cX6_pop 8 = .ok (.ireturn, 1) := by decide +kernel
theorem dX6_pop_9 : decode cX6_pop 9 = .ok (.aload_n 0, 1) := by decide +kernel
theorem dX6_pop_10 : decode cX6_pop 10 = .ok (.dup, 1) := by decide +kernel
theorem dX6_pop_11 : decode cX6_pop 11 = .ok (.getfield 36, 3) := by decide +kernel
theorem dX6_pop_14 : decode cX6_pop 14 = .ok (.iconst 1, 1) := by decide +kernel
theorem dX6_pop_15 : decode cX6_pop 15 = .ok (.isub, 1) := by decide +kernel
theorem dX6_pop_16 : decode cX6_pop 16 = .ok (.putfield 36, 3) := by decide +kernel
theorem dX6_pop_19 : decode cX6_pop 19 = .ok (.aload_n 0, 1) := by decide +kernel
theorem dX6_pop_20 : decode cX6_pop 20 = .ok (.getfield 18, 3) := by decide +kernel
theorem dX6_pop_23 : decode cX6_pop 23 = .ok (.aload_n 0, 1) := by decide +kernel
theorem dX6_pop_24 : decode cX6_pop 24 = .ok (.getfield 36, 3) := by decide +kernel
theorem dX6_pop_27 : decode cX6_pop 27 = .ok (.iaload, 1) := by decide +kernel
theorem dX6_pop_28 : decode cX6_pop 28 = .ok (.ireturn, 1) := by decide +kernel
theorem dX9_set_0 : decode cX9_set 0 = .ok (.iload_n 1, 1) := by decide +kernel
theorem dX9_set_1 : decode cX9_set 1 = .ok (.ifCond .lt 16, 3) := by decide +kernel
theorem dX9_set_4 : decode cX9_set 4 = .ok (.iload_n 1, 1) := by decide +kernel
theorem dX9_set_5 : decode cX9_set 5 = .ok (.bipush 12, 2) := by decide +kernel
theorem dX9_set_7 : decode cX9_set 7 = .ok (.if_icmp .ge 10, 3) := by decide +kernel
theorem dX9_set_10 : decode cX9_set 10 = .ok (.aload_n 0, 1) := by decide +kernel
theorem dX9_set_11 : decode cX9_set 11 = .ok (.getfield 9, 3) := by decide +kernel
theorem dX9_set_14 : decode cX9_set 14 = .ok (.iload_n 1, 1) := by decide +kernel
theorem dX9_set_15 : decode cX9_set 15 = .ok (.iload_n 2, 1) := by decide +kernel
theorem dX9_set_16 : decode cX9_set 16 = .ok (.iastore, 1) := by decide +kernel
theorem dX9_set_17 : decode cX9_set 17 = .ok (.return_, 1) := by decide +kernel
def wp_X6_leave_295 (K : kS → Prop) (y0 : Nat) (y1 : Nat) (y2 : Int32) (S : kS) : Prop := hasO S y0 6 ∧ wp_X6_end y0 y1 y2 0 S (fun (S68 : kS) => K S68)
def wp_X6_leave_230 (K : kS → Prop) (x0 : Nat) (x1 : Nat) (x3 : Int32) (x5 : Option Nat) (x6 : Int32) (x8 : Int32) (S : kS) : Prop := ((x6 = 0 → ((¬ x8 = 3 → ((¬ x8 = 5 → wp_X6_leave_295 K x0 x1 x3 S) ∧ (x8 = 5 → wp_X6_leave_295 K x0 x1 22 S))) ∧ (x8 = 3 → hasO S x0 6 ∧ wp_X6_end x0 x1 0 x3 S (fun (S56 : kS) => K S56)))) ∧ (¬ x6 = 0 → ((¬ x8 = 1 → ∃ q58 : Nat, x5 = some q58 ∧ hasO S q58 7 ∧ ∀ z59 : Option Nat, z59 = S.2.1 51 q58 → ∃ q60 : Nat, z59 = some q60 ∧ hasA S q60 460 0 ∧ inR x3 460 ∧ ∀ z61 : Int32, z61 = S.2.2.1 q60 (ix x3) → hasO S x1 9 ∧ ∀ S62 : kS, S62 = cI S 36 x1 z61 → K S62) ∧ (x8 = 1 → ∃ q63 : Nat, x5 = some q63 ∧ hasO S q63 7 ∧ ∀ z64 : Option Nat, z64 = S.2.1 52 q63 → ∃ q65 : Nat, z64 = some q65 ∧ hasA S q65 460 0 ∧ inR x3 460 ∧ ∀ z66 : Int32, z66 = S.2.2.1 q65 (ix x3) → hasO S x1 9 ∧ ∀ S67 : kS, S67 = cI S 36 x1 z66 → K S67))))
def wp_X6_leave_214 (K : kS → Prop) (k57 : Nat × Nat × Int32 × Option Nat × Int32 × Int32 × Int32 × Int32 × Int32 × kS → Prop) (x0 : Nat) (x1 : Nat) (x3 : Int32) (x5 : Nat) (x6 : Int32) (x7 : Int32) (x8 : Int32) (x10 : Int32) (x11 : Int32) (S : kS) : Prop := hasO S x5 7 ∧ ∀ z37 : Option Nat, z37 = S.2.1 43 x5 → ∃ q38 : Nat, z37 = some q38 ∧ hasA S q38 460 0 ∧ inR x11 460 ∧ ∀ z39 : Int32, z39 = S.2.2.1 q38 (ix x11) → ∀ z40 : Int32, z40 = x10 + 1 → k57 (x0, x1, x3, some x5, x6, x7, x8, z39, z40, S)
def wp_X6_leave_173 (K : kS → Prop) (k57 : Nat × Nat × Int32 × Option Nat × Int32 × Int32 × Int32 × Int32 × Int32 × kS → Prop) (x0 : Nat) (x1 : Nat) (x3 : Int32) (x5 : Nat) (x6 : Int32) (x7 : Int32) (x8 : Int32) (x10 : Int32) (x11 : Int32) (x13 : Int32) (S : kS) : Prop := hasO S x5 7 ∧ wp_X7_is x5 x11 2 S (fun (S41 : kS) (r41 : Int32) => ((r41 = 0 → wp_X6_leave_214 K k57 x0 x1 x3 x5 x6 x7 x8 x10 x11 S41) ∧ (¬ r41 = 0 → hasO S41 x1 9 ∧ ∀ z43 : Option Nat, z43 = S41.2.1 59 x1 → ∃ q44 : Nat, z43 = some q44 ∧ hasA S41 q44 10 0 ∧ inR x13 10 ∧ ∀ S45 : kS, S45 = cA S41 q44 (ix x13) x8 → hasO S45 x1 9 ∧ ∀ z46 : Option Nat, z46 = S45.2.1 60 x1 → ∃ q47 : Nat, z46 = some q47 ∧ hasA S45 q47 10 0 ∧ inR x13 10 ∧ ∀ S48 : kS, S48 = cA S45 q47 (ix x13) x3 → hasO S48 x5 7 ∧ ∀ z49 : Option Nat, z49 = S48.2.1 47 x5 → ∃ q50 : Nat, z49 = some q50 ∧ hasA S48 q50 460 0 ∧ inR x11 460 ∧ ∀ z51 : Int32, z51 = S48.2.2.1 q50 (ix x11) → hasO S48 x1 9 ∧ ∀ S52 : kS, S52 = cI S48 36 x1 z51 → K S52)))
def wp_X6_leave_128 (K : kS → Prop) (k57 : Nat × Nat × Int32 × Option Nat × Int32 × Int32 × Int32 × Int32 × Int32 × kS → Prop) (x0 : Nat) (x1 : Nat) (x3 : Int32) (x5 : Nat) (x6 : Int32) (x7 : Int32) (x10 : Int32) (x11 : Int32) (y0 : Int32) (S : kS) : Prop := wp_X6_leave_214 K k57 x0 x1 x3 x5 x6 x7 y0 x10 x11 S
def wp_X6_leave_126 (K : kS → Prop) (k57 : Nat × Nat × Int32 × Option Nat × Int32 × Int32 × Int32 × Int32 × Int32 × kS → Prop) (x0 : Nat) (x1 : Nat) (x3 : Int32) (x5 : Nat) (x6 : Int32) (x7 : Int32) (x8 : Int32) (x10 : Int32) (x11 : Int32) (S : kS) : Prop := wp_X6_leave_128 K k57 x0 x1 x3 x5 x6 x7 x10 x11 x8 S
def wp_X6_leave_57 (K : kS → Prop) (k57 : Nat × Nat × Int32 × Option Nat × Int32 × Int32 × Int32 × Int32 × Int32 × kS → Prop) (x0 : Nat) (x1 : Nat) (x3 : Int32) (x5 : Option Nat) (x6 : Int32) (x7 : Int32) (x8 : Int32) (x9 : Int32) (x10 : Int32) (S : kS) : Prop := ((460 ≤ x10 → wp_X6_leave_230 K x0 x1 x3 x5 x6 x8 S) ∧ (¬ 460 ≤ x10 → ((x9 < 0 → wp_X6_leave_230 K x0 x1 x3 x5 x6 x8 S) ∧ (¬ x9 < 0 → ((x9 = x7 → wp_X6_leave_230 K x0 x1 x3 x5 x6 x8 S) ∧ (¬ x9 = x7 → ¬ (3 : Int32) = 0 ∧ ∀ z16 : Int32, z16 = x9 / 3 → ¬ (3 : Int32) = 0 ∧ ∀ z17 : Int32, z17 = x9 - x9 / 3 * 3 → ∃ q18 : Nat, x5 = some q18 ∧ hasO S q18 7 ∧ ∀ z19 : Option Nat, z19 = S.2.1 44 q18 → ∃ q20 : Nat, z19 = some q20 ∧ hasA S q20 460 0 ∧ inR z16 460 ∧ ∀ z21 : Int32, z21 = S.2.2.1 q20 (ix z16) → ((¬ z17 = 2 → ((¬ x8 = 4 → wp_X6_leave_173 K k57 x0 x1 x3 q18 x6 x7 x8 x10 z16 z21 S) ∧ (x8 = 4 → ((¬ z17 = 0 → wp_X6_leave_173 K k57 x0 x1 x3 q18 x6 x7 x8 x10 z16 z21 S) ∧ (z17 = 0 → hasO S q18 7 ∧ wp_X7_is q18 z16 1 S (fun (S25 : kS) (r25 : Int32) => ((r25 = 0 → wp_X6_leave_173 K k57 x0 x1 x3 q18 x6 x7 x8 x10 z16 z21 S25) ∧ (¬ r25 = 0 → hasO S25 x0 6 ∧ ∀ S27 : kS, S27 = cI S25 23 x0 x3 → hasO S27 q18 7 ∧ ∀ z28 : Option Nat, z28 = S27.2.1 46 q18 → ∃ q29 : Nat, z28 = some q29 ∧ hasA S27 q29 460 0 ∧ inR z16 460 ∧ ∀ z30 : Int32, z30 = S27.2.2.1 q29 (ix z16) → hasO S27 x1 9 ∧ ∀ S31 : kS, S31 = cI S27 36 x1 z30 → K S31)))))))) ∧ (z17 = 2 → ((¬ x8 = 4 → wp_X6_leave_126 K k57 x0 x1 x3 q18 x6 x7 x8 x10 z16 S) ∧ (x8 = 4 → hasO S x1 9 ∧ ∀ z33 : Option Nat, z33 = S.2.1 59 x1 → ∃ q34 : Nat, z33 = some q34 ∧ hasA S q34 10 0 ∧ inR z21 10 ∧ ∀ z35 : Int32, z35 = S.2.2.1 q34 (ix z21) → ((¬ z35 = 5 → wp_X6_leave_126 K k57 x0 x1 x3 q18 x6 x7 x8 x10 z16 S) ∧ (z35 = 5 → wp_X6_leave_128 K k57 x0 x1 x3 q18 x6 x7 x10 z16 5 S))))))))))))
def ls_X6_leave_57 (K : kS → Prop) (k57 : Nat × Nat × Int32 × Option Nat × Int32 × Int32 × Int32 × Int32 × Int32 × kS → Prop) (u : Nat × Nat × Int32 × Option Nat × Int32 × Int32 × Int32 × Int32 × Int32 × kS) : Prop := wp_X6_leave_57 K k57 u.1 u.2.1 u.2.2.1 u.2.2.2.1 u.2.2.2.2.1 u.2.2.2.2.2.1 u.2.2.2.2.2.2.1 u.2.2.2.2.2.2.2.1 u.2.2.2.2.2.2.2.2.1 u.2.2.2.2.2.2.2.2.2
def wp_X6_leave_45 (K : kS → Prop) (x0 : Nat) (x1 : Nat) (x2 : Int32) (x3 : Int32) (x4 : Int32) (x5 : Option Nat) (x6 : Int32) (y0 : Int32) (S : kS) : Prop := (∃ n9, it (ls_X6_leave_57 K) n9 (x0, x1, x3, x5, x6, y0, x2, x4, 0, S))
def wp_X6_leave_27 (K : kS → Prop) (x0 : Nat) (x1 : Nat) (x2 : Int32) (x3 : Int32) (x4 : Int32) (x5 : Option Nat) (y0 : Int32) (S : kS) : Prop := ((y0 = 0 → wp_X6_leave_45 K x0 x1 x2 x3 x4 x5 y0 (-1) S) ∧ (¬ y0 = 0 → ∃ q9 : Nat, x5 = some q9 ∧ hasO S q9 7 ∧ ∀ z10 : Option Nat, z10 = S.2.1 50 q9 → ∃ q11 : Nat, z10 = some q11 ∧ hasA S q11 460 0 ∧ inR x3 460 ∧ ∀ z12 : Int32, z12 = S.2.2.1 q11 (ix x3) → wp_X6_leave_45 K x0 x1 x2 x3 x4 (some q9) y0 z12 S))
def wp_X6_leave_22 (K : kS → Prop) (x0 : Nat) (x1 : Nat) (x2 : Int32) (x3 : Int32) (x4 : Int32) (x5 : Option Nat) (S : kS) : Prop := wp_X6_leave_27 K x0 x1 x2 x3 x4 x5 1 S
def wp_X6_leave (t0 : Nat) (a0 : Nat) (a1 : Int32) (a2 : Int32) (a3 : Int32) (S : kS) (K : kS → Prop) : Prop := hasO S t0 6 ∧ ∀ z1 : Option Nat, z1 = S.2.1 41 t0 → ∃ q2 : Nat, z1 = some q2 ∧ hasO S q2 1 ∧ ∀ z3 : Option Nat, z3 = S.2.1 2 q2 → ∃ q4 : Nat, z3 = some q4 ∧ hasO S q4 5 ∧ ∀ z5 : Option Nat, z5 = S.2.1 31 q4 → ((a1 = 1 → wp_X6_leave_22 K t0 a0 a1 a2 a3 z5 S) ∧ (¬ a1 = 1 → ((¬ a1 = 2 → wp_X6_leave_27 K t0 a0 a1 a2 a3 z5 0 S) ∧ (a1 = 2 → wp_X6_leave_22 K t0 a0 a1 a2 a3 z5 S))))
theorem cw_X6_171 {R : Room} {s : State} {args : Array Value} {fr lo : Nat} (hts : ∀ w ∈ tb, w.before args s = true) (h1 : fr + 1 ≤ R.frames) (h2 : 8 + (3 + 11) + lo ≤ R.locals) : CallW R s args RX6 RX7 171 yX7_is cX7_is 3 (some .boolean) (.code yX7_is cX7_is 3 (some .boolean) :: tb) (mRm fr lo) 0 0 2 := cwV 2 hts (gd_V wd_986 wd_819 wd_820 wd_14 wd_821) rfl rfl rfl (by decide +kernel) ⟨h1, h2⟩
theorem cw_X6_109 {R : Room} {s : State} {args : Array Value} {fr lo : Nat} (hts : ∀ w ∈ tb, w.before args s = true) (h1 : fr + 1 ≤ R.frames) (h2 : 8 + (4 + 11) + lo ≤ R.locals) : CallW R s args RX6 RX6 109 yX6_end cX6_end 4 none (.code yX6_end cX6_end 4 none :: tb) (mRm fr lo) 0 0 3 := cwV 3 hts (gd_V wd_987 wd_989 sl_X6_end wd_12 wd_990) rfl rfl rfl (by decide +kernel) ⟨h1, h2⟩
set_option maxHeartbeats 4000000 in
set_option maxRecDepth 100000 in
theorem kt_X6_leave (l : Launch) (S : kS) (t0 : Nat) (a0 : Nat) (a1 : Int32) (a2 : Int32) (a3 : Int32) (K : kS → Prop) (h : wp_X6_leave t0 a0 a1 a2 a3 S K) : kMv l yX6_leave cX6_leave 14 none 1 23 [.ref t0, .ref a0, .int a1, .int a2, .int a3] S K := by
  refine kv_ofv (own := RX6) (by decide) rfl (Nat.le_of_ble_eq_true rfl) ?_
  intro E p e R s m args below meth c A ls Q hRf hRl hX hC hl hret
  have hx := hX.1.1
  have hb := hX.1.2.1
  have hown := hX.1.2.2.2.1
  have hts := hX.1.2.2.2.2
  have cut295 : ∀ (y0 : Nat) (y1 : Nat) (y2 : Int32) (S : kS) (H : Heap) (locs : List Loc) (ls : Array Slot), wp_X6_leave_295 K y0 y1 y2 S → cM E A s.heap S H locs → lv_has ls 14 [] → W p l e R s m args below meth c H locs 0 0 Q (F0 m 295 ls [.int y2, .ref y1, .ref y0]) := by
    intro y0 y1 y2 S H locs ls h hC hl
    unfold wp_X6_leave_295 at h
    refine lv_iconst (v := 0) hx hb dX6_leave_295 (by decide) ?_
    refine kv_callv [.ref y1, .int y2, .int 0] (rest := []) (ci := 6) rfl hX hC h.1 (kt_X6_end l S y0 y1 y2 0 _ h.2 E _) (cw_X6_109 hts (by omega) (by omega)) rfl hl.1 (Nat.le_of_ble_eq_true rfl) ⟨Nat.zero_le _, Nat.zero_le _⟩ dX6_leave_296 (fun S68 H locs hC h => ?_)
    exact hret _ _ _ _ _ hC h dX6_leave_299
  have cut230 : ∀ (x0 : Nat) (x1 : Nat) (x3 : Int32) (x5 : Option Nat) (x6 : Int32) (x8 : Int32) (S : kS) (H : Heap) (locs : List Loc) (ls : Array Slot), wp_X6_leave_230 K x0 x1 x3 x5 x6 x8 S → cM E A s.heap S H locs → lv_has ls 14 [(0, .ref x0), (1, .ref x1), (3, .int x3), (5, va_rf x5), (6, .int x6), (8, .int x8)] → W p l e R s m args below meth c H locs 0 0 Q (F0 m 230 ls []) := by
    intro x0 x1 x3 x5 x6 x8 S H locs ls h hC hl
    unfold wp_X6_leave_230 at h
    refine lv_iload hx hb dX6_leave_230 (lv_at hl 4 rfl) ?_
    refine lv_if_eq (tgt := 265) hx hb dX6_leave_232 (by decide) (fun c53 => ?_) (fun c53 => ?_)
    · have h := h.1 c53
      refine lv_iload hx hb dX6_leave_265 (lv_at hl 5 rfl) ?_
      refine lv_iconst (v := 3) hx hb dX6_leave_267 (by decide) ?_
      refine lv_icmp_ne (tgt := 281) hx hb dX6_leave_268 (by decide) (fun c54 => ?_) (fun c54 => ?_)
      · have h := h.1 c54
        refine lv_aload_n hx hb dX6_leave_281 rfl (lv_at hl 0 rfl) ?_
        refine lv_aload_n hx hb dX6_leave_282 rfl (lv_at hl 1 rfl) ?_
        refine lv_iload hx hb dX6_leave_283 (lv_at hl 5 rfl) ?_
        refine lv_iconst (v := 5) hx hb dX6_leave_285 (by decide) ?_
        refine lv_icmp_ne (tgt := 294) hx hb dX6_leave_286 (by decide) (fun c55 => ?_) (fun c55 => ?_)
        · have h := h.1 c55
          refine lv_iload_n hx hb dX6_leave_294 rfl (lv_at hl 2 rfl) ?_
          exact cut295 x0 x1 x3 S _ _ _ h hC (lv_sub hl [] rfl)
        · have h := h.2 c55
          refine lv_bipush (v := 22) hx hb dX6_leave_289 (by decide) ?_
          refine lv_goto (tgt := 295) hx hb dX6_leave_291 (by decide) ?_
          exact cut295 x0 x1 22 S _ _ _ h hC (lv_sub hl [] rfl)
      · have h := h.2 c54
        refine lv_aload_n hx hb dX6_leave_271 rfl (lv_at hl 0 rfl) ?_
        refine lv_aload_n hx hb dX6_leave_272 rfl (lv_at hl 1 rfl) ?_
        refine lv_iconst (v := 0) hx hb dX6_leave_273 (by decide) ?_
        refine lv_iload_n hx hb dX6_leave_274 rfl (lv_at hl 2 rfl) ?_
        refine kv_callv [.ref x1, .int 0, .int x3] (rest := []) (ci := 6) rfl hX hC h.1 (kt_X6_end l S x0 x1 0 x3 _ h.2 E _) (cw_X6_109 hts (by omega) (by omega)) rfl hl.1 (Nat.le_of_ble_eq_true rfl) ⟨Nat.zero_le _, Nat.zero_le _⟩ dX6_leave_275 (fun S56 H locs hC h => ?_)
        refine lv_goto (tgt := 299) hx hb dX6_leave_278 (by decide) ?_
        exact hret _ _ _ _ _ hC h dX6_leave_299
    · have h := h.2 c53
      refine lv_aload_n hx hb dX6_leave_235 rfl (lv_at hl 1 rfl) ?_
      refine lv_iload hx hb dX6_leave_236 (lv_at hl 5 rfl) ?_
      refine lv_iconst (v := 1) hx hb dX6_leave_238 (by decide) ?_
      refine lv_icmp_ne (tgt := 252) hx hb dX6_leave_239 (by decide) (fun c57 => ?_) (fun c57 => ?_)
      · have h := h.1 c57
        refine lo_aload hx hb dX6_leave_252 (lv_at hl 3 rfl) ?_
        obtain ⟨q58, e9, hh⟩ := h
        subst e9
        have h := hh
        clear hh
        refine cq_getr (ci := 7) (k := 10) (f := 51) hX hC rfl in_X7 (by decide) wd_366 (fun _ h9 => h9) (fun _ _ => rfl) dX6_leave_254 h (fun z59 h => ?_)
        refine lv_iload_n hx hb dX6_leave_257 rfl (lv_at hl 2 rfl) ?_
        obtain ⟨q60, e9, hh⟩ := h
        subst e9
        have h := hh
        clear hh
        refine cq_ild hX hC dX6_leave_258 h (fun z61 h => ?_)
        refine cq_puti (v := z61) (ci := 9) (k := 10) (f := 36) hX hC rfl in_X9 (by decide) wd_890 (fun _ h9 => h9) tyX9 tyX9_ok nmX9 rfl rfl rfl (fun _ _ => Nat.le_of_ble_eq_true rfl) (fun _ _ _ => rfl) dX6_leave_259 h.1 h.2 (fun S62 H locs hC h => ?_)
        refine lv_goto (tgt := 299) hx hb dX6_leave_262 (by decide) ?_
        exact hret _ _ _ _ _ hC h dX6_leave_299
      · have h := h.2 c57
        refine lo_aload hx hb dX6_leave_242 (lv_at hl 3 rfl) ?_
        obtain ⟨q63, e9, hh⟩ := h
        subst e9
        have h := hh
        clear hh
        refine cq_getr (ci := 7) (k := 11) (f := 52) hX hC rfl in_X7 (by decide) wd_368 (fun _ h9 => h9) (fun _ _ => rfl) dX6_leave_244 h (fun z64 h => ?_)
        refine lv_iload_n hx hb dX6_leave_247 rfl (lv_at hl 2 rfl) ?_
        obtain ⟨q65, e9, hh⟩ := h
        subst e9
        have h := hh
        clear hh
        refine cq_ild hX hC dX6_leave_248 h (fun z66 h => ?_)
        refine lv_goto (tgt := 259) hx hb dX6_leave_249 (by decide) ?_
        refine cq_puti (v := z66) (ci := 9) (k := 10) (f := 36) hX hC rfl in_X9 (by decide) wd_890 (fun _ h9 => h9) tyX9 tyX9_ok nmX9 rfl rfl rfl (fun _ _ => Nat.le_of_ble_eq_true rfl) (fun _ _ _ => rfl) dX6_leave_259 h.1 h.2 (fun S67 H locs hC h => ?_)
        refine lv_goto (tgt := 299) hx hb dX6_leave_262 (by decide) ?_
        exact hret _ _ _ _ _ hC h dX6_leave_299
  have cut57 : ∀ (n57 : Nat) (x0 : Nat) (x1 : Nat) (x3 : Int32) (x5 : Option Nat) (x6 : Int32) (x7 : Int32) (x8 : Int32) (x9 : Int32) (x10 : Int32) (S : kS) (H : Heap) (locs : List Loc) (ls : Array Slot), it (ls_X6_leave_57 K) n57 (x0, x1, x3, x5, x6, x7, x8, x9, x10, S) → cM E A s.heap S H locs → lv_has ls 14 [(0, .ref x0), (1, .ref x1), (3, .int x3), (5, va_rf x5), (6, .int x6), (7, .int x7), (8, .int x8), (9, .int x9), (10, .int x10)] → W p l e R s m args below meth c H locs 0 0 Q (F0 m 57 ls []) := by
    intro n57
    induction n57 with
    | zero => intro x0 x1 x3 x5 x6 x7 x8 x9 x10 S H locs ls h hC hl; exact h.elim
    | succ n57 ih57 =>
      have cut214 : ∀ (x0 : Nat) (x1 : Nat) (x3 : Int32) (x5 : Nat) (x6 : Int32) (x7 : Int32) (x8 : Int32) (x10 : Int32) (x11 : Int32) (S : kS) (H : Heap) (locs : List Loc) (ls : Array Slot), wp_X6_leave_214 K (it (ls_X6_leave_57 K) n57) x0 x1 x3 x5 x6 x7 x8 x10 x11 S → cM E A s.heap S H locs → lv_has ls 14 [(0, .ref x0), (1, .ref x1), (3, .int x3), (5, .ref x5), (6, .int x6), (7, .int x7), (8, .int x8), (10, .int x10), (11, .int x11)] → W p l e R s m args below meth c H locs 0 0 Q (F0 m 214 ls []) := by
        intro x0 x1 x3 x5 x6 x7 x8 x10 x11 S H locs ls h hC hl
        unfold wp_X6_leave_214 at h
        refine lv_aload hx hb dX6_leave_214 (lv_at hl 3 rfl) ?_
        refine cq_getr (ci := 7) (k := 1) (f := 43) hX hC rfl in_X7 (by decide) wd_344 (fun _ h9 => h9) (fun _ _ => rfl) dX6_leave_216 h (fun z37 h => ?_)
        refine lv_iload hx hb dX6_leave_219 (lv_at hl 8 rfl) ?_
        obtain ⟨q38, e9, hh⟩ := h
        subst e9
        have h := hh
        clear hh
        refine cq_ild hX hC dX6_leave_221 h (fun z39 h => ?_)
        refine lv_istore (lv' := [(9, .int z39), (0, .ref x0), (1, .ref x1), (3, .int x3), (5, .ref x5), (6, .int x6), (7, .int x7), (8, .int x8), (10, .int x10), (11, .int x11)]) hx hb dX6_leave_222 hl (by decide) rfl (fun ls hl => ?_)
        obtain ⟨z40, ez40⟩ : ∃ y : Int32, y = x10 + 1 := ⟨_, rfl⟩
        have h := h z40 ez40
        refine lv_iinc (v := z40) (lv' := [(10, .int z40), (9, .int z39), (0, .ref x0), (1, .ref x1), (3, .int x3), (5, .ref x5), (6, .int x6), (7, .int x7), (8, .int x8), (11, .int x11)]) hx hb dX6_leave_224 hl (k := 8) rfl (by rw [ez40]; rfl) (by decide) rfl (fun ls hl => ?_)
        refine lv_goto (tgt := 57) hx hb dX6_leave_227 (by decide) ?_
        exact ih57 x0 x1 x3 (some x5) x6 x7 x8 z39 z40 S _ _ _ h hC (lv_sub hl [2, 3, 4, 5, 6, 7, 8, 1, 0] rfl)
      have cut173 : ∀ (x0 : Nat) (x1 : Nat) (x3 : Int32) (x5 : Nat) (x6 : Int32) (x7 : Int32) (x8 : Int32) (x10 : Int32) (x11 : Int32) (x13 : Int32) (S : kS) (H : Heap) (locs : List Loc) (ls : Array Slot), wp_X6_leave_173 K (it (ls_X6_leave_57 K) n57) x0 x1 x3 x5 x6 x7 x8 x10 x11 x13 S → cM E A s.heap S H locs → lv_has ls 14 [(0, .ref x0), (1, .ref x1), (3, .int x3), (5, .ref x5), (6, .int x6), (7, .int x7), (8, .int x8), (10, .int x10), (11, .int x11), (13, .int x13)] → W p l e R s m args below meth c H locs 0 0 Q (F0 m 173 ls []) := by
        intro x0 x1 x3 x5 x6 x7 x8 x10 x11 x13 S H locs ls h hC hl
        unfold wp_X6_leave_173 at h
        refine lv_aload hx hb dX6_leave_173 (lv_at hl 3 rfl) ?_
        refine lv_iload hx hb dX6_leave_175 (lv_at hl 8 rfl) ?_
        refine lv_iconst (v := 2) hx hb dX6_leave_177 (by decide) ?_
        refine kv_calli [.int x11, .int 2] (rest := []) (ci := 7) rfl hX hC h.1 (kt_X7_is l S x5 x11 2 _ h.2 E _) (cw_X6_171 hts (by omega) (by omega)) rfl hl.1 (Nat.le_of_ble_eq_true rfl) ⟨Nat.zero_le _, Nat.zero_le _⟩ dX6_leave_178 (fun r41 S41 H locs hC h => ?_)
        refine lv_if_eq (tgt := 214) hx hb dX6_leave_181 (by decide) (fun c42 => ?_) (fun c42 => ?_)
        · have h := h.1 c42
          exact cut214 x0 x1 x3 x5 x6 x7 x8 x10 x11 S41 _ _ _ h hC (lv_sub hl [0, 1, 2, 3, 4, 5, 6, 7, 8] rfl)
        · have h := h.2 c42
          refine lv_aload_n hx hb dX6_leave_184 rfl (lv_at hl 1 rfl) ?_
          refine cq_getr (ci := 9) (k := 12) (f := 59) hX hC rfl in_X9 (by decide) wd_895 (fun _ h9 => h9) (fun _ _ => rfl) dX6_leave_185 h (fun z43 h => ?_)
          refine lv_iload hx hb dX6_leave_188 (lv_at hl 9 rfl) ?_
          refine lv_iload hx hb dX6_leave_190 (lv_at hl 6 rfl) ?_
          obtain ⟨q44, e9, hh⟩ := h
          subst e9
          have h := hh
          clear hh
          refine cq_ist hX hC dX6_leave_192 h.1 h.2.1 h.2.2 (fun S45 H locs hC h => ?_)
          refine lv_aload_n hx hb dX6_leave_193 rfl (lv_at hl 1 rfl) ?_
          refine cq_getr (ci := 9) (k := 13) (f := 60) hX hC rfl in_X9 (by decide) wd_897 (fun _ h9 => h9) (fun _ _ => rfl) dX6_leave_194 h (fun z46 h => ?_)
          refine lv_iload hx hb dX6_leave_197 (lv_at hl 9 rfl) ?_
          refine lv_iload_n hx hb dX6_leave_199 rfl (lv_at hl 2 rfl) ?_
          obtain ⟨q47, e9, hh⟩ := h
          subst e9
          have h := hh
          clear hh
          refine cq_ist hX hC dX6_leave_200 h.1 h.2.1 h.2.2 (fun S48 H locs hC h => ?_)
          refine lv_aload_n hx hb dX6_leave_201 rfl (lv_at hl 1 rfl) ?_
          refine lv_aload hx hb dX6_leave_202 (lv_at hl 3 rfl) ?_
          refine cq_getr (ci := 7) (k := 5) (f := 47) hX hC rfl in_X7 (by decide) wd_354 (fun _ h9 => h9) (fun _ _ => rfl) dX6_leave_204 h (fun z49 h => ?_)
          refine lv_iload hx hb dX6_leave_207 (lv_at hl 8 rfl) ?_
          obtain ⟨q50, e9, hh⟩ := h
          subst e9
          have h := hh
          clear hh
          refine cq_ild hX hC dX6_leave_209 h (fun z51 h => ?_)
          refine cq_puti (v := z51) (ci := 9) (k := 10) (f := 36) hX hC rfl in_X9 (by decide) wd_890 (fun _ h9 => h9) tyX9 tyX9_ok nmX9 rfl rfl rfl (fun _ _ => Nat.le_of_ble_eq_true rfl) (fun _ _ _ => rfl) dX6_leave_210 h.1 h.2 (fun S52 H locs hC h => ?_)
          exact hret _ _ _ _ _ hC h dX6_leave_213
      have cut128 : ∀ (x0 : Nat) (x1 : Nat) (x3 : Int32) (x5 : Nat) (x6 : Int32) (x7 : Int32) (x10 : Int32) (x11 : Int32) (y0 : Int32) (S : kS) (H : Heap) (locs : List Loc) (ls : Array Slot), wp_X6_leave_128 K (it (ls_X6_leave_57 K) n57) x0 x1 x3 x5 x6 x7 x10 x11 y0 S → cM E A s.heap S H locs → lv_has ls 14 [(0, .ref x0), (1, .ref x1), (3, .int x3), (5, .ref x5), (6, .int x6), (7, .int x7), (10, .int x10), (11, .int x11)] → W p l e R s m args below meth c H locs 0 0 Q (F0 m 128 ls [.int y0]) := by
        intro x0 x1 x3 x5 x6 x7 x10 x11 y0 S H locs ls h hC hl
        unfold wp_X6_leave_128 at h
        refine lv_istore (lv' := [(8, .int y0), (0, .ref x0), (1, .ref x1), (3, .int x3), (5, .ref x5), (6, .int x6), (7, .int x7), (10, .int x10), (11, .int x11)]) hx hb dX6_leave_128 hl (by decide) rfl (fun ls hl => ?_)
        refine lv_goto (tgt := 214) hx hb dX6_leave_130 (by decide) ?_
        exact cut214 x0 x1 x3 x5 x6 x7 y0 x10 x11 S _ _ _ h hC (lv_sub hl [1, 2, 3, 4, 5, 6, 0, 7, 8] rfl)
      have cut126 : ∀ (x0 : Nat) (x1 : Nat) (x3 : Int32) (x5 : Nat) (x6 : Int32) (x7 : Int32) (x8 : Int32) (x10 : Int32) (x11 : Int32) (S : kS) (H : Heap) (locs : List Loc) (ls : Array Slot), wp_X6_leave_126 K (it (ls_X6_leave_57 K) n57) x0 x1 x3 x5 x6 x7 x8 x10 x11 S → cM E A s.heap S H locs → lv_has ls 14 [(0, .ref x0), (1, .ref x1), (3, .int x3), (5, .ref x5), (6, .int x6), (7, .int x7), (8, .int x8), (10, .int x10), (11, .int x11)] → W p l e R s m args below meth c H locs 0 0 Q (F0 m 126 ls []) := by
        intro x0 x1 x3 x5 x6 x7 x8 x10 x11 S H locs ls h hC hl
        unfold wp_X6_leave_126 at h
        refine lv_iload hx hb dX6_leave_126 (lv_at hl 6 rfl) ?_
        exact cut128 x0 x1 x3 x5 x6 x7 x10 x11 x8 S _ _ _ h hC (lv_sub hl [0, 1, 2, 3, 4, 5, 7, 8] rfl)
      intro x0 x1 x3 x5 x6 x7 x8 x9 x10 S H locs ls h hC hl
      have h : wp_X6_leave_57 K (it (ls_X6_leave_57 K) n57) x0 x1 x3 x5 x6 x7 x8 x9 x10 S := h
      unfold wp_X6_leave_57 at h
      refine lv_iload hx hb dX6_leave_57 (lv_at hl 8 rfl) ?_
      refine lv_sipush (v := 460) hx hb dX6_leave_59 (by decide) ?_
      refine lv_icmp_ge (tgt := 230) hx hb dX6_leave_62 (by decide) (fun c13 => ?_) (fun c13 => ?_)
      · have h := h.1 c13
        exact cut230 x0 x1 x3 x5 x6 x8 S _ _ _ h hC (lv_sub hl [0, 1, 2, 3, 4, 6] rfl)
      · have h := h.2 c13
        refine lv_iload hx hb dX6_leave_65 (lv_at hl 7 rfl) ?_
        refine lv_if_lt (tgt := 230) hx hb dX6_leave_67 (by decide) (fun c14 => ?_) (fun c14 => ?_)
        · have h := h.1 c14
          exact cut230 x0 x1 x3 x5 x6 x8 S _ _ _ h hC (lv_sub hl [0, 1, 2, 3, 4, 6] rfl)
        · have h := h.2 c14
          refine lv_iload hx hb dX6_leave_70 (lv_at hl 7 rfl) ?_
          refine lv_iload hx hb dX6_leave_72 (lv_at hl 5 rfl) ?_
          refine lv_icmp_eq (tgt := 230) hx hb dX6_leave_74 (by decide) (fun c15 => ?_) (fun c15 => ?_)
          · have h := h.1 c15
            exact cut230 x0 x1 x3 x5 x6 x8 S _ _ _ h hC (lv_sub hl [0, 1, 2, 3, 4, 6] rfl)
          · have h := h.2 c15
            refine lv_iload hx hb dX6_leave_77 (lv_at hl 7 rfl) ?_
            refine lv_iconst (v := 3) hx hb dX6_leave_79 (by decide) ?_
            refine lq_idiv hx hb dX6_leave_80 h (fun z16 h => ?_)
            refine lv_istore (lv' := [(11, .int z16), (0, .ref x0), (1, .ref x1), (3, .int x3), (5, va_rf x5), (6, .int x6), (7, .int x7), (8, .int x8), (9, .int x9), (10, .int x10)]) hx hb dX6_leave_81 hl (by decide) (by rcases x5 with _ | _ <;> rfl) (fun ls hl => ?_)
            refine lv_iload hx hb dX6_leave_83 (lv_at hl 8 rfl) ?_
            refine lv_iconst (v := 3) hx hb dX6_leave_85 (by decide) ?_
            refine lq_irem hx hb dX6_leave_86 h (fun z17 h => ?_)
            refine lv_istore (lv' := [(12, .int z17), (11, .int z16), (0, .ref x0), (1, .ref x1), (3, .int x3), (5, va_rf x5), (6, .int x6), (7, .int x7), (8, .int x8), (9, .int x9), (10, .int x10)]) hx hb dX6_leave_87 hl (by decide) (by rcases x5 with _ | _ <;> rfl) (fun ls hl => ?_)
            refine lo_aload hx hb dX6_leave_89 (lv_at hl 5 rfl) ?_
            obtain ⟨q18, e9, hh⟩ := h
            subst e9
            have h := hh
            clear hh
            refine cq_getr (ci := 7) (k := 2) (f := 44) hX hC rfl in_X7 (by decide) wd_346 (fun _ h9 => h9) (fun _ _ => rfl) dX6_leave_91 h (fun z19 h => ?_)
            refine lv_iload hx hb dX6_leave_94 (lv_at hl 1 rfl) ?_
            obtain ⟨q20, e9, hh⟩ := h
            subst e9
            have h := hh
            clear hh
            refine cq_ild hX hC dX6_leave_96 h (fun z21 h => ?_)
            refine lv_istore (lv' := [(13, .int z21), (12, .int z17), (11, .int z16), (0, .ref x0), (1, .ref x1), (3, .int x3), (5, .ref q18), (6, .int x6), (7, .int x7), (8, .int x8), (9, .int x9), (10, .int x10)]) hx hb dX6_leave_97 hl (by decide) rfl (fun ls hl => ?_)
            refine lv_iload hx hb dX6_leave_99 (lv_at hl 1 rfl) ?_
            refine lv_iconst (v := 2) hx hb dX6_leave_101 (by decide) ?_
            refine lv_icmp_ne (tgt := 133) hx hb dX6_leave_102 (by decide) (fun c22 => ?_) (fun c22 => ?_)
            · have h := h.1 c22
              refine lv_iload hx hb dX6_leave_133 (lv_at hl 9 rfl) ?_
              refine lv_iconst (v := 4) hx hb dX6_leave_135 (by decide) ?_
              refine lv_icmp_ne (tgt := 173) hx hb dX6_leave_136 (by decide) (fun c23 => ?_) (fun c23 => ?_)
              · have h := h.1 c23
                exact cut173 x0 x1 x3 q18 x6 x7 x8 x10 z16 z21 S _ _ _ h hC (lv_sub hl [3, 4, 5, 6, 7, 8, 9, 11, 2, 0] rfl)
              · have h := h.2 c23
                refine lv_iload hx hb dX6_leave_139 (lv_at hl 1 rfl) ?_
                refine lv_if_ne (tgt := 173) hx hb dX6_leave_141 (by decide) (fun c24 => ?_) (fun c24 => ?_)
                · have h := h.1 c24
                  exact cut173 x0 x1 x3 q18 x6 x7 x8 x10 z16 z21 S _ _ _ h hC (lv_sub hl [3, 4, 5, 6, 7, 8, 9, 11, 2, 0] rfl)
                · have h := h.2 c24
                  refine lv_aload hx hb dX6_leave_144 (lv_at hl 6 rfl) ?_
                  refine lv_iload hx hb dX6_leave_146 (lv_at hl 2 rfl) ?_
                  refine lv_iconst (v := 1) hx hb dX6_leave_148 (by decide) ?_
                  refine kv_calli [.int z16, .int 1] (rest := []) (ci := 7) rfl hX hC h.1 (kt_X7_is l S q18 z16 1 _ h.2 E _) (cw_X6_171 hts (by omega) (by omega)) rfl hl.1 (Nat.le_of_ble_eq_true rfl) ⟨Nat.zero_le _, Nat.zero_le _⟩ dX6_leave_149 (fun r25 S25 H locs hC h => ?_)
                  refine lv_if_eq (tgt := 173) hx hb dX6_leave_152 (by decide) (fun c26 => ?_) (fun c26 => ?_)
                  · have h := h.1 c26
                    exact cut173 x0 x1 x3 q18 x6 x7 x8 x10 z16 z21 S25 _ _ _ h hC (lv_sub hl [3, 4, 5, 6, 7, 8, 9, 11, 2, 0] rfl)
                  · have h := h.2 c26
                    refine lv_aload_n hx hb dX6_leave_155 rfl (lv_at hl 3 rfl) ?_
                    refine lv_iload_n hx hb dX6_leave_156 rfl (lv_at hl 5 rfl) ?_
                    refine cq_puti (v := x3) (ci := 6) (k := 7) (f := 23) hX hC rfl in_X6 (by decide) wd_311 (fun _ h9 => h9) tyX6 tyX6_ok nmX6 rfl rfl rfl (fun _ _ => Nat.le_of_ble_eq_true rfl) (fun _ _ _ => rfl) dX6_leave_157 h.1 h.2 (fun S27 H locs hC h => ?_)
                    refine lv_aload_n hx hb dX6_leave_160 rfl (lv_at hl 4 rfl) ?_
                    refine lv_aload hx hb dX6_leave_161 (lv_at hl 6 rfl) ?_
                    refine cq_getr (ci := 7) (k := 4) (f := 46) hX hC rfl in_X7 (by decide) wd_350 (fun _ h9 => h9) (fun _ _ => rfl) dX6_leave_163 h (fun z28 h => ?_)
                    refine lv_iload hx hb dX6_leave_166 (lv_at hl 2 rfl) ?_
                    obtain ⟨q29, e9, hh⟩ := h
                    subst e9
                    have h := hh
                    clear hh
                    refine cq_ild hX hC dX6_leave_168 h (fun z30 h => ?_)
                    refine cq_puti (v := z30) (ci := 9) (k := 10) (f := 36) hX hC rfl in_X9 (by decide) wd_890 (fun _ h9 => h9) tyX9 tyX9_ok nmX9 rfl rfl rfl (fun _ _ => Nat.le_of_ble_eq_true rfl) (fun _ _ _ => rfl) dX6_leave_169 h.1 h.2 (fun S31 H locs hC h => ?_)
                    exact hret _ _ _ _ _ hC h dX6_leave_172
            · have h := h.2 c22
              refine lv_iload hx hb dX6_leave_105 (lv_at hl 9 rfl) ?_
              refine lv_iconst (v := 4) hx hb dX6_leave_107 (by decide) ?_
              refine lv_icmp_ne (tgt := 126) hx hb dX6_leave_108 (by decide) (fun c32 => ?_) (fun c32 => ?_)
              · have h := h.1 c32
                exact cut126 x0 x1 x3 q18 x6 x7 x8 x10 z16 S _ _ _ h hC (lv_sub hl [3, 4, 5, 6, 7, 8, 9, 11, 2] rfl)
              · have h := h.2 c32
                refine lv_aload_n hx hb dX6_leave_111 rfl (lv_at hl 4 rfl) ?_
                refine cq_getr (ci := 9) (k := 12) (f := 59) hX hC rfl in_X9 (by decide) wd_895 (fun _ h9 => h9) (fun _ _ => rfl) dX6_leave_112 h (fun z33 h => ?_)
                refine lv_iload hx hb dX6_leave_115 (lv_at hl 0 rfl) ?_
                obtain ⟨q34, e9, hh⟩ := h
                subst e9
                have h := hh
                clear hh
                refine cq_ild hX hC dX6_leave_117 h (fun z35 h => ?_)
                refine lv_iconst (v := 5) hx hb dX6_leave_118 (by decide) ?_
                refine lv_icmp_ne (tgt := 126) hx hb dX6_leave_119 (by decide) (fun c36 => ?_) (fun c36 => ?_)
                · have h := h.1 c36
                  exact cut126 x0 x1 x3 q18 x6 x7 x8 x10 z16 S _ _ _ h hC (lv_sub hl [3, 4, 5, 6, 7, 8, 9, 11, 2] rfl)
                · have h := h.2 c36
                  refine lv_iconst (v := 5) hx hb dX6_leave_122 (by decide) ?_
                  refine lv_goto (tgt := 128) hx hb dX6_leave_123 (by decide) ?_
                  exact cut128 x0 x1 x3 q18 x6 x7 x10 z16 5 S _ _ _ h hC (lv_sub hl [3, 4, 5, 6, 7, 8, 11, 2] rfl)
  have cut45 : ∀ (x0 : Nat) (x1 : Nat) (x2 : Int32) (x3 : Int32) (x4 : Int32) (x5 : Option Nat) (x6 : Int32) (y0 : Int32) (S : kS) (H : Heap) (locs : List Loc) (ls : Array Slot), wp_X6_leave_45 K x0 x1 x2 x3 x4 x5 x6 y0 S → cM E A s.heap S H locs → lv_has ls 14 [(0, .ref x0), (1, .ref x1), (2, .int x2), (3, .int x3), (4, .int x4), (5, va_rf x5), (6, .int x6)] → W p l e R s m args below meth c H locs 0 0 Q (F0 m 45 ls [.int y0]) := by
    intro x0 x1 x2 x3 x4 x5 x6 y0 S H locs ls h hC hl
    unfold wp_X6_leave_45 at h
    refine lv_istore (lv' := [(7, .int y0), (0, .ref x0), (1, .ref x1), (2, .int x2), (3, .int x3), (4, .int x4), (5, va_rf x5), (6, .int x6)]) hx hb dX6_leave_45 hl (by decide) (by rcases x5 with _ | _ <;> rfl) (fun ls hl => ?_)
    refine lv_iload_n hx hb dX6_leave_47 rfl (lv_at hl 3 rfl) ?_
    refine lv_istore (lv' := [(8, .int x2), (7, .int y0), (0, .ref x0), (1, .ref x1), (2, .int x2), (3, .int x3), (4, .int x4), (5, va_rf x5), (6, .int x6)]) hx hb dX6_leave_48 hl (by decide) (by rcases x5 with _ | _ <;> rfl) (fun ls hl => ?_)
    refine lv_iload hx hb dX6_leave_50 (lv_at hl 6 rfl) ?_
    refine lv_istore (lv' := [(9, .int x4), (8, .int x2), (7, .int y0), (0, .ref x0), (1, .ref x1), (2, .int x2), (3, .int x3), (4, .int x4), (5, va_rf x5), (6, .int x6)]) hx hb dX6_leave_52 hl (by decide) (by rcases x5 with _ | _ <;> rfl) (fun ls hl => ?_)
    refine lv_iconst (v := 0) hx hb dX6_leave_54 (by decide) ?_
    refine lv_istore (lv' := [(10, .int 0), (9, .int x4), (8, .int x2), (7, .int y0), (0, .ref x0), (1, .ref x1), (2, .int x2), (3, .int x3), (4, .int x4), (5, va_rf x5), (6, .int x6)]) hx hb dX6_leave_55 hl (by decide) (by rcases x5 with _ | _ <;> rfl) (fun ls hl => ?_)
    obtain ⟨n9, h⟩ := h
    exact cut57 n9 x0 x1 x3 x5 x6 y0 x2 x4 0 S _ _ _ h hC (lv_sub hl [4, 5, 7, 9, 10, 3, 2, 1, 0] rfl)
  have cut27 : ∀ (x0 : Nat) (x1 : Nat) (x2 : Int32) (x3 : Int32) (x4 : Int32) (x5 : Option Nat) (y0 : Int32) (S : kS) (H : Heap) (locs : List Loc) (ls : Array Slot), wp_X6_leave_27 K x0 x1 x2 x3 x4 x5 y0 S → cM E A s.heap S H locs → lv_has ls 14 [(0, .ref x0), (1, .ref x1), (2, .int x2), (3, .int x3), (4, .int x4), (5, va_rf x5)] → W p l e R s m args below meth c H locs 0 0 Q (F0 m 27 ls [.int y0]) := by
    intro x0 x1 x2 x3 x4 x5 y0 S H locs ls h hC hl
    unfold wp_X6_leave_27 at h
    refine lv_istore (lv' := [(6, .int y0), (0, .ref x0), (1, .ref x1), (2, .int x2), (3, .int x3), (4, .int x4), (5, va_rf x5)]) hx hb dX6_leave_27 hl (by decide) (by rcases x5 with _ | _ <;> rfl) (fun ls hl => ?_)
    refine lv_iload hx hb dX6_leave_29 (lv_at hl 0 rfl) ?_
    refine lv_if_eq (tgt := 44) hx hb dX6_leave_31 (by decide) (fun c8 => ?_) (fun c8 => ?_)
    · have h := h.1 c8
      refine lv_iconst (v := -1) hx hb dX6_leave_44 (by decide) ?_
      exact cut45 x0 x1 x2 x3 x4 x5 y0 (-1) S _ _ _ h hC (lv_sub hl [1, 2, 3, 4, 5, 6, 0] rfl)
    · have h := h.2 c8
      refine lo_aload hx hb dX6_leave_34 (lv_at hl 6 rfl) ?_
      obtain ⟨q9, e9, hh⟩ := h
      subst e9
      have h := hh
      clear hh
      refine cq_getr (ci := 7) (k := 9) (f := 50) hX hC rfl in_X7 (by decide) wd_363 (fun _ h9 => h9) (fun _ _ => rfl) dX6_leave_36 h (fun z10 h => ?_)
      refine lv_iload_n hx hb dX6_leave_39 rfl (lv_at hl 4 rfl) ?_
      obtain ⟨q11, e9, hh⟩ := h
      subst e9
      have h := hh
      clear hh
      refine cq_ild hX hC dX6_leave_40 h (fun z12 h => ?_)
      refine lv_goto (tgt := 45) hx hb dX6_leave_41 (by decide) ?_
      exact cut45 x0 x1 x2 x3 x4 (some q9) y0 z12 S _ _ _ h hC (lv_sub hl [1, 2, 3, 4, 5, 6, 0] rfl)
  have cut22 : ∀ (x0 : Nat) (x1 : Nat) (x2 : Int32) (x3 : Int32) (x4 : Int32) (x5 : Option Nat) (S : kS) (H : Heap) (locs : List Loc) (ls : Array Slot), wp_X6_leave_22 K x0 x1 x2 x3 x4 x5 S → cM E A s.heap S H locs → lv_has ls 14 [(0, .ref x0), (1, .ref x1), (2, .int x2), (3, .int x3), (4, .int x4), (5, va_rf x5)] → W p l e R s m args below meth c H locs 0 0 Q (F0 m 22 ls []) := by
    intro x0 x1 x2 x3 x4 x5 S H locs ls h hC hl
    unfold wp_X6_leave_22 at h
    refine lv_iconst (v := 1) hx hb dX6_leave_22 (by decide) ?_
    refine lv_goto (tgt := 27) hx hb dX6_leave_23 (by decide) ?_
    exact cut27 x0 x1 x2 x3 x4 x5 1 S _ _ _ h hC (lv_sub hl [0, 1, 2, 3, 4, 5] rfl)
  have hl : lv_has ls 14 [(0, .ref t0), (1, .ref a0), (2, .int a1), (3, .int a2), (4, .int a3)] := hl
  unfold wp_X6_leave at h
  refine lv_aload_n hx hb dX6_leave_0 rfl (lv_at hl 0 rfl) ?_
  refine cq_getr (ci := 6) (k := 3) (f := 41) hX hC rfl in_X6 (by decide) wd_307 (fun _ h9 => h9) (fun _ _ => rfl) dX6_leave_1 h (fun z1 h => ?_)
  obtain ⟨q2, e9, hh⟩ := h
  subst e9
  have h := hh
  clear hh
  refine cq_getr (ci := 1) (k := 0) (f := 2) hX hC rfl in_X1 (by decide) wd_234 (fun _ h9 => h9) (fun _ _ => rfl) dX6_leave_4 h (fun z3 h => ?_)
  obtain ⟨q4, e9, hh⟩ := h
  subst e9
  have h := hh
  clear hh
  refine cq_getr (ci := 5) (k := 4) (f := 31) hX hC rfl in_X5 (by decide) wd_412 (fun _ h9 => h9) (fun _ _ => rfl) dX6_leave_7 h (fun z5 h => ?_)
  refine lo_astore (lv' := [(5, va_rf z5), (0, .ref t0), (1, .ref a0), (2, .int a1), (3, .int a2), (4, .int a3)]) hx hb dX6_leave_10 hl (by decide) (by rcases z5 with _ | _ <;> rfl) (fun ls hl => ?_)
  refine lv_iload_n hx hb dX6_leave_12 rfl (lv_at hl 3 rfl) ?_
  refine lv_iconst (v := 1) hx hb dX6_leave_13 (by decide) ?_
  refine lv_icmp_eq (tgt := 22) hx hb dX6_leave_14 (by decide) (fun c6 => ?_) (fun c6 => ?_)
  · have h := h.1 c6
    exact cut22 t0 a0 a1 a2 a3 z5 S _ _ _ h hC (lv_sub hl [1, 2, 3, 4, 5, 0] rfl)
  · have h := h.2 c6
    refine lv_iload_n hx hb dX6_leave_17 rfl (lv_at hl 3 rfl) ?_
    refine lv_iconst (v := 2) hx hb dX6_leave_18 (by decide) ?_
    refine lv_icmp_ne (tgt := 26) hx hb dX6_leave_19 (by decide) (fun c7 => ?_) (fun c7 => ?_)
    · have h := h.1 c7
      refine lv_iconst (v := 0) hx hb dX6_leave_26 (by decide) ?_
      exact cut27 t0 a0 a1 a2 a3 z5 0 S _ _ _ h hC (lv_sub hl [1, 2, 3, 4, 5, 0] rfl)
    · have h := h.2 c7
      exact cut22 t0 a0 a1 a2 a3 z5 S _ _ _ h hC (lv_sub hl [1, 2, 3, 4, 5, 0] rfl)
def wp_X6_fail (t0 : Nat) (a0 : Nat) (a1 : Int32) (a2 : Int32) (S : kS) (K : kS → Prop) : Prop := hasO S a0 9 ∧ ∀ z1 : Int32, z1 = S.1 30 a0 → ((¬ z1 = 5 → hasO S t0 6 ∧ ∀ z3 : Option Nat, z3 = S.2.1 41 t0 → ∃ q4 : Nat, z3 = some q4 ∧ hasO S q4 1 ∧ ∀ z5 : Option Nat, z5 = S.2.1 2 q4 → ∃ q6 : Nat, z5 = some q6 ∧ hasO S q6 5 ∧ ∀ z7 : Option Nat, z7 = S.2.1 30 q6 → ∃ q8 : Nat, z7 = some q8 ∧ hasA S q8 8064 0 ∧ inR a2 8064 ∧ ∀ z9 : Int32, z9 = S.2.2.1 q8 (ix a2) → hasO S t0 6 ∧ wp_X6_leave t0 a0 4 a1 z9 S (fun (S10 : kS) => K S10)) ∧ (z1 = 5 → hasO S a0 9 ∧ ∀ S11 : kS, S11 = cI S 36 a0 a2 → hasO S11 t0 6 ∧ ∀ S12 : kS, S12 = cI S11 23 t0 a1 → hasO S12 t0 6 ∧ ∀ S13 : kS, S13 = cI S12 22 t0 2 → K S13))
theorem cw_X6_102 {R : Room} {s : State} {args : Array Value} {fr lo : Nat} (hts : ∀ w ∈ tb, w.before args s = true) (h1 : fr + 1 ≤ R.frames) (h2 : 8 + (14 + 11) + lo ≤ R.locals) : CallW R s args RX6 RX6 102 yX6_leave cX6_leave 14 none (.code yX6_leave cX6_leave 14 none :: tb) (mRm fr lo) 0 0 4 := cwV 4 hts (gd_V wd_982 wd_984 sl_X6_leave wd_12 wd_985) rfl rfl rfl (by decide +kernel) ⟨h1, h2⟩
set_option maxHeartbeats 4000000 in
set_option maxRecDepth 100000 in
theorem kt_X6_fail (l : Launch) (S : kS) (t0 : Nat) (a0 : Nat) (a1 : Int32) (a2 : Int32) (K : kS → Prop) (h : wp_X6_fail t0 a0 a1 a2 S K) : kMv l yX6_fail cX6_fail 4 none 2 56 [.ref t0, .ref a0, .int a1, .int a2] S K := by
  refine kv_ofv (own := RX6) (by decide) rfl (Nat.le_of_ble_eq_true rfl) ?_
  intro E p e R s m args below meth c A ls Q hRf hRl hX hC hl hret
  have hx := hX.1.1
  have hb := hX.1.2.1
  have hown := hX.1.2.2.2.1
  have hts := hX.1.2.2.2.2
  have hl : lv_has ls 4 [(0, .ref t0), (1, .ref a0), (2, .int a1), (3, .int a2)] := hl
  unfold wp_X6_fail at h
  refine lv_aload_n hx hb dX6_fail_0 rfl (lv_at hl 1 rfl) ?_
  refine cq_geti (ci := 9) (k := 4) (f := 30) hX hC rfl in_X9 (by decide) wd_873 (fun _ h9 => h9) (fun _ _ => rfl) dX6_fail_1 h (fun z1 h => ?_)
  refine lv_iconst (v := 5) hx hb dX6_fail_4 (by decide) ?_
  refine lv_icmp_ne (tgt := 26) hx hb dX6_fail_5 (by decide) (fun c2 => ?_) (fun c2 => ?_)
  · have h := h.1 c2
    refine lv_aload_n hx hb dX6_fail_26 rfl (lv_at hl 0 rfl) ?_
    refine lv_aload_n hx hb dX6_fail_27 rfl (lv_at hl 1 rfl) ?_
    refine lv_iconst (v := 4) hx hb dX6_fail_28 (by decide) ?_
    refine lv_iload_n hx hb dX6_fail_29 rfl (lv_at hl 2 rfl) ?_
    refine lv_aload_n hx hb dX6_fail_30 rfl (lv_at hl 0 rfl) ?_
    refine cq_getr (ci := 6) (k := 3) (f := 41) hX hC rfl in_X6 (by decide) wd_307 (fun _ h9 => h9) (fun _ _ => rfl) dX6_fail_31 h (fun z3 h => ?_)
    obtain ⟨q4, e9, hh⟩ := h
    subst e9
    have h := hh
    clear hh
    refine cq_getr (ci := 1) (k := 0) (f := 2) hX hC rfl in_X1 (by decide) wd_234 (fun _ h9 => h9) (fun _ _ => rfl) dX6_fail_34 h (fun z5 h => ?_)
    obtain ⟨q6, e9, hh⟩ := h
    subst e9
    have h := hh
    clear hh
    refine cq_getr (ci := 5) (k := 3) (f := 30) hX hC rfl in_X5 (by decide) wd_408 (fun _ h9 => h9) (fun _ _ => rfl) dX6_fail_37 h (fun z7 h => ?_)
    refine lv_iload_n hx hb dX6_fail_40 rfl (lv_at hl 3 rfl) ?_
    obtain ⟨q8, e9, hh⟩ := h
    subst e9
    have h := hh
    clear hh
    refine cq_ild hX hC dX6_fail_41 h (fun z9 h => ?_)
    refine kv_callv [.ref a0, .int 4, .int a1, .int z9] (rest := []) (ci := 6) rfl hX hC h.1 (kt_X6_leave l S t0 a0 4 a1 z9 _ h.2 E _) (cw_X6_102 hts (by omega) (by omega)) rfl hl.1 (Nat.le_of_ble_eq_true rfl) ⟨Nat.zero_le _, Nat.zero_le _⟩ dX6_fail_42 (fun S10 H locs hC h => ?_)
    exact hret _ _ _ _ _ hC h dX6_fail_45
  · have h := h.2 c2
    refine lv_aload_n hx hb dX6_fail_8 rfl (lv_at hl 1 rfl) ?_
    refine lv_iload_n hx hb dX6_fail_9 rfl (lv_at hl 3 rfl) ?_
    refine cq_puti (v := a2) (ci := 9) (k := 10) (f := 36) hX hC rfl in_X9 (by decide) wd_890 (fun _ h9 => h9) tyX9 tyX9_ok nmX9 rfl rfl rfl (fun _ _ => Nat.le_of_ble_eq_true rfl) (fun _ _ _ => rfl) dX6_fail_10 h.1 h.2 (fun S11 H locs hC h => ?_)
    refine lv_aload_n hx hb dX6_fail_13 rfl (lv_at hl 0 rfl) ?_
    refine lv_iload_n hx hb dX6_fail_14 rfl (lv_at hl 2 rfl) ?_
    refine cq_puti (v := a1) (ci := 6) (k := 7) (f := 23) hX hC rfl in_X6 (by decide) wd_311 (fun _ h9 => h9) tyX6 tyX6_ok nmX6 rfl rfl rfl (fun _ _ => Nat.le_of_ble_eq_true rfl) (fun _ _ _ => rfl) dX6_fail_15 h.1 h.2 (fun S12 H locs hC h => ?_)
    refine lv_aload_n hx hb dX6_fail_18 rfl (lv_at hl 0 rfl) ?_
    refine lv_iconst (v := 2) hx hb dX6_fail_19 (by decide) ?_
    refine cq_puti (v := 2) (ci := 6) (k := 6) (f := 22) hX hC rfl in_X6 (by decide) wd_310 (fun _ h9 => h9) tyX6 tyX6_ok nmX6 rfl rfl rfl (fun _ _ => Nat.le_of_ble_eq_true rfl) (fun _ _ _ => rfl) dX6_fail_20 h.1 h.2 (fun S13 H locs hC h => ?_)
    refine lv_goto (tgt := 45) hx hb dX6_fail_23 (by decide) ?_
    exact hret _ _ _ _ _ hC h dX6_fail_45
def wp_X6_finishEnd (t0 : Nat) (a0 : Nat) (a1 : Int32) (S : kS) (K : kS → Prop) : Prop := hasO S t0 6 ∧ ∀ z1 : Option Nat, z1 = S.2.1 41 t0 → ∃ q2 : Nat, z1 = some q2 ∧ hasO S q2 1 ∧ ∀ z3 : Option Nat, z3 = S.2.1 2 q2 → ∃ q4 : Nat, z3 = some q4 ∧ hasO S q4 5 ∧ ∀ z5 : Option Nat, z5 = S.2.1 31 q4 → ∃ q6 : Nat, z5 = some q6 ∧ hasO S q6 7 ∧ ∀ z7 : Option Nat, z7 = S.2.1 44 q6 → ∃ q8 : Nat, z7 = some q8 ∧ hasA S q8 460 0 ∧ inR a1 460 ∧ ∀ z9 : Int32, z9 = S.2.2.1 q8 (ix a1) → hasO S a0 9 ∧ ∀ z10 : Option Nat, z10 = S.2.1 59 a0 → ∃ q11 : Nat, z10 = some q11 ∧ hasA S q11 10 0 ∧ inR z9 10 ∧ ∀ z12 : Int32, z12 = S.2.2.1 q11 (ix z9) → ((¬ z12 = 0 → hasO S a0 9 ∧ ∀ z14 : Option Nat, z14 = S.2.1 59 a0 → ∃ q15 : Nat, z14 = some q15 ∧ hasA S q15 10 0 ∧ inR z9 10 ∧ ∀ z16 : Int32, z16 = S.2.2.1 q15 (ix z9) → hasO S a0 9 ∧ ∀ z17 : Option Nat, z17 = S.2.1 60 a0 → ∃ q18 : Nat, z17 = some q18 ∧ hasA S q18 10 0 ∧ inR z9 10 ∧ ∀ z19 : Int32, z19 = S.2.2.1 q18 (ix z9) → hasO S q6 7 ∧ ∀ z20 : Option Nat, z20 = S.2.1 43 q6 → ∃ q21 : Nat, z20 = some q21 ∧ hasA S q21 460 0 ∧ inR a1 460 ∧ ∀ z22 : Int32, z22 = S.2.2.1 q21 (ix a1) → hasO S t0 6 ∧ wp_X6_leave t0 a0 z16 z19 z22 S (fun (S23 : kS) => K S23)) ∧ (z12 = 0 → hasO S q6 7 ∧ ∀ z24 : Option Nat, z24 = S.2.1 48 q6 → ∃ q25 : Nat, z24 = some q25 ∧ hasA S q25 460 0 ∧ inR a1 460 ∧ ∀ z26 : Int32, z26 = S.2.2.1 q25 (ix a1) → hasO S a0 9 ∧ ∀ S27 : kS, S27 = cI S 36 a0 z26 → K S27))
set_option maxHeartbeats 4000000 in
set_option maxRecDepth 100000 in
theorem kt_X6_finishEnd (l : Launch) (S : kS) (t0 : Nat) (a0 : Nat) (a1 : Int32) (K : kS → Prop) (h : wp_X6_finishEnd t0 a0 a1 S K) : kMv l yX6_finishEnd cX6_finishEnd 5 none 2 56 [.ref t0, .ref a0, .int a1] S K := by
  refine kv_ofv (own := RX6) (by decide) rfl (Nat.le_of_ble_eq_true rfl) ?_
  intro E p e R s m args below meth c A ls Q hRf hRl hX hC hl hret
  have hx := hX.1.1
  have hb := hX.1.2.1
  have hown := hX.1.2.2.2.1
  have hts := hX.1.2.2.2.2
  have hl : lv_has ls 5 [(0, .ref t0), (1, .ref a0), (2, .int a1)] := hl
  unfold wp_X6_finishEnd at h
  refine lv_aload_n hx hb dX6_finishEnd_0 rfl (lv_at hl 0 rfl) ?_
  refine cq_getr (ci := 6) (k := 3) (f := 41) hX hC rfl in_X6 (by decide) wd_307 (fun _ h9 => h9) (fun _ _ => rfl) dX6_finishEnd_1 h (fun z1 h => ?_)
  obtain ⟨q2, e9, hh⟩ := h
  subst e9
  have h := hh
  clear hh
  refine cq_getr (ci := 1) (k := 0) (f := 2) hX hC rfl in_X1 (by decide) wd_234 (fun _ h9 => h9) (fun _ _ => rfl) dX6_finishEnd_4 h (fun z3 h => ?_)
  obtain ⟨q4, e9, hh⟩ := h
  subst e9
  have h := hh
  clear hh
  refine cq_getr (ci := 5) (k := 4) (f := 31) hX hC rfl in_X5 (by decide) wd_412 (fun _ h9 => h9) (fun _ _ => rfl) dX6_finishEnd_7 h (fun z5 h => ?_)
  refine lo_astore_n (lv' := [(3, va_rf z5), (0, .ref t0), (1, .ref a0), (2, .int a1)]) hx hb dX6_finishEnd_10 rfl hl (by decide) (by rcases z5 with _ | _ <;> rfl) (fun ls hl => ?_)
  refine lo_aload_n hx hb dX6_finishEnd_11 rfl (lv_at hl 0 rfl) ?_
  obtain ⟨q6, e9, hh⟩ := h
  subst e9
  have h := hh
  clear hh
  refine cq_getr (ci := 7) (k := 2) (f := 44) hX hC rfl in_X7 (by decide) wd_346 (fun _ h9 => h9) (fun _ _ => rfl) dX6_finishEnd_12 h (fun z7 h => ?_)
  refine lv_iload_n hx hb dX6_finishEnd_15 rfl (lv_at hl 3 rfl) ?_
  obtain ⟨q8, e9, hh⟩ := h
  subst e9
  have h := hh
  clear hh
  refine cq_ild hX hC dX6_finishEnd_16 h (fun z9 h => ?_)
  refine lv_istore (lv' := [(4, .int z9), (3, .ref q6), (0, .ref t0), (1, .ref a0), (2, .int a1)]) hx hb dX6_finishEnd_17 hl (by decide) rfl (fun ls hl => ?_)
  refine lv_aload_n hx hb dX6_finishEnd_19 rfl (lv_at hl 3 rfl) ?_
  refine cq_getr (ci := 9) (k := 12) (f := 59) hX hC rfl in_X9 (by decide) wd_895 (fun _ h9 => h9) (fun _ _ => rfl) dX6_finishEnd_20 h (fun z10 h => ?_)
  refine lv_iload hx hb dX6_finishEnd_23 (lv_at hl 0 rfl) ?_
  obtain ⟨q11, e9, hh⟩ := h
  subst e9
  have h := hh
  clear hh
  refine cq_ild hX hC dX6_finishEnd_25 h (fun z12 h => ?_)
  refine lv_if_ne (tgt := 42) hx hb dX6_finishEnd_26 (by decide) (fun c13 => ?_) (fun c13 => ?_)
  · have h := h.1 c13
    refine lv_aload_n hx hb dX6_finishEnd_42 rfl (lv_at hl 2 rfl) ?_
    refine lv_aload_n hx hb dX6_finishEnd_43 rfl (lv_at hl 3 rfl) ?_
    refine lv_aload_n hx hb dX6_finishEnd_44 rfl (lv_at hl 3 rfl) ?_
    refine cq_getr (ci := 9) (k := 12) (f := 59) hX hC rfl in_X9 (by decide) wd_895 (fun _ h9 => h9) (fun _ _ => rfl) dX6_finishEnd_45 h (fun z14 h => ?_)
    refine lv_iload hx hb dX6_finishEnd_48 (lv_at hl 0 rfl) ?_
    obtain ⟨q15, e9, hh⟩ := h
    subst e9
    have h := hh
    clear hh
    refine cq_ild hX hC dX6_finishEnd_50 h (fun z16 h => ?_)
    refine lv_aload_n hx hb dX6_finishEnd_51 rfl (lv_at hl 3 rfl) ?_
    refine cq_getr (ci := 9) (k := 13) (f := 60) hX hC rfl in_X9 (by decide) wd_897 (fun _ h9 => h9) (fun _ _ => rfl) dX6_finishEnd_52 h (fun z17 h => ?_)
    refine lv_iload hx hb dX6_finishEnd_55 (lv_at hl 0 rfl) ?_
    obtain ⟨q18, e9, hh⟩ := h
    subst e9
    have h := hh
    clear hh
    refine cq_ild hX hC dX6_finishEnd_57 h (fun z19 h => ?_)
    refine lv_aload_n hx hb dX6_finishEnd_58 rfl (lv_at hl 1 rfl) ?_
    refine cq_getr (ci := 7) (k := 1) (f := 43) hX hC rfl in_X7 (by decide) wd_344 (fun _ h9 => h9) (fun _ _ => rfl) dX6_finishEnd_59 h (fun z20 h => ?_)
    refine lv_iload_n hx hb dX6_finishEnd_62 rfl (lv_at hl 4 rfl) ?_
    obtain ⟨q21, e9, hh⟩ := h
    subst e9
    have h := hh
    clear hh
    refine cq_ild hX hC dX6_finishEnd_63 h (fun z22 h => ?_)
    refine kv_callv [.ref a0, .int z16, .int z19, .int z22] (rest := []) (ci := 6) rfl hX hC h.1 (kt_X6_leave l S t0 a0 z16 z19 z22 _ h.2 E _) (cw_X6_102 hts (by omega) (by omega)) rfl hl.1 (Nat.le_of_ble_eq_true rfl) ⟨Nat.zero_le _, Nat.zero_le _⟩ dX6_finishEnd_64 (fun S23 H locs hC h => ?_)
    exact hret _ _ _ _ _ hC h dX6_finishEnd_67
  · have h := h.2 c13
    refine lv_aload_n hx hb dX6_finishEnd_29 rfl (lv_at hl 3 rfl) ?_
    refine lv_aload_n hx hb dX6_finishEnd_30 rfl (lv_at hl 1 rfl) ?_
    refine cq_getr (ci := 7) (k := 6) (f := 48) hX hC rfl in_X7 (by decide) wd_358 (fun _ h9 => h9) (fun _ _ => rfl) dX6_finishEnd_31 h (fun z24 h => ?_)
    refine lv_iload_n hx hb dX6_finishEnd_34 rfl (lv_at hl 4 rfl) ?_
    obtain ⟨q25, e9, hh⟩ := h
    subst e9
    have h := hh
    clear hh
    refine cq_ild hX hC dX6_finishEnd_35 h (fun z26 h => ?_)
    refine cq_puti (v := z26) (ci := 9) (k := 10) (f := 36) hX hC rfl in_X9 (by decide) wd_890 (fun _ h9 => h9) tyX9 tyX9_ok nmX9 rfl rfl rfl (fun _ _ => Nat.le_of_ble_eq_true rfl) (fun _ _ _ => rfl) dX6_finishEnd_36 h.1 h.2 (fun S27 H locs hC h => ?_)
    refine lv_goto (tgt := 67) hx hb dX6_finishEnd_39 (by decide) ?_
    exact hret _ _ _ _ _ hC h dX6_finishEnd_67
def wp_X6_pop (t0 : Nat) (S : kS) (K : kS → Int32 → Prop) : Prop := hasO S t0 6 ∧ ∀ z1 : Int32, z1 = S.1 21 t0 → ((¬ z1 = 0 → hasO S t0 6 ∧ ∀ z3 : Int32, z3 = S.1 21 t0 → ∀ z4 : Int32, z4 = z3 - 1 → hasO S t0 6 ∧ ∀ S5 : kS, S5 = cI S 21 t0 z4 → hasO S5 t0 6 ∧ ∀ z6 : Option Nat, z6 = S5.2.1 42 t0 → hasO S5 t0 6 ∧ ∀ z7 : Int32, z7 = S5.1 21 t0 → ∃ q8 : Nat, z6 = some q8 ∧ hasA S5 q8 64 0 ∧ inR z7 64 ∧ ∀ z9 : Int32, z9 = S5.2.2.1 q8 (ix z7) → K S5 z9) ∧ (z1 = 0 → K S 0))
set_option maxHeartbeats 4000000 in
set_option maxRecDepth 100000 in
theorem kt_X6_pop (l : Launch) (S : kS) (t0 : Nat) (K : kS → Int32 → Prop) (h : wp_X6_pop t0 S K) : kMi l yX6_pop cX6_pop 1 (some .int) 0 0 [.ref t0] S K := by
  refine kv_ofi (own := RX6) (by decide) rfl (Nat.le_of_ble_eq_true rfl) ?_
  intro E p e R s m args below meth c A ls Q hRf hRl hX hC hl hret
  have hx := hX.1.1
  have hb := hX.1.2.1
  have hown := hX.1.2.2.2.1
  have hts := hX.1.2.2.2.2
  have hl : lv_has ls 1 [(0, .ref t0)] := hl
  unfold wp_X6_pop at h
  refine lv_aload_n hx hb dX6_pop_0 rfl (lv_at hl 0 rfl) ?_
  refine cq_geti (ci := 6) (k := 5) (f := 21) hX hC rfl in_X6 (by decide) wd_309 (fun _ h9 => h9) (fun _ _ => rfl) dX6_pop_1 h (fun z1 h => ?_)
  refine lv_if_ne (tgt := 9) hx hb dX6_pop_4 (by decide) (fun c2 => ?_) (fun c2 => ?_)
  · have h := h.1 c2
    refine lv_aload_n hx hb dX6_pop_9 rfl (lv_at hl 0 rfl) ?_
    refine lv_dup hx hb dX6_pop_10 rfl ?_
    refine cq_geti (ci := 6) (k := 5) (f := 21) hX hC rfl in_X6 (by decide) wd_309 (fun _ h9 => h9) (fun _ _ => rfl) dX6_pop_11 h (fun z3 h => ?_)
    refine lv_iconst (v := 1) hx hb dX6_pop_14 (by decide) ?_
    refine lq_isub hx hb dX6_pop_15 h (fun z4 h => ?_)
    refine cq_puti (v := z4) (ci := 6) (k := 5) (f := 21) hX hC rfl in_X6 (by decide) wd_309 (fun _ h9 => h9) tyX6 tyX6_ok nmX6 rfl rfl rfl (fun _ _ => Nat.le_of_ble_eq_true rfl) (fun _ _ _ => rfl) dX6_pop_16 h.1 h.2 (fun S5 H locs hC h => ?_)
    refine lv_aload_n hx hb dX6_pop_19 rfl (lv_at hl 0 rfl) ?_
    refine cq_getr (ci := 6) (k := 4) (f := 42) hX hC rfl in_X6 (by decide) wd_308 (fun _ h9 => h9) (fun _ _ => rfl) dX6_pop_20 h (fun z6 h => ?_)
    refine lv_aload_n hx hb dX6_pop_23 rfl (lv_at hl 0 rfl) ?_
    refine cq_geti (ci := 6) (k := 5) (f := 21) hX hC rfl in_X6 (by decide) wd_309 (fun _ h9 => h9) (fun _ _ => rfl) dX6_pop_24 h (fun z7 h => ?_)
    obtain ⟨q8, e9, hh⟩ := h
    subst e9
    have h := hh
    clear hh
    refine cq_ild hX hC dX6_pop_27 h (fun z9 h => ?_)
    exact hret _ _ _ _ _ _ hC h dX6_pop_28
  · have h := h.2 c2
    refine lv_iconst (v := 0) hx hb dX6_pop_7 (by decide) ?_
    exact hret _ _ _ _ _ _ hC h dX6_pop_8
def wp_X9_set (t0 : Nat) (a0 : Int32) (a1 : Int32) (S : kS) (K : kS → Prop) : Prop := ((a0 < 0 → K S) ∧ (¬ a0 < 0 → ((12 ≤ a0 → K S) ∧ (¬ 12 ≤ a0 → hasO S t0 9 ∧ ∀ z3 : Option Nat, z3 = S.2.1 58 t0 → ∃ q4 : Nat, z3 = some q4 ∧ hasA S q4 12 0 ∧ inR a0 12 ∧ ∀ S5 : kS, S5 = cA S q4 (ix a0) a1 → K S5))))
set_option maxHeartbeats 4000000 in
set_option maxRecDepth 100000 in
theorem kt_X9_set (l : Launch) (S : kS) (t0 : Nat) (a0 : Int32) (a1 : Int32) (K : kS → Prop) (h : wp_X9_set t0 a0 a1 S K) : kMv l yX9_set cX9_set 3 none 0 0 [.ref t0, .int a0, .int a1] S K := by
  refine kv_ofv (own := RX9) (by decide) rfl (Nat.le_of_ble_eq_true rfl) ?_
  intro E p e R s m args below meth c A ls Q hRf hRl hX hC hl hret
  have hx := hX.1.1
  have hb := hX.1.2.1
  have hown := hX.1.2.2.2.1
  have hts := hX.1.2.2.2.2
  have hl : lv_has ls 3 [(0, .ref t0), (1, .int a0), (2, .int a1)] := hl
  unfold wp_X9_set at h
  refine lv_iload_n hx hb dX9_set_0 rfl (lv_at hl 1 rfl) ?_
  refine lv_if_lt (tgt := 17) hx hb dX9_set_1 (by decide) (fun c1 => ?_) (fun c1 => ?_)
  · have h := h.1 c1
    exact hret _ _ _ _ _ hC h dX9_set_17
  · have h := h.2 c1
    refine lv_iload_n hx hb dX9_set_4 rfl (lv_at hl 1 rfl) ?_
    refine lv_bipush (v := 12) hx hb dX9_set_5 (by decide) ?_
    refine lv_icmp_ge (tgt := 17) hx hb dX9_set_7 (by decide) (fun c2 => ?_) (fun c2 => ?_)
    · have h := h.1 c2
      exact hret _ _ _ _ _ hC h dX9_set_17
    · have h := h.2 c2
      refine lv_aload_n hx hb dX9_set_10 rfl (lv_at hl 0 rfl) ?_
      refine cq_getr (ci := 9) (k := 11) (f := 58) hX hC rfl in_X9 (by decide) wd_892 (fun _ h9 => h9) (fun _ _ => rfl) dX9_set_11 h (fun z3 h => ?_)
      refine lv_iload_n hx hb dX9_set_14 rfl (lv_at hl 1 rfl) ?_
      refine lv_iload_n hx hb dX9_set_15 rfl (lv_at hl 2 rfl) ?_
      obtain ⟨q4, e9, hh⟩ := h
      subst e9
      have h := hh
      clear hh
      refine cq_ist hX hC dX9_set_16 h.1 h.2.1 h.2.2 (fun S5 H locs hC h => ?_)
      exact hret _ _ _ _ _ hC h dX9_set_17
