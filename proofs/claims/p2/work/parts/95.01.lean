theorem wd_396 : (Jvm.Cond.fieldLink "Sleepers$Runner" (106 : Nat) "Sleepers$Program" "size" "I") ∈ tb := tb_at 396 (by decide +kernel) (by decide +kernel)
theorem wd_401 : (Jvm.Cond.fieldLink "Sleepers$Runner" (112 : Nat) "Sleepers$Program" "op" "[I") ∈ tb := tb_at 401 (by decide +kernel) (by decide +kernel)
theorem wd_424 : (Jvm.Cond.fieldLink "Sleepers$Runner" (267 : Nat) "Sleepers$Program" "given" "[I") ∈ tb := tb_at 424 (by decide +kernel) (by decide +kernel)
theorem wd_853 : (Jvm.Cond.instanceMethod ({ cls := "Sleepers$Hall", name := "newTask", desc := "(ILSleepers$Task;)LSleepers$Task;" } : Jvm.MethodName)) ∈ tb := tb_at 853 (by decide +kernel) (by decide +kernel)
theorem wd_854 : (Jvm.Cond.selects "Sleepers$Hall" ({ cls := "Sleepers$Hall", name := "newTask", desc := "(ILSleepers$Task;)LSleepers$Task;" } : Jvm.MethodName) ({ cls := "Sleepers$Hall", name := "newTask", desc := "(ILSleepers$Task;)LSleepers$Task;" } : Jvm.MethodName)) ∈ tb := tb_at 854 (by decide +kernel) (by decide +kernel)
theorem wd_855 : (Jvm.Cond.code ({ cls := "Sleepers$Hall", name := "newTask", desc := "(ILSleepers$Task;)LSleepers$Task;" } : Jvm.MethodName) prog_3_method_5_code (5 : Nat) (Option.some (Jvm.ClassFile.FieldType.object "Sleepers$Task"))) ∈ tb := tb_at 855 (by decide +kernel) (by decide +kernel)
theorem wd_872 : (Jvm.Cond.fieldLink "Sleepers$Runner" (274 : Nat) "Sleepers$Task" "asPart" "LSleepers$Part;") ∈ tb := tb_at 872 (by decide +kernel) (by decide +kernel)
theorem wd_884 : (Jvm.Cond.fieldLink "Sleepers$Runner" (214 : Nat) "Sleepers$Task" "at" "I") ∈ tb := tb_at 884 (by decide +kernel) (by decide +kernel)
theorem wd_903 : (Jvm.Cond.fieldLink "Sleepers$Runner" (277 : Nat) "Sleepers$Task" "children" "I") ∈ tb := tb_at 903 (by decide +kernel) (by decide +kernel)
theorem wd_996 : (Jvm.Cond.methodLink "Sleepers$Runner" (115 : Nat) ({ cls := "Sleepers$Program", name := "isStep", desc := "(I)Z" } : Jvm.MethodName)) ∈ tb := tb_at 996 (by decide +kernel) (by decide +kernel)
theorem wd_997 : (Jvm.Cond.static ({ cls := "Sleepers$Program", name := "isStep", desc := "(I)Z" } : Jvm.MethodName)) ∈ tb := tb_at 997 (by decide +kernel) (by decide +kernel)
theorem wd_998 : (Jvm.Cond.code ({ cls := "Sleepers$Program", name := "isStep", desc := "(I)Z" } : Jvm.MethodName) prog_7_method_6_code (1 : Nat) (Option.some Jvm.ClassFile.FieldType.boolean)) ∈ tb := tb_at 998 (by decide +kernel) (by decide +kernel)
theorem wd_1000 : (Jvm.Cond.methodLink "Sleepers$Runner" (119 : Nat) ({ cls := "Sleepers$Runner", name := "step", desc := "()Z" } : Jvm.MethodName)) ∈ tb := tb_at 1000 (by decide +kernel) (by decide +kernel)
theorem wd_1002 : (Jvm.Cond.instanceMethod ({ cls := "Sleepers$Runner", name := "step", desc := "()Z" } : Jvm.MethodName)) ∈ tb := tb_at 1002 (by decide +kernel) (by decide +kernel)
theorem wd_1003 : (Jvm.Cond.code ({ cls := "Sleepers$Runner", name := "step", desc := "()Z" } : Jvm.MethodName) prog_8_method_5_code (1 : Nat) (Option.some Jvm.ClassFile.FieldType.boolean)) ∈ tb := tb_at 1003 (by decide +kernel) (by decide +kernel)
theorem wd_1005 : (Jvm.Cond.methodLink "Sleepers$Runner" (123 : Nat) ({ cls := "Sleepers$Runner", name := "reckon", desc := "(LSleepers$Task;II)V" } : Jvm.MethodName)) ∈ tb := tb_at 1005 (by decide +kernel) (by decide +kernel)
theorem wd_1007 : (Jvm.Cond.instanceMethod ({ cls := "Sleepers$Runner", name := "reckon", desc := "(LSleepers$Task;II)V" } : Jvm.MethodName)) ∈ tb := tb_at 1007 (by decide +kernel) (by decide +kernel)
theorem wd_1008 : (Jvm.Cond.code ({ cls := "Sleepers$Runner", name := "reckon", desc := "(LSleepers$Task;II)V" } : Jvm.MethodName) prog_8_method_8_code (5 : Nat) (Option.none : Option Jvm.ClassFile.FieldType)) ∈ tb := tb_at 1008 (by decide +kernel) (by decide +kernel)
theorem wd_1025 : (Jvm.Cond.methodLink "Sleepers$Runner" (126 : Nat) ({ cls := "Sleepers$Runner", name := "flow", desc := "(LSleepers$Task;II)V" } : Jvm.MethodName)) ∈ tb := tb_at 1025 (by decide +kernel) (by decide +kernel)
theorem wd_1027 : (Jvm.Cond.instanceMethod ({ cls := "Sleepers$Runner", name := "flow", desc := "(LSleepers$Task;II)V" } : Jvm.MethodName)) ∈ tb := tb_at 1027 (by decide +kernel) (by decide +kernel)
theorem wd_1028 : (Jvm.Cond.code ({ cls := "Sleepers$Runner", name := "flow", desc := "(LSleepers$Task;II)V" } : Jvm.MethodName) prog_8_method_10_code (7 : Nat) (Option.none : Option Jvm.ClassFile.FieldType)) ∈ tb := tb_at 1028 (by decide +kernel) (by decide +kernel)
theorem wd_1038 : (Jvm.Cond.methodLink "Sleepers$Runner" (129 : Nat) ({ cls := "Sleepers$Runner", name := "attend", desc := "(LSleepers$Task;II)V" } : Jvm.MethodName)) ∈ tb := tb_at 1038 (by decide +kernel) (by decide +kernel)
theorem wd_1040 : (Jvm.Cond.instanceMethod ({ cls := "Sleepers$Runner", name := "attend", desc := "(LSleepers$Task;II)V" } : Jvm.MethodName)) ∈ tb := tb_at 1040 (by decide +kernel) (by decide +kernel)
theorem wd_1041 : (Jvm.Cond.code ({ cls := "Sleepers$Runner", name := "attend", desc := "(LSleepers$Task;II)V" } : Jvm.MethodName) prog_8_method_15_code (5 : Nat) (Option.none : Option Jvm.ClassFile.FieldType)) ∈ tb := tb_at 1041 (by decide +kernel) (by decide +kernel)
theorem wd_1042 : (Jvm.Cond.methodLink "Sleepers$Runner" (217 : Nat) ({ cls := "Sleepers$Runner", name := "beginLetter", desc := "(LSleepers$Task;I)V" } : Jvm.MethodName)) ∈ tb := tb_at 1042 (by decide +kernel) (by decide +kernel)
theorem wd_1044 : (Jvm.Cond.instanceMethod ({ cls := "Sleepers$Runner", name := "beginLetter", desc := "(LSleepers$Task;I)V" } : Jvm.MethodName)) ∈ tb := tb_at 1044 (by decide +kernel) (by decide +kernel)
theorem wd_1045 : (Jvm.Cond.code ({ cls := "Sleepers$Runner", name := "beginLetter", desc := "(LSleepers$Task;I)V" } : Jvm.MethodName) prog_8_method_16_code (4 : Nat) (Option.none : Option Jvm.ClassFile.FieldType)) ∈ tb := tb_at 1045 (by decide +kernel) (by decide +kernel)
theorem wd_1073 : (Jvm.Cond.fieldLink "Sleepers$Runner" (270 : Nat) "Sleepers$Part" "child" "LSleepers$Task;") ∈ tb := tb_at 1073 (by decide +kernel) (by decide +kernel)
theorem wd_1129 : (Jvm.Cond.methodLink "Sleepers$Runner" (228 : Nat) ({ cls := "Sleepers$Runner", name := "beginTick", desc := "(LSleepers$Task;I)V" } : Jvm.MethodName)) ∈ tb := tb_at 1129 (by decide +kernel) (by decide +kernel)
theorem wd_1131 : (Jvm.Cond.instanceMethod ({ cls := "Sleepers$Runner", name := "beginTick", desc := "(LSleepers$Task;I)V" } : Jvm.MethodName)) ∈ tb := tb_at 1131 (by decide +kernel) (by decide +kernel)
theorem wd_1132 : (Jvm.Cond.code ({ cls := "Sleepers$Runner", name := "beginTick", desc := "(LSleepers$Task;I)V" } : Jvm.MethodName) prog_8_method_17_code (4 : Nat) (Option.none : Option Jvm.ClassFile.FieldType)) ∈ tb := tb_at 1132 (by decide +kernel) (by decide +kernel)
theorem wd_1139 : (Jvm.Cond.methodLink "Sleepers$Runner" (231 : Nat) ({ cls := "Sleepers$Runner", name := "beginChild", desc := "(LSleepers$Task;II)V" } : Jvm.MethodName)) ∈ tb := tb_at 1139 (by decide +kernel) (by decide +kernel)
theorem wd_1141 : (Jvm.Cond.instanceMethod ({ cls := "Sleepers$Runner", name := "beginChild", desc := "(LSleepers$Task;II)V" } : Jvm.MethodName)) ∈ tb := tb_at 1141 (by decide +kernel) (by decide +kernel)
theorem wd_1142 : (Jvm.Cond.code ({ cls := "Sleepers$Runner", name := "beginChild", desc := "(LSleepers$Task;II)V" } : Jvm.MethodName) prog_8_method_18_code (6 : Nat) (Option.none : Option Jvm.ClassFile.FieldType)) ∈ tb := tb_at 1142 (by decide +kernel) (by decide +kernel)
theorem wd_1143 : (Jvm.Cond.methodLink "Sleepers$Runner" (263 : Nat) ({ cls := "Sleepers$Hall", name := "newTask", desc := "(ILSleepers$Task;)LSleepers$Task;" } : Jvm.MethodName)) ∈ tb := tb_at 1143 (by decide +kernel) (by decide +kernel)
theorem wd_1144 : (Jvm.Cond.methodLink "Sleepers$Runner" (241 : Nat) ({ cls := "Sleepers$Runner", name := "closePart", desc := "(LSleepers$Task;)V" } : Jvm.MethodName)) ∈ tb := tb_at 1144 (by decide +kernel) (by decide +kernel)
theorem wd_1146 : (Jvm.Cond.instanceMethod ({ cls := "Sleepers$Runner", name := "closePart", desc := "(LSleepers$Task;)V" } : Jvm.MethodName)) ∈ tb := tb_at 1146 (by decide +kernel) (by decide +kernel)
theorem wd_1147 : (Jvm.Cond.code ({ cls := "Sleepers$Runner", name := "closePart", desc := "(LSleepers$Task;)V" } : Jvm.MethodName) prog_8_method_21_code (3 : Nat) (Option.none : Option Jvm.ClassFile.FieldType)) ∈ tb := tb_at 1147 (by decide +kernel) (by decide +kernel)
theorem sl_X6_attend : Cond.selects RX6 yX6_attend yX6_attend ∈ tb := sl_of (y := ⟨"Sleepers$Runner", "attend", "(LSleepers$Task;II)V"⟩) (n := 8) (by decide +kernel) (by decide +kernel)
theorem sl_X6_beginChild : Cond.selects RX6 yX6_beginChild yX6_beginChild ∈ tb := sl_of (y := ⟨"Sleepers$Runner", "beginChild", "(LSleepers$Task;II)V"⟩) (n := 8) (by decide +kernel) (by decide +kernel)
theorem sl_X6_beginLetter : Cond.selects RX6 yX6_beginLetter yX6_beginLetter ∈ tb := sl_of (y := ⟨"Sleepers$Runner", "beginLetter", "(LSleepers$Task;I)V"⟩) (n := 8) (by decide +kernel) (by decide +kernel)
theorem sl_X6_beginTick : Cond.selects RX6 yX6_beginTick yX6_beginTick ∈ tb := sl_of (y := ⟨"Sleepers$Runner", "beginTick", "(LSleepers$Task;I)V"⟩) (n := 8) (by decide +kernel) (by decide +kernel)
theorem sl_X6_closePart : Cond.selects RX6 yX6_closePart yX6_closePart ∈ tb := sl_of (y := ⟨"Sleepers$Runner", "closePart", "(LSleepers$Task;)V"⟩) (n := 8) (by decide +kernel) (by decide +kernel)
theorem sl_X6_flow : Cond.selects RX6 yX6_flow yX6_flow ∈ tb := sl_of (y := ⟨"Sleepers$Runner", "flow", "(LSleepers$Task;II)V"⟩) (n := 8) (by decide +kernel) (by decide +kernel)
theorem sl_X6_reckon : Cond.selects RX6 yX6_reckon yX6_reckon ∈ tb := sl_of (y := ⟨"Sleepers$Runner", "reckon", "(LSleepers$Task;II)V"⟩) (n := 8) (by decide +kernel) (by decide +kernel)
theorem sl_X6_step : Cond.selects RX6 yX6_step yX6_step ∈ tb := sl_of (y := ⟨"Sleepers$Runner", "step", "()Z"⟩) (n := 8) (by decide +kernel) (by decide +kernel)
theorem dX6_act_0 : decode cX6_act 0 = .ok (.aload_n 0, 1) := by decide +kernel
theorem dX6_act_1 : decode cX6_act 1 = .ok (.getfield 22, 3) := by decide +kernel
theorem dX6_act_4 : decode cX6_act 4 = .ok (.getfield 82, 3) := by decide +kernel
theorem dX6_act_7 : decode cX6_act 7 = .ok (.astore_n 2, 1) := by decide +kernel
theorem dX6_act_8 : decode cX6_act 8 = .ok (.aload_n 1, 1) := by decide +kernel
theorem dX6_act_9 : decode cX6_act 9 = .ok (.getfield 86, 3) := by decide +kernel
theorem dX6_act_12 : decode cX6_act 12 = .ok (.istore_n 3, 1) := by decide +kernel
theorem dX6_act_13 : decode cX6_act 13 = .ok (.iload_n 3, 1) := by decide +kernel
theorem dX6_act_14 : decode cX6_act 14 = .ok (.ifCond .lt 11, 3) := by decide +kernel
theorem dX6_act_17 : decode cX6_act 17 = .ok (.iload_n 3, 1) := by decide +kernel
theorem dX6_act_18 : decode cX6_act 18 = .ok (.aload_n 2, 1) := by decide +kernel
theorem dX6_act_19 : decode cX6_act 19 = .ok (.getfield 106, 3) := by decide +kernel
theorem dX6_act_22 : decode cX6_act 22 = .ok (.if_icmp .lt 11, 3) := by decide +kernel
theorem dX6_act_25 : decode cX6_act 25 = .ok (.aload_n 0, 1) := by decide +kernel
theorem dX6_act_26 : decode cX6_act 26 = .ok (.aload_n 1, 1) := by decide +kernel
theorem dX6_act_27 : decode cX6_act 27 = .ok (.iconst 0, 1) := by decide +kernel
theorem dX6_act_28 : decode cX6_act 28 = .ok (.iconst 0, 1) := by decide +kernel
theorem dX6_act_29 : decode cX6_act 29 = .ok (.invokevirtual 109, 3) := by decide +kernel
theorem dX6_act_32 : decode cX6_act 32 = .ok (.return_, 1) := by decide +kernel
theorem dX6_act_33 : decode cX6_act 33 = .ok (.aload_n 2, 1) := by decide +kernel
theorem dX6_act_34 : decode cX6_act 34 = .ok (.getfield 112, 3) := by decide +kernel
theorem dX6_act_37 : decode cX6_act 37 = .ok (.iload_n 3, 1) := by decide +kernel
theorem dX6_act_38 : decode cX6_act 38 = .ok (.iaload, 1) := by decide +kernel
theorem dX6_act_39 : decode cX6_act 39 = .ok (.istore 4, 2) := by decide +kernel
theorem dX6_act_41 : decode cX6_act 41 = .ok (.iload 4, 2) := by decide +kernel
theorem dX6_act_43 : decode cX6_act 43 = .ok (.invokestatic 115, 3) := by decide +kernel
theorem dX6_act_46 : decode cX6_act 46 = .ok (.ifCond .eq 19, 3) := by decide +kernel
theorem dX6_act_49 : decode cX6_act 49 = .ok (.aload_n 0, 1) := by decide +kernel
theorem dX6_act_50 : decode cX6_act 50 = .ok (.invokevirtual 119, 3) := by decide +kernel
theorem dX6_act_53 : decode cX6_act 53 = .ok (.ifCond .ne 12, 3) := by decide +kernel
theorem dX6_act_56 : decode cX6_act 56 = .ok (.aload_n 0, 1) := by decide +kernel
theorem dX6_act_57 : decode cX6_act 57 = .ok (.aload_n 1, 1) := by decide +kernel
theorem dX6_act_58 : decode cX6_act 58 = .ok (.bipush 24, 2) := by decide +kernel
theorem dX6_act_60 : decode cX6_act 60 = .ok (.iconst 0, 1) := by decide +kernel
theorem dX6_act_61 : decode cX6_act 61 = .ok (.invokevirtual 109, 3) := by decide +kernel
theorem dX6_act_64 : decode cX6_act 64 = .ok (.return_, 1) := by decide +kernel
theorem dX6_act_65 : decode cX6_act 65 = .ok (.aload_n 1, 1) := by decide +kernel
theorem dX6_act_66 : decode cX6_act 66 = .ok (.iload_n 3, 1) := by decide +kernel
theorem dX6_act_67 : decode cX6_act 67 = .ok (.iconst 1, 1) := by decide +kernel
theorem dX6_act_68 : decode cX6_act 68 = .ok (.iadd, 1) := by decide +kernel
theorem dX6_act_69 : decode cX6_act 69 = .ok (.putfield 86, 3) := by decide +kernel
theorem dX6_act_72 : decode cX6_act 72 = .ok (.iload 4, 2) := by decide +kernel
theorem dX6_act_74 : decode cX6_act 74 = .ok (.bipush 12, 2) := by decide +kernel
theorem dX6_act_76 : decode cX6_act 76 = .ok (.if_icmp .gt 14, 3) := by decide +kernel
theorem dX6_act_79 : decode cX6_act 79 = .ok (.aload_n 0, 1) := by decide +kernel
theorem dX6_act_80 : decode cX6_act 80 = .ok (.aload_n 1, 1) := by decide +kernel
theorem dX6_act_81 : decode cX6_act 81 = .ok (.iload 4, 2) := by decide +kernel
theorem dX6_act_83 : decode cX6_act 83 = .ok (.iload_n 3, 1) := by decide +kernel
theorem dX6_act_84 : decode cX6_act 84 = .ok (.invokevirtual 123, 3) := by decide +kernel
theorem dX6_act_87 : decode cX6_act 87 = .ok (.goto 29, 3) := by decide +kernel
theorem dX6_act_90 : decode cX6_act 90 = .ok (.iload 4, 2) := by decide +kernel
theorem dX6_act_92 : decode cX6_act 92 = .ok (.bipush 24, 2) := by decide +kernel
theorem dX6_act_94 : decode cX6_act 94 = .ok (.if_icmp .gt 14, 3) := by decide +kernel
theorem dX6_act_97 : decode cX6_act 97 = .ok (.aload_n 0, 1) := by decide +kernel
theorem dX6_act_98 : decode cX6_act 98 = .ok (.aload_n 1, 1) := by decide +kernel
theorem dX6_act_99 : decode cX6_act 99 = .ok (.iload 4, 2) := by decide +kernel
theorem dX6_act_101 : decode cX6_act 101 = .ok (.iload_n 3, 1) := by decide +kernel
theorem dX6_act_102 : decode cX6_act 102 = .ok (.invokevirtual 126, 3) := by decide +kernel
theorem dX6_act_105 : decode cX6_act 105 = .ok (.goto 11, 3) := by decide +kernel
theorem dX6_act_108 : decode cX6_act 108 = .ok (.aload_n 0, 1) := by decide +kernel
theorem dX6_act_109 : decode cX6_act 109 = .ok (.aload_n 1, 1) := by decide +kernel
theorem dX6_act_110 : decode cX6_act 110 = .ok (.iload 4, 2) := by decide +kernel
theorem dX6_act_112 : decode cX6_act 112 = .ok (.iload_n 3, 1) := by decide +kernel
theorem dX6_act_113 : decode cX6_act 113 = .ok (.invokevirtual 129, 3) := by decide +kernel
theorem dX6_act_116 : decode cX6_act 116 = .ok (.return_, 1) := by decide +kernel
theorem dX6_attend_0 : decode cX6_attend 0 = .ok (.aload_n 0, 1) := by decide +kernel
theorem dX6_attend_1 : decode cX6_attend 1 = .ok (.getfield 22, 3) := by decide +kernel
theorem dX6_attend_4 : decode cX6_attend 4 = .ok (.getfield 82, 3) := by decide +kernel
theorem dX6_attend_7 : decode cX6_attend 7 = .ok (.getfield 136, 3) := by decide +kernel
theorem dX6_attend_10 : decode cX6_attend 10 = .ok (.iload_n 3, 1) := by decide +kernel
theorem dX6_attend_11 : decode cX6_attend 11 = .ok (.iaload, 1) := by decide +kernel
theorem dX6_attend_12 : decode cX6_attend 12 = .ok (.istore 4, 2) := by decide +kernel
theorem dX6_attend_14 : decode cX6_attend 14 = .ok (.iload_n 2, 1) := by decide +kernel
theorem dX6_attend_15 : decode cX6_attend 15 = .ok (.tableswitch 197 25 34 #[53, 67, 70, 97, 80, 109, 120, 145, 161, 189], 53) := by decide +kernel
theorem dX6_attend_68 : decode cX6_attend 68 = .ok (.aload_n 1, 1) := by decide +kernel
theorem dX6_attend_69 : decode cX6_attend 69 = .ok (.iload 4, 2) := by decide +kernel
theorem dX6_attend_71 : decode cX6_attend 71 = .ok (.putfield 214, 3) := by decide +kernel
theorem dX6_attend_74 : decode cX6_attend 74 = .ok (.aload_n 1, 1) := by decide +kernel
theorem dX6_attend_75 : decode cX6_attend 75 = .ok (.iconst 5, 1) := by decide +kernel
theorem dX6_attend_76 : decode cX6_attend 76 = .ok (.putfield 76, 3) := by decide +kernel
theorem dX6_attend_79 : decode cX6_attend 79 = .ok (.goto 143, 3) := by decide +kernel
theorem dX6_attend_82 : decode cX6_attend 82 = .ok (.goto 140, 3) := by decide +kernel
theorem dX6_attend_85 : decode cX6_attend 85 = .ok (.aload_n 0, 1) := by decide +kernel
theorem dX6_attend_86 : decode cX6_attend 86 = .ok (.aload_n 1, 1) := by decide +kernel
theorem dX6_attend_87 : decode cX6_attend 87 = .ok (.iload 4, 2) := by decide +kernel
theorem dX6_attend_89 : decode cX6_attend 89 = .ok (.invokevirtual 217, 3) := by decide +kernel
theorem dX6_attend_92 : decode cX6_attend 92 = .ok (.goto 130, 3) := by decide +kernel
theorem dX6_attend_95 : decode cX6_attend 95 = .ok (.aload_n 0, 1) := by decide +kernel
theorem dX6_attend_96 : decode cX6_attend 96 = .ok (.aload_n 0, 1) := by decide +kernel
theorem dX6_attend_97 : decode cX6_attend 97 = .ok (.getfield 22, 3) := by decide +kernel
theorem dX6_attend_100 : decode cX6_attend 100 = .ok (.aload_n 1, 1) := by decide +kernel
theorem dX6_attend_101 : decode cX6_attend 101 = .ok (.iconst 1, 1) := by decide +kernel
theorem dX6_attend_102 : decode cX6_attend 102 = .ok (.invokevirtual 220, 3) := by decide +kernel
theorem dX6_attend_105 : decode cX6_attend 105 = .ok (.iconst 0, 1) := by decide +kernel
theorem dX6_attend_106 : decode cX6_attend 106 = .ok (.invokevirtual 224, 3) := by decide +kernel
theorem dX6_attend_109 : decode cX6_attend 109 = .ok (.goto 113, 3) := by decide +kernel
theorem dX6_attend_112 : decode cX6_attend 112 = .ok (.aload_n 0, 1) := by decide +kernel
theorem dX6_attend_113 : decode cX6_attend 113 = .ok (.aload_n 1, 1) := by decide +kernel
theorem dX6_attend_114 : decode cX6_attend 114 = .ok (.aload_n 0, 1) := by decide +kernel
theorem dX6_attend_115 : decode cX6_attend 115 = .ok (.invokevirtual 145, 3) := by decide +kernel
theorem dX6_attend_118 : decode cX6_attend 118 = .ok (.invokevirtual 228, 3) := by decide +kernel
theorem dX6_attend_121 : decode cX6_attend 121 = .ok (.goto 101, 3) := by decide +kernel
theorem dX6_attend_124 : decode cX6_attend 124 = .ok (.aload_n 0, 1) := by decide +kernel
theorem dX6_attend_125 : decode cX6_attend 125 = .ok (.aload_n 1, 1) := by decide +kernel
theorem dX6_attend_126 : decode cX6_attend 126 = .ok (.iload 4, 2) := by decide +kernel
theorem dX6_attend_128 : decode cX6_attend 128 = .ok (.iload_n 3, 1) := by decide +kernel
theorem dX6_attend_129 : decode cX6_attend 129 = .ok (.invokevirtual 231, 3) := by decide +kernel
theorem dX6_attend_132 : decode cX6_attend 132 = .ok (.goto 90, 3) := by decide +kernel
theorem dX6_attend_135 : decode cX6_attend 135 = .ok (.aload_n 1, 1) := by decide +kernel
theorem dX6_attend_136 : decode cX6_attend 136 = .ok (.aload_n 0, 1) := by decide +kernel
theorem dX6_attend_137 : decode cX6_attend 137 = .ok (.getfield 22, 3) := by decide +kernel
theorem dX6_attend_140 : decode cX6_attend 140 = .ok (.aload_n 1, 1) := by decide +kernel
theorem dX6_attend_141 : decode cX6_attend 141 = .ok (.iconst 4, 1) := by decide +kernel
theorem dX6_attend_142 : decode cX6_attend 142 = .ok (.invokevirtual 220, 3) := by decide +kernel
theorem dX6_attend_145 : decode cX6_attend 145 = .ok (.putfield 234, 3) := by decide +kernel
theorem dX6_attend_148 : decode cX6_attend 148 = .ok (.aload_n 1, 1) := by decide +kernel
theorem dX6_attend_149 : decode cX6_attend 149 = .ok (.getfield 234, 3) := by decide +kernel
theorem dX6_attend_152 : decode cX6_attend 152 = .ok (.iload 4, 2) := by decide +kernel
theorem dX6_attend_154 : decode cX6_attend 154 = .ok (.putfield 238, 3) := by decide +kernel
theorem dX6_attend_157 : decode cX6_attend 157 = .ok (.goto 65, 3) := by decide +kernel
theorem dX6_attend_160 : decode cX6_attend 160 = .ok (.aload_n 1, 1) := by decide +kernel
theorem dX6_attend_161 : decode cX6_attend 161 = .ok (.aload_n 0, 1) := by decide +kernel
theorem dX6_attend_162 : decode cX6_attend 162 = .ok (.getfield 22, 3) := by decide +kernel
theorem dX6_attend_165 : decode cX6_attend 165 = .ok (.aload_n 1, 1) := by decide +kernel
theorem dX6_attend_166 : decode cX6_attend 166 = .ok (.iconst 5, 1) := by decide +kernel
theorem dX6_attend_167 : decode cX6_attend 167 = .ok (.invokevirtual 220, 3) := by decide +kernel
theorem dX6_attend_170 : decode cX6_attend 170 = .ok (.putfield 234, 3) := by decide +kernel
theorem dX6_attend_173 : decode cX6_attend 173 = .ok (.goto 49, 3) := by decide +kernel
theorem dX6_attend_176 : decode cX6_attend 176 = .ok (.aload_n 1, 1) := by decide +kernel
theorem dX6_attend_177 : decode cX6_attend 177 = .ok (.aload_n 0, 1) := by decide +kernel
theorem dX6_attend_178 : decode cX6_attend 178 = .ok (.getfield 22, 3) := by decide +kernel
theorem dX6_attend_181 : decode cX6_attend 181 = .ok (.aload_n 1, 1) := by decide +kernel
theorem dX6_attend_182 : decode cX6_attend 182 = .ok (.bipush 6, 2) := by decide +kernel
theorem dX6_attend_184 : decode cX6_attend 184 = .ok (.invokevirtual 220, 3) := by decide +kernel
theorem dX6_attend_187 : decode cX6_attend 187 = .ok (.putfield 234, 3) := by decide +kernel
theorem dX6_attend_190 : decode cX6_attend 190 = .ok (.aload_n 1, 1) := by decide +kernel
theorem dX6_attend_191 : decode cX6_attend 191 = .ok (.getfield 234, 3) := by decide +kernel
theorem dX6_attend_194 : decode cX6_attend 194 = .ok (.aload_n 0, 1) := by decide +kernel
theorem dX6_attend_195 : decode cX6_attend 195 = .ok (.invokevirtual 145, 3) := by decide +kernel
theorem dX6_attend_198 : decode cX6_attend 198 = .ok (.putfield 238, 3) := by decide +kernel
theorem dX6_attend_201 : decode cX6_attend 201 = .ok (.goto 21, 3) := by decide +kernel
theorem dX6_attend_204 : decode cX6_attend 204 = .ok (.aload_n 0, 1) := by decide +kernel
theorem dX6_attend_205 : decode cX6_attend 205 = .ok (.aload_n 1, 1) := by decide +kernel
theorem dX6_attend_206 : decode cX6_attend 206 = .ok (.invokevirtual 241, 3) := by decide +kernel
theorem dX6_attend_209 : decode cX6_attend 209 = .ok (.goto 13, 3) := by decide +kernel
theorem dX6_attend_212 : decode cX6_attend 212 = .ok (.aload_n 1, 1) := by decide +kernel
theorem dX6_attend_213 : decode cX6_attend 213 = .ok (.iload_n 3, 1) := by decide +kernel
theorem dX6_attend_214 : decode cX6_attend 214 = .ok (.putfield 86, 3) := by decide +kernel
theorem dX6_attend_217 : decode cX6_attend 217 = .ok (.aload_n 0, 1) := by decide +kernel
theorem dX6_attend_218 : decode cX6_attend 218 = .ok (.iconst 1, 1) := by decide +kernel
theorem dX6_attend_219 : decode cX6_attend 219 = .ok (.putfield 39, 3) := by decide +kernel
theorem dX6_attend_222 : decode cX6_attend 222 = .ok (.return_, 1) := by decide +kernel
theorem dX6_beginChild_0 : decode cX6_beginChild 0 = .ok (.aload_n 0, 1) := by decide +kernel
theorem dX6_beginChild_1 : decode cX6_beginChild 1 = .ok (.getfield 22, 3) := by decide +kernel
theorem dX6_beginChild_4 : decode cX6_beginChild 4 = .ok (.iload_n 2, 1) := by decide +kernel
theorem dX6_beginChild_5 : decode cX6_beginChild 5 = .ok (.aload_n 1, 1) := by decide +kernel
theorem dX6_beginChild_6 : decode cX6_beginChild 6 = .ok (.invokevirtual 263, 3) := by decide +kernel
theorem dX6_beginChild_9 : decode cX6_beginChild 9 = .ok (.astore 4, 2) := by decide +kernel
theorem dX6_beginChild_11 : decode cX6_beginChild 11 = .ok (.aload 4, 2) := by decide +kernel
theorem dX6_beginChild_13 : decode cX6_beginChild 13 = .ok (.ifnonnull 12, 3) := by decide +kernel
theorem dX6_beginChild_16 : decode cX6_beginChild 16 = .ok (.aload_n 0, 1) := by decide +kernel
theorem dX6_beginChild_17 : decode cX6_beginChild 17 = .ok (.aload_n 1, 1) := by decide +kernel
theorem dX6_beginChild_18 : decode cX6_beginChild 18 = .ok (.bipush 23, 2) := by decide +kernel
theorem dX6_beginChild_20 : decode cX6_beginChild 20 = .ok (.iload_n 3, 1) := by decide +kernel
theorem dX6_beginChild_21 : decode cX6_beginChild 21 = .ok (.invokevirtual 152, 3) := by decide +kernel
theorem dX6_beginChild_24 : decode cX6_beginChild 24 = .ok (.return_, 1) := by decide +kernel
theorem dX6_beginChild_25 : decode cX6_beginChild 25 = .ok (.aload_n 0, 1) := by decide +kernel
theorem dX6_beginChild_26 : decode cX6_beginChild 26 = .ok (.getfield 22, 3) := by decide +kernel
theorem dX6_beginChild_29 : decode cX6_beginChild 29 = .ok (.getfield 82, 3) := by decide +kernel
theorem dX6_beginChild_32 : decode cX6_beginChild 32 = .ok (.getfield 267, 3) := by decide +kernel
theorem dX6_beginChild_35 : decode cX6_beginChild 35 = .ok (.iload_n 2, 1) := by decide +kernel
theorem dX6_beginChild_36 : decode cX6_beginChild 36 = .ok (.iaload, 1) := by decide +kernel
theorem dX6_beginChild_37 : decode cX6_beginChild 37 = .ok (.iconst 1, 1) := by decide +kernel
theorem dX6_beginChild_38 : decode cX6_beginChild 38 = .ok (.isub, 1) := by decide +kernel
theorem dX6_beginChild_39 : decode cX6_beginChild 39 = .ok (.istore 5, 2) := by decide +kernel
theorem dX6_beginChild_41 : decode cX6_beginChild 41 = .ok (.iload 5, 2) := by decide +kernel
theorem dX6_beginChild_43 : decode cX6_beginChild 43 = .ok (.ifCond .lt 20, 3) := by decide +kernel
theorem dX6_beginChild_46 : decode cX6_beginChild 46 = .ok (.aload 4, 2) := by decide +kernel
theorem dX6_beginChild_48 : decode cX6_beginChild 48 = .ok (.iload 5, 2) := by decide +kernel
theorem dX6_beginChild_50 : decode cX6_beginChild 50 = .ok (.aload_n 0, 1) := by decide +kernel
theorem dX6_beginChild_51 : decode cX6_beginChild 51 = .ok (.invokevirtual 145, 3) := by decide +kernel
theorem dX6_beginChild_54 : decode cX6_beginChild 54 = .ok (.invokevirtual 159, 3) := by decide +kernel
theorem dX6_beginChild_57 : decode cX6_beginChild 57 = .ok (.iinc 5 (-1), 3) := by decide +kernel
theorem dX6_beginChild_60 : decode cX6_beginChild 60 = .ok (.goto (-19), 3) := by decide +kernel
theorem dX6_beginChild_63 : decode cX6_beginChild 63 = .ok (.aload_n 0, 1) := by decide +kernel
theorem dX6_beginChild_64 : decode cX6_beginChild 64 = .ok (.getfield 22, 3) := by decide +kernel
theorem dX6_beginChild_67 : decode cX6_beginChild 67 = .ok (.aload_n 1, 1) := by decide +kernel
theorem dX6_beginChild_68 : decode cX6_beginChild 68 = .ok (.iconst 3, 1) := by decide +kernel
theorem dX6_beginChild_69 : decode cX6_beginChild 69 = .ok (.invokevirtual 220, 3) := by decide +kernel
theorem dX6_beginChild_72 : decode cX6_beginChild 72 = .ok (.astore 5, 2) := by decide +kernel
theorem dX6_beginChild_74 : decode cX6_beginChild 74 = .ok (.aload 5, 2) := by decide +kernel
theorem dX6_beginChild_76 : decode cX6_beginChild 76 = .ok (.aload 4, 2) := by decide +kernel
theorem dX6_beginChild_78 : decode cX6_beginChild 78 = .ok (.putfield 270, 3) := by decide +kernel
theorem dX6_beginChild_81 : decode cX6_beginChild 81 = .ok (.aload 4, 2) := by decide +kernel
theorem dX6_beginChild_83 : decode cX6_beginChild 83 = .ok (.aload 5, 2) := by decide +kernel
theorem dX6_beginChild_85 : decode cX6_beginChild 85 = .ok (.putfield 274, 3) := by decide +kernel
theorem dX6_beginChild_88 : decode cX6_beginChild 88 = .ok (.aload_n 1, 1) := by decide +kernel
theorem dX6_beginChild_89 : decode cX6_beginChild 89 = .ok (.dup, 1) := by decide +kernel
theorem dX6_beginChild_90 : decode cX6_beginChild 90 = .ok (.getfield 277, 3) := by decide +kernel
theorem dX6_beginChild_93 : decode cX6_beginChild 93 = .ok (.iconst 1, 1) := by decide +kernel
theorem dX6_beginChild_94 : decode cX6_beginChild 94 = .ok (.iadd, 1) := by decide +kernel
theorem dX6_beginChild_95 : decode cX6_beginChild 95 = .ok (.putfield 277, 3) := by decide +kernel
theorem dX6_beginChild_98 : decode cX6_beginChild 98 = .ok (.return_, 1) := by decide +kernel
def wp_X6_beginChild_41 (K : kS → Prop) (k41 : Nat × Nat × Nat × Int32 × kS → Prop) (x0 : Nat) (x1 : Nat) (x4 : Nat) (x5 : Int32) (S : kS) : Prop := ((x5 < 0 → hasO S x0 6 ∧ ∀ z15 : Option Nat, z15 = S.2.1 41 x0 → ∃ q16 : Nat, z15 = some q16 ∧ hasO S q16 1 ∧ wp_X1_newPart q16 x1 3 S (fun (S17 : kS) (o17 : Option Nat) => ∃ q18 : Nat, o17 = some q18 ∧ hasO S17 q18 4 ∧ ∀ S19 : kS, S19 = cR S17 22 q18 (some x4) → hasO S19 x4 9 ∧ ∀ S20 : kS, S20 = cR S19 57 x4 (some q18) → hasO S20 x1 9 ∧ ∀ z21 : Int32, z21 = S20.1 37 x1 → ∀ z22 : Int32, z22 = z21 + 1 → hasO S20 x1 9 ∧ ∀ S23 : kS, S23 = cI S20 37 x1 z22 → K S23)) ∧ (¬ x5 < 0 → hasO S x0 6 ∧ wp_X6_pop x0 S (fun (S24 : kS) (r24 : Int32) => hasO S24 x4 9 ∧ wp_X9_set x4 x5 r24 S24 (fun (S25 : kS) => ∀ z26 : Int32, z26 = x5 + (-1) → k41 (x0, x1, x4, z26, S25)))))
def ls_X6_beginChild_41 (K : kS → Prop) (k41 : Nat × Nat × Nat × Int32 × kS → Prop) (u : Nat × Nat × Nat × Int32 × kS) : Prop := wp_X6_beginChild_41 K k41 u.1 u.2.1 u.2.2.1 u.2.2.2.1 u.2.2.2.2
def wp_X6_beginChild (t0 : Nat) (a0 : Nat) (a1 : Int32) (a2 : Int32) (S : kS) (K : kS → Prop) : Prop := hasO S t0 6 ∧ ∀ z1 : Option Nat, z1 = S.2.1 41 t0 → ∃ q2 : Nat, z1 = some q2 ∧ hasO S q2 1 ∧ wp_X1_newTask q2 a1 (some a0) S (fun (S3 : kS) (o3 : Option Nat) => ((o3 = none → hasO S3 t0 6 ∧ wp_X6_fail t0 a0 23 a2 S3 (fun (S5 : kS) => K S5)) ∧ (∀ q4 : Nat, o3 = some q4 → hasO S3 t0 6 ∧ ∀ z6 : Option Nat, z6 = S3.2.1 41 t0 → ∃ q7 : Nat, z6 = some q7 ∧ hasO S3 q7 1 ∧ ∀ z8 : Option Nat, z8 = S3.2.1 2 q7 → ∃ q9 : Nat, z8 = some q9 ∧ hasO S3 q9 5 ∧ ∀ z10 : Option Nat, z10 = S3.2.1 34 q9 → ∃ q11 : Nat, z10 = some q11 ∧ hasA S3 q11 12 0 ∧ inR a1 12 ∧ ∀ z12 : Int32, z12 = S3.2.2.1 q11 (ix a1) → ∀ z13 : Int32, z13 = z12 - 1 → (∃ n9, it (ls_X6_beginChild_41 K) n9 (t0, a0, q4, z13, S3)))))
theorem cwn_X6_263 {R : Room} {s : State} {args : Array Value} {fr lo : Nat} (hts : ∀ w ∈ tb, w.before args s = true) (h1 : fr + 1 ≤ R.frames) (h2 : 8 + (5 + 11) + lo ≤ R.locals) : CallW R s args RX6 RX1 263 yX1_newTask cX1_newTask 5 (some (.object "Sleepers$Task")) (.code yX1_newTask cX1_newTask 5 (some (.object "Sleepers$Task")) :: tb) (kRm fr lo 4 (20 * 4)) 4 (20 * 4) 2 := cwV 2 hts (gd_V wd_1143 wd_853 wd_854 wd_9 wd_855) rfl rfl rfl (by decide +kernel) ⟨h1, h2⟩
set_option maxHeartbeats 4000000 in
set_option maxRecDepth 100000 in
theorem kt_X6_beginChild (l : Launch) (S : kS) (t0 : Nat) (a0 : Nat) (a1 : Int32) (a2 : Int32) (K : kS → Prop) (h : wp_X6_beginChild t0 a0 a1 a2 S K) : nMv l yX6_beginChild cX6_beginChild 6 none 3 79 5 [.ref t0, .ref a0, .int a1, .int a2] S K := by
  refine nv_ofv (own := RX6) (by decide) rfl (Nat.le_of_ble_eq_true rfl) ?_
  intro E p e R s m args below meth c A ls Q hRf hRl hRc hRs hX hC hl hmL hini hret
  obtain ⟨n0, hn⟩ : ∃ n0, cnt S = n0 := ⟨_, rfl⟩
  rw [hn] at hret ⊢
  have hx := hX.1.1
  have hb := hX.1.2.1
  have hown := hX.1.2.2.2.1
  have hts := hX.1.2.2.2.2
  have cut41 : ∀ (n41 : Nat) (x0 : Nat) (x1 : Nat) (x4 : Nat) (x5 : Int32) (S : kS) (n : Nat) (H : Heap) (locs : List Loc) (ls : Array Slot), it (ls_X6_beginChild_41 K) n41 (x0, x1, x4, x5, S) → cM E A s.heap S H locs → cnt S = n → n0 ≤ n → n ≤ n0 + 4 → lv_has ls 6 [(0, .ref x0), (1, .ref x1), (4, .ref x4), (5, .int x5)] → W p l e R s m args below meth c H locs (n - n0) (20 * (n - n0)) Q (F0 m 41 ls []) := by
    intro n41
    induction n41 with
    | zero => intro x0 x1 x4 x5 S n H locs ls h hC hn hb1 hb2 hl; exact h.elim
    | succ n41 ih41 =>
      intro x0 x1 x4 x5 S n H locs ls h hC hn hb1 hb2 hl
      have h : wp_X6_beginChild_41 K (it (ls_X6_beginChild_41 K) n41) x0 x1 x4 x5 S := h
      unfold wp_X6_beginChild_41 at h
      refine lv_iload hx hb dX6_beginChild_41 (lv_at hl 3 rfl) ?_
      refine lv_if_lt (tgt := 63) hx hb dX6_beginChild_43 (by decide) (fun c14 => ?_) (fun c14 => ?_)
      · have h := h.1 c14
        refine lv_aload_n hx hb dX6_beginChild_63 rfl (lv_at hl 0 rfl) ?_
        refine cq_getr (ci := 6) (k := 3) (f := 41) hX hC rfl in_X6 (by decide) wd_307 (fun _ h9 => h9) (fun _ _ => rfl) dX6_beginChild_64 h (fun z15 h => ?_)
        refine lv_aload_n hx hb dX6_beginChild_67 rfl (lv_at hl 1 rfl) ?_
        refine lv_iconst (v := 3) hx hb dX6_beginChild_68 (by decide) ?_
        obtain ⟨q16, e9, hh⟩ := h
        subst e9
        have h := hh
        clear hh
        refine nv_callo [.ref x1, .int 3] (rest := []) (ci := 1) rfl hX hC h.1 (kt_X1_newPart l S q16 x1 3 _ h.2 E _) (cwn_X6_220 hts (by omega) (by omega)) rfl hl.1 (Nat.le_of_ble_eq_true rfl) ⟨by omega, by omega⟩ dX6_beginChild_69 (fun o17 S17 H locs hC hn1 hn2 h => ?_)
        obtain ⟨n17, hn9⟩ : ∃ n9, cnt S17 = n9 := ⟨_, rfl⟩
        have hb9 : n ≤ n17 ∧ n17 ≤ n + 1 := by omega
        refine W.widen (k := n17 - n0) (n := 20 * (n17 - n0)) (by omega) (by omega) ?_
        replace hn := hn9
        refine lo_astore (lv' := [(5, va_rf o17), (0, .ref x0), (1, .ref x1), (4, .ref x4)]) hx hb dX6_beginChild_72 hl (by decide) (by rcases o17 with _ | _ <;> rfl) (fun ls hl => ?_)
        refine lo_aload hx hb dX6_beginChild_74 (lv_at hl 0 rfl) ?_
        refine lv_aload hx hb dX6_beginChild_76 (lv_at hl 3 rfl) ?_
        obtain ⟨q18, e9, hh⟩ := h
        subst e9
        have h := hh
        clear hh
        refine cq_putr (v := (some x4)) (ci := 4) (k := 6) (f := 22) hX hC rfl in_X4 (by decide) wd_1073 (fun _ h9 => h9) tyX4 tyX4_ok nmX4 rfl rfl (fun _ _ => Nat.le_of_ble_eq_true rfl) (fun _ _ _ => rfl) dX6_beginChild_78 h.1 (fun S9 e9 => And.intro (h.2 S9 e9) (show cnt S9 = n17 by rw [e9]; exact hn)) (fun S19 H locs hC hh => ?_)
        obtain ⟨h, hn⟩ := hh
        refine lv_aload hx hb dX6_beginChild_81 (lv_at hl 3 rfl) ?_
        refine lv_aload hx hb dX6_beginChild_83 (lv_at hl 0 rfl) ?_
        refine cq_putr (v := (some q18)) (ci := 9) (k := 3) (f := 57) hX hC rfl in_X9 (by decide) wd_872 (fun _ h9 => h9) tyX9 tyX9_ok nmX9 rfl rfl (fun _ _ => Nat.le_of_ble_eq_true rfl) (fun _ _ _ => rfl) dX6_beginChild_85 h.1 (fun S9 e9 => And.intro (h.2 S9 e9) (show cnt S9 = n17 by rw [e9]; exact hn)) (fun S20 H locs hC hh => ?_)
        obtain ⟨h, hn⟩ := hh
        refine lv_aload_n hx hb dX6_beginChild_88 rfl (lv_at hl 2 rfl) ?_
        refine lv_dup hx hb dX6_beginChild_89 rfl ?_
        refine cq_geti (ci := 9) (k := 17) (f := 37) hX hC rfl in_X9 (by decide) wd_903 (fun _ h9 => h9) (fun _ _ => rfl) dX6_beginChild_90 h (fun z21 h => ?_)
        refine lv_iconst (v := 1) hx hb dX6_beginChild_93 (by decide) ?_
        refine lq_iadd hx hb dX6_beginChild_94 h (fun z22 h => ?_)
        refine cq_puti (v := z22) (ci := 9) (k := 17) (f := 37) hX hC rfl in_X9 (by decide) wd_903 (fun _ h9 => h9) tyX9 tyX9_ok nmX9 rfl rfl rfl (fun _ _ => Nat.le_of_ble_eq_true rfl) (fun _ _ _ => rfl) dX6_beginChild_95 h.1 (fun S9 e9 => And.intro (h.2 S9 e9) (show cnt S9 = n17 by rw [e9]; exact hn)) (fun S23 H locs hC hh => ?_)
        obtain ⟨h, hn⟩ := hh
        exact hret _ n17 _ _ _ _ hC hn (by omega) (by omega) h dX6_beginChild_98
      · have h := h.2 c14
        refine lv_aload hx hb dX6_beginChild_46 (lv_at hl 2 rfl) ?_
        refine lv_iload hx hb dX6_beginChild_48 (lv_at hl 3 rfl) ?_
        refine lv_aload_n hx hb dX6_beginChild_50 rfl (lv_at hl 0 rfl) ?_
        refine kv_calli [] (rest := [.int x5, .ref x4]) (ci := 6) rfl hX hC h.1 (kt_X6_pop l S x0 _ (km_X6_pop _ _ _ _ (fun S9 r9 hF h => And.intro h (show cnt S9 = n by show S9.2.2.2.2.2.length = _; rw [hF.2.2.2.2.2]; exact hn)) h.2) E _) (cw_X6_145 hts (by omega) (by omega)) rfl hl.1 (Nat.le_of_ble_eq_true rfl) ⟨by omega, by omega⟩ dX6_beginChild_51 (fun r24 S24 H locs hC hh => ?_)
        obtain ⟨h, hn⟩ := hh
        refine kv_callv [.int x5, .int r24] (rest := []) (ci := 9) rfl hX hC h.1 (kt_X9_set l S24 x4 x5 r24 _ (km_X9_set _ _ _ _ _ _ (fun S9 hF h => And.intro h (show cnt S9 = n by show S9.2.2.2.2.2.length = _; rw [hF.2.2.2.2.2]; exact hn)) h.2) E _) (cw_X6_159 hts (by omega) (by omega)) rfl hl.1 (Nat.le_of_ble_eq_true rfl) ⟨by omega, by omega⟩ dX6_beginChild_54 (fun S25 H locs hC hh => ?_)
        obtain ⟨h, hn⟩ := hh
        obtain ⟨z26, ez26⟩ : ∃ y : Int32, y = x5 + (-1) := ⟨_, rfl⟩
        have h := h z26 ez26
        refine lv_iinc (v := z26) (lv' := [(5, .int z26), (0, .ref x0), (1, .ref x1), (4, .ref x4)]) hx hb dX6_beginChild_57 hl (k := 3) rfl (by rw [ez26]; rfl) (by decide) rfl (fun ls hl => ?_)
        refine lv_goto (tgt := 41) hx hb dX6_beginChild_60 (by decide) ?_
        exact ih41 x0 x1 x4 z26 S25 n _ _ _ h hC hn (by omega) (by omega) (lv_sub hl [1, 2, 3, 0] rfl)
  have hl : lv_has ls 6 [(0, .ref t0), (1, .ref a0), (2, .int a1), (3, .int a2)] := hl
  unfold wp_X6_beginChild at h
  refine lv_aload_n hx hb dX6_beginChild_0 rfl (lv_at hl 0 rfl) ?_
  refine cq_getr (ci := 6) (k := 3) (f := 41) hX hC rfl in_X6 (by decide) wd_307 (fun _ h9 => h9) (fun _ _ => rfl) dX6_beginChild_1 h (fun z1 h => ?_)
  refine lv_iload_n hx hb dX6_beginChild_4 rfl (lv_at hl 2 rfl) ?_
  refine lv_aload_n hx hb dX6_beginChild_5 rfl (lv_at hl 1 rfl) ?_
  obtain ⟨q2, e9, hh⟩ := h
  subst e9
  have h := hh
  clear hh
  refine nv_callo [.int a1, va_rf (some a0)] (rest := []) (ci := 1) rfl hX hC h.1 (kt_X1_newTask l S q2 a1 (some a0) _ h.2 E _) (cwn_X6_263 hts (by omega) (by omega)) rfl hl.1 (Nat.le_of_ble_eq_true rfl) ⟨by omega, by omega⟩ dX6_beginChild_6 (fun o3 S3 H locs hC hn1 hn2 h => ?_)
  obtain ⟨n3, hn9⟩ : ∃ n9, cnt S3 = n9 := ⟨_, rfl⟩
  have hb9 : n0 ≤ n3 ∧ n3 ≤ n0 + 4 := by omega
  refine W.widen (k := n3 - n0) (n := 20 * (n3 - n0)) (by omega) (by omega) ?_
  replace hn := hn9
  refine lo_astore (lv' := [(4, va_rf o3), (0, .ref t0), (1, .ref a0), (2, .int a1), (3, .int a2)]) hx hb dX6_beginChild_9 hl (by decide) (by rcases o3 with _ | _ <;> rfl) (fun ls hl => ?_)
  refine lo_aload hx hb dX6_beginChild_11 (lv_at hl 0 rfl) ?_
  rcases o3 with _ | q4
  · have h := h.1 rfl
    refine lv_ifnonnullN hx hb dX6_beginChild_13 ?_
    refine lv_aload_n hx hb dX6_beginChild_16 rfl (lv_at hl 1 rfl) ?_
    refine lv_aload_n hx hb dX6_beginChild_17 rfl (lv_at hl 2 rfl) ?_
    refine lv_bipush (v := 23) hx hb dX6_beginChild_18 (by decide) ?_
    refine lv_iload_n hx hb dX6_beginChild_20 rfl (lv_at hl 4 rfl) ?_
    refine kv_callv [.ref a0, .int 23, .int a2] (rest := []) (ci := 6) rfl hX hC h.1 (kt_X6_fail l S3 t0 a0 23 a2 _ (km_X6_fail _ _ _ _ _ _ _ (fun S9 hF h => And.intro h (show cnt S9 = n3 by show S9.2.2.2.2.2.length = _; rw [hF.2.2.2.2.2]; exact hn)) h.2) E _) (cw_X6_152 hts (by omega) (by omega)) rfl hl.1 (Nat.le_of_ble_eq_true rfl) ⟨by omega, by omega⟩ dX6_beginChild_21 (fun S5 H locs hC hh => ?_)
    obtain ⟨h, hn⟩ := hh
    exact hret _ n3 _ _ _ _ hC hn (by omega) (by omega) h dX6_beginChild_24
  · have h := h.2 q4 rfl
    refine lv_ifnonnull (tgt := 25) hx hb dX6_beginChild_13 (by decide) ?_
    refine lv_aload_n hx hb dX6_beginChild_25 rfl (lv_at hl 1 rfl) ?_
    refine cq_getr (ci := 6) (k := 3) (f := 41) hX hC rfl in_X6 (by decide) wd_307 (fun _ h9 => h9) (fun _ _ => rfl) dX6_beginChild_26 h (fun z6 h => ?_)
    obtain ⟨q7, e9, hh⟩ := h
    subst e9
    have h := hh
    clear hh
    refine cq_getr (ci := 1) (k := 0) (f := 2) hX hC rfl in_X1 (by decide) wd_234 (fun _ h9 => h9) (fun _ _ => rfl) dX6_beginChild_29 h (fun z8 h => ?_)
    obtain ⟨q9, e9, hh⟩ := h
    subst e9
    have h := hh
    clear hh
    refine cq_getr (ci := 5) (k := 8) (f := 34) hX hC rfl in_X5 (by decide) wd_424 (fun _ h9 => h9) (fun _ _ => rfl) dX6_beginChild_32 h (fun z10 h => ?_)
    refine lv_iload_n hx hb dX6_beginChild_35 rfl (lv_at hl 3 rfl) ?_
    obtain ⟨q11, e9, hh⟩ := h
    subst e9
    have h := hh
    clear hh
    refine cq_ild hX hC dX6_beginChild_36 h (fun z12 h => ?_)
    refine lv_iconst (v := 1) hx hb dX6_beginChild_37 (by decide) ?_
    refine lq_isub hx hb dX6_beginChild_38 h (fun z13 h => ?_)
    refine lv_istore (lv' := [(5, .int z13), (4, .ref q4), (0, .ref t0), (1, .ref a0), (2, .int a1), (3, .int a2)]) hx hb dX6_beginChild_39 hl (by decide) rfl (fun ls hl => ?_)
    obtain ⟨n9, h⟩ := h
    exact cut41 n9 t0 a0 q4 z13 S3 n3 _ _ _ h hC hn (by omega) (by omega) (lv_sub hl [2, 3, 1, 0] rfl)
def wp_X6_attend (t0 : Nat) (a0 : Nat) (a1 : Int32) (a2 : Int32) (S : kS) (K : kS → Prop) : Prop := hasO S t0 6 ∧ ∀ z1 : Option Nat, z1 = S.2.1 41 t0 → ∃ q2 : Nat, z1 = some q2 ∧ hasO S q2 1 ∧ ∀ z3 : Option Nat, z3 = S.2.1 2 q2 → ∃ q4 : Nat, z3 = some q4 ∧ hasO S q4 5 ∧ ∀ z5 : Option Nat, z5 = S.2.1 29 q4 → ∃ q6 : Nat, z5 = some q6 ∧ hasA S q6 8064 0 ∧ inR a2 8064 ∧ ∀ z7 : Int32, z7 = S.2.2.1 q6 (ix a2) → ((a1 = 25 → hasO S a0 9 ∧ ∀ S9 : kS, S9 = cI S 33 a0 z7 → hasO S9 a0 9 ∧ ∀ S10 : kS, S10 = cI S9 30 a0 5 → K S10) ∧ (¬ a1 = 25 → ((a1 = 26 → K S) ∧ (¬ a1 = 26 → ((a1 = 27 → hasO S t0 6 ∧ wp_X6_beginLetter t0 a0 z7 S (fun (S13 : kS) => K S13)) ∧ (¬ a1 = 27 → ((a1 = 28 → hasO S t0 6 ∧ wp_X6_pop t0 S (fun (S15 : kS) (r15 : Int32) => hasO S15 t0 6 ∧ wp_X6_beginTick t0 a0 r15 S15 (fun (S16 : kS) => K S16))) ∧ (¬ a1 = 28 → ((a1 = 29 → hasO S t0 6 ∧ ∀ z18 : Option Nat, z18 = S.2.1 41 t0 → ∃ q19 : Nat, z18 = some q19 ∧ hasO S q19 1 ∧ wp_X1_newPart q19 a0 1 S (fun (S20 : kS) (o20 : Option Nat) => ∃ q21 : Nat, o20 = some q21 ∧ hasO S20 t0 6 ∧ wp_X6_come t0 q21 0 S20 (fun (S22 : kS) => K S22))) ∧ (¬ a1 = 29 → ((a1 = 30 → hasO S t0 6 ∧ wp_X6_beginChild t0 a0 z7 a2 S (fun (S24 : kS) => K S24)) ∧ (¬ a1 = 30 → ((a1 = 31 → hasO S t0 6 ∧ ∀ z26 : Option Nat, z26 = S.2.1 41 t0 → ∃ q27 : Nat, z26 = some q27 ∧ hasO S q27 1 ∧ wp_X1_newPart q27 a0 4 S (fun (S28 : kS) (o28 : Option Nat) => hasO S28 a0 9 ∧ ∀ S29 : kS, S29 = cR S28 63 a0 o28 → hasO S29 a0 9 ∧ ∀ z30 : Option Nat, z30 = S29.2.1 63 a0 → ∃ q31 : Nat, z30 = some q31 ∧ hasO S29 q31 4 ∧ ∀ S32 : kS, S32 = cI S29 15 q31 z7 → K S32)) ∧ (¬ a1 = 31 → ((a1 = 32 → hasO S t0 6 ∧ ∀ z34 : Option Nat, z34 = S.2.1 41 t0 → ∃ q35 : Nat, z34 = some q35 ∧ hasO S q35 1 ∧ wp_X1_newPart q35 a0 5 S (fun (S36 : kS) (o36 : Option Nat) => hasO S36 a0 9 ∧ ∀ S37 : kS, S37 = cR S36 63 a0 o36 → K S37)) ∧ (¬ a1 = 32 → ((a1 = 33 → hasO S t0 6 ∧ ∀ z39 : Option Nat, z39 = S.2.1 41 t0 → ∃ q40 : Nat, z39 = some q40 ∧ hasO S q40 1 ∧ wp_X1_newPart q40 a0 6 S (fun (S41 : kS) (o41 : Option Nat) => hasO S41 a0 9 ∧ ∀ S42 : kS, S42 = cR S41 63 a0 o41 → hasO S42 a0 9 ∧ ∀ z43 : Option Nat, z43 = S42.2.1 63 a0 → hasO S42 t0 6 ∧ wp_X6_pop t0 S42 (fun (S44 : kS) (r44 : Int32) => ∃ q45 : Nat, z43 = some q45 ∧ hasO S44 q45 4 ∧ ∀ S46 : kS, S46 = cI S44 15 q45 r44 → K S46))) ∧ (¬ a1 = 33 → ((a1 = 34 → hasO S t0 6 ∧ wp_X6_closePart t0 a0 S (fun (S48 : kS) => K S48)) ∧ (¬ a1 = 34 → hasO S a0 9 ∧ ∀ S49 : kS, S49 = cI S 36 a0 a2 → hasO S49 t0 6 ∧ ∀ S50 : kS, S50 = cI S49 22 t0 1 → K S50))))))))))))))))))))
theorem cwn_X6_217 {R : Room} {s : State} {args : Array Value} {fr lo : Nat} (hts : ∀ w ∈ tb, w.before args s = true) (h1 : fr + 1 ≤ R.frames) (h2 : 8 + (4 + 11) + lo ≤ R.locals) : CallW R s args RX6 RX6 217 yX6_beginLetter cX6_beginLetter 4 none (.code yX6_beginLetter cX6_beginLetter 4 none :: tb) (kRm fr lo 1 (20 * 1)) 1 (20 * 1) 2 := cwV 2 hts (gd_V wd_1042 wd_1044 sl_X6_beginLetter wd_12 wd_1045) rfl rfl rfl (by decide +kernel) ⟨h1, h2⟩
theorem cwn_X6_228 {R : Room} {s : State} {args : Array Value} {fr lo : Nat} (hts : ∀ w ∈ tb, w.before args s = true) (h1 : fr + 1 ≤ R.frames) (h2 : 8 + (4 + 11) + lo ≤ R.locals) : CallW R s args RX6 RX6 228 yX6_beginTick cX6_beginTick 4 none (.code yX6_beginTick cX6_beginTick 4 none :: tb) (kRm fr lo 1 (20 * 1)) 1 (20 * 1) 2 := cwV 2 hts (gd_V wd_1129 wd_1131 sl_X6_beginTick wd_12 wd_1132) rfl rfl rfl (by decide +kernel) ⟨h1, h2⟩
theorem cwn_X6_231 {R : Room} {s : State} {args : Array Value} {fr lo : Nat} (hts : ∀ w ∈ tb, w.before args s = true) (h1 : fr + 1 ≤ R.frames) (h2 : 8 + (6 + 11) + lo ≤ R.locals) : CallW R s args RX6 RX6 231 yX6_beginChild cX6_beginChild 6 none (.code yX6_beginChild cX6_beginChild 6 none :: tb) (kRm fr lo 5 (20 * 5)) 5 (20 * 5) 3 := cwV 3 hts (gd_V wd_1139 wd_1141 sl_X6_beginChild wd_12 wd_1142) rfl rfl rfl (by decide +kernel) ⟨h1, h2⟩
theorem cw_X6_241 {R : Room} {s : State} {args : Array Value} {fr lo : Nat} (hts : ∀ w ∈ tb, w.before args s = true) (h1 : fr + 1 ≤ R.frames) (h2 : 8 + (3 + 11) + lo ≤ R.locals) : CallW R s args RX6 RX6 241 yX6_closePart cX6_closePart 3 none (.code yX6_closePart cX6_closePart 3 none :: tb) (mRm fr lo) 0 0 1 := cwV 1 hts (gd_V wd_1144 wd_1146 sl_X6_closePart wd_12 wd_1147) rfl rfl rfl (by decide +kernel) ⟨h1, h2⟩
set_option maxHeartbeats 4000000 in
set_option maxRecDepth 100000 in
theorem kt_X6_attend (l : Launch) (S : kS) (t0 : Nat) (a0 : Nat) (a1 : Int32) (a2 : Int32) (K : kS → Prop) (h : wp_X6_attend t0 a0 a1 a2 S K) : nMv l yX6_attend cX6_attend 5 none 4 104 5 [.ref t0, .ref a0, .int a1, .int a2] S K := by
  refine nv_ofv (own := RX6) (by decide) rfl (Nat.le_of_ble_eq_true rfl) ?_
  intro E p e R s m args below meth c A ls Q hRf hRl hRc hRs hX hC hl hmL hini hret
  obtain ⟨n0, hn⟩ : ∃ n0, cnt S = n0 := ⟨_, rfl⟩
  rw [hn] at hret ⊢
  have hx := hX.1.1
  have hb := hX.1.2.1
  have hown := hX.1.2.2.2.1
  have hts := hX.1.2.2.2.2
  have hl : lv_has ls 5 [(0, .ref t0), (1, .ref a0), (2, .int a1), (3, .int a2)] := hl
  unfold wp_X6_attend at h
  refine lv_aload_n hx hb dX6_attend_0 rfl (lv_at hl 0 rfl) ?_
  refine cq_getr (ci := 6) (k := 3) (f := 41) hX hC rfl in_X6 (by decide) wd_307 (fun _ h9 => h9) (fun _ _ => rfl) dX6_attend_1 h (fun z1 h => ?_)
  obtain ⟨q2, e9, hh⟩ := h
  subst e9
  have h := hh
  clear hh
  refine cq_getr (ci := 1) (k := 0) (f := 2) hX hC rfl in_X1 (by decide) wd_234 (fun _ h9 => h9) (fun _ _ => rfl) dX6_attend_4 h (fun z3 h => ?_)
  obtain ⟨q4, e9, hh⟩ := h
  subst e9
  have h := hh
  clear hh
  refine cq_getr (ci := 5) (k := 2) (f := 29) hX hC rfl in_X5 (by decide) wd_404 (fun _ h9 => h9) (fun _ _ => rfl) dX6_attend_7 h (fun z5 h => ?_)
  refine lv_iload_n hx hb dX6_attend_10 rfl (lv_at hl 3 rfl) ?_
  obtain ⟨q6, e9, hh⟩ := h
  subst e9
  have h := hh
  clear hh
  refine cq_ild hX hC dX6_attend_11 h (fun z7 h => ?_)
  refine lv_istore (lv' := [(4, .int z7), (0, .ref t0), (1, .ref a0), (2, .int a1), (3, .int a2)]) hx hb dX6_attend_12 hl (by decide) rfl (fun ls hl => ?_)
  refine lv_iload_n hx hb dX6_attend_14 rfl (lv_at hl 3 rfl) ?_
  rcases Decidable.em (a1 = 25) with c8 | c8
  · have h := h.1 c8
    refine lv_tableIn (tgt := 68) hx hb dX6_attend_15 (by rw [c8]; decide) (by rw [c8]; decide) (by rw [c8]; rfl) (by decide) ?_
    refine lv_aload_n hx hb dX6_attend_68 rfl (lv_at hl 2 rfl) ?_
    refine lv_iload hx hb dX6_attend_69 (lv_at hl 0 rfl) ?_
    refine cq_puti (v := z7) (ci := 9) (k := 7) (f := 33) hX hC rfl in_X9 (by decide) wd_884 (fun _ h9 => h9) tyX9 tyX9_ok nmX9 rfl rfl rfl (fun _ _ => Nat.le_of_ble_eq_true rfl) (fun _ _ _ => rfl) dX6_attend_71 h.1 (fun S9 e9 => And.intro (h.2 S9 e9) (show cnt S9 = n0 by rw [e9]; exact hn)) (fun S9 H locs hC hh => ?_)
    obtain ⟨h, hn⟩ := hh
    refine lv_aload_n hx hb dX6_attend_74 rfl (lv_at hl 2 rfl) ?_
    refine lv_iconst (v := 5) hx hb dX6_attend_75 (by decide) ?_
    refine cq_puti (v := 5) (ci := 9) (k := 4) (f := 30) hX hC rfl in_X9 (by decide) wd_873 (fun _ h9 => h9) tyX9 tyX9_ok nmX9 rfl rfl rfl (fun _ _ => Nat.le_of_ble_eq_true rfl) (fun _ _ _ => rfl) dX6_attend_76 h.1 (fun S9 e9 => And.intro (h.2 S9 e9) (show cnt S9 = n0 by rw [e9]; exact hn)) (fun S10 H locs hC hh => ?_)
    obtain ⟨h, hn⟩ := hh
    refine lv_goto (tgt := 222) hx hb dX6_attend_79 (by decide) ?_
    exact hret _ n0 _ _ _ _ hC hn (by omega) (by omega) h dX6_attend_222
  have h := h.2 c8
  rcases Decidable.em (a1 = 26) with c11 | c11
  · have h := h.1 c11
    refine lv_tableIn (tgt := 82) hx hb dX6_attend_15 (by rw [c11]; decide) (by rw [c11]; decide) (by rw [c11]; rfl) (by decide) ?_
    refine lv_goto (tgt := 222) hx hb dX6_attend_82 (by decide) ?_
    exact hret _ n0 _ _ _ _ hC hn (by omega) (by omega) h dX6_attend_222
  have h := h.2 c11
  rcases Decidable.em (a1 = 27) with c12 | c12
  · have h := h.1 c12
    refine lv_tableIn (tgt := 85) hx hb dX6_attend_15 (by rw [c12]; decide) (by rw [c12]; decide) (by rw [c12]; rfl) (by decide) ?_
    refine lv_aload_n hx hb dX6_attend_85 rfl (lv_at hl 1 rfl) ?_
    refine lv_aload_n hx hb dX6_attend_86 rfl (lv_at hl 2 rfl) ?_
    refine lv_iload hx hb dX6_attend_87 (lv_at hl 0 rfl) ?_
    refine nv_callv [.ref a0, .int z7] (rest := []) (ci := 6) rfl hX hC h.1 (kt_X6_beginLetter l S t0 a0 z7 _ h.2 E _) (cwn_X6_217 hts (by omega) (by omega)) rfl hl.1 (Nat.le_of_ble_eq_true rfl) ⟨by omega, by omega⟩ dX6_attend_89 (fun S13 H locs hC hn1 hn2 h => ?_)
    obtain ⟨n13, hn9⟩ : ∃ n9, cnt S13 = n9 := ⟨_, rfl⟩
    have hb9 : n0 ≤ n13 ∧ n13 ≤ n0 + 1 := by omega
    refine W.widen (k := n13 - n0) (n := 20 * (n13 - n0)) (by omega) (by omega) ?_
    replace hn := hn9
    refine lv_goto (tgt := 222) hx hb dX6_attend_92 (by decide) ?_
    exact hret _ n13 _ _ _ _ hC hn (by omega) (by omega) h dX6_attend_222
  have h := h.2 c12
  rcases Decidable.em (a1 = 28) with c14 | c14
  · have h := h.1 c14
    refine lv_tableIn (tgt := 112) hx hb dX6_attend_15 (by rw [c14]; decide) (by rw [c14]; decide) (by rw [c14]; rfl) (by decide) ?_
    refine lv_aload_n hx hb dX6_attend_112 rfl (lv_at hl 1 rfl) ?_
    refine lv_aload_n hx hb dX6_attend_113 rfl (lv_at hl 2 rfl) ?_
    refine lv_aload_n hx hb dX6_attend_114 rfl (lv_at hl 1 rfl) ?_
    refine kv_calli [] (rest := [.ref a0, .ref t0]) (ci := 6) rfl hX hC h.1 (kt_X6_pop l S t0 _ (km_X6_pop _ _ _ _ (fun S9 r9 hF h => And.intro h (show cnt S9 = n0 by show S9.2.2.2.2.2.length = _; rw [hF.2.2.2.2.2]; exact hn)) h.2) E _) (cw_X6_145 hts (by omega) (by omega)) rfl hl.1 (Nat.le_of_ble_eq_true rfl) ⟨by omega, by omega⟩ dX6_attend_115 (fun r15 S15 H locs hC hh => ?_)
    obtain ⟨h, hn⟩ := hh
    refine nv_callv [.ref a0, .int r15] (rest := []) (ci := 6) rfl hX hC h.1 (kt_X6_beginTick l S15 t0 a0 r15 _ h.2 E _) (cwn_X6_228 hts (by omega) (by omega)) rfl hl.1 (Nat.le_of_ble_eq_true rfl) ⟨by omega, by omega⟩ dX6_attend_118 (fun S16 H locs hC hn1 hn2 h => ?_)
    obtain ⟨n16, hn9⟩ : ∃ n9, cnt S16 = n9 := ⟨_, rfl⟩
    have hb9 : n0 ≤ n16 ∧ n16 ≤ n0 + 1 := by omega
    refine W.widen (k := n16 - n0) (n := 20 * (n16 - n0)) (by omega) (by omega) ?_
    replace hn := hn9
    refine lv_goto (tgt := 222) hx hb dX6_attend_121 (by decide) ?_
    exact hret _ n16 _ _ _ _ hC hn (by omega) (by omega) h dX6_attend_222
  have h := h.2 c14
  rcases Decidable.em (a1 = 29) with c17 | c17
  · have h := h.1 c17
    refine lv_tableIn (tgt := 95) hx hb dX6_attend_15 (by rw [c17]; decide) (by rw [c17]; decide) (by rw [c17]; rfl) (by decide) ?_
    refine lv_aload_n hx hb dX6_attend_95 rfl (lv_at hl 1 rfl) ?_
    refine lv_aload_n hx hb dX6_attend_96 rfl (lv_at hl 1 rfl) ?_
    refine cq_getr (ci := 6) (k := 3) (f := 41) hX hC rfl in_X6 (by decide) wd_307 (fun _ h9 => h9) (fun _ _ => rfl) dX6_attend_97 h (fun z18 h => ?_)
    refine lv_aload_n hx hb dX6_attend_100 rfl (lv_at hl 2 rfl) ?_
    refine lv_iconst (v := 1) hx hb dX6_attend_101 (by decide) ?_
    obtain ⟨q19, e9, hh⟩ := h
    subst e9
    have h := hh
    clear hh
    refine nv_callo [.ref a0, .int 1] (rest := [.ref t0]) (ci := 1) rfl hX hC h.1 (kt_X1_newPart l S q19 a0 1 _ h.2 E _) (cwn_X6_220 hts (by omega) (by omega)) rfl hl.1 (Nat.le_of_ble_eq_true rfl) ⟨by omega, by omega⟩ dX6_attend_102 (fun o20 S20 H locs hC hn1 hn2 h => ?_)
    obtain ⟨n20, hn9⟩ : ∃ n9, cnt S20 = n9 := ⟨_, rfl⟩
    have hb9 : n0 ≤ n20 ∧ n20 ≤ n0 + 1 := by omega
    refine W.widen (k := n20 - n0) (n := 20 * (n20 - n0)) (by omega) (by omega) ?_
    replace hn := hn9
    refine lv_iconst (v := 0) hx hb dX6_attend_105 (by decide) ?_
    obtain ⟨q21, e9, hh⟩ := h
    subst e9
    have h := hh
    clear hh
    refine kv_callv [.ref q21, .int 0] (rest := []) (ci := 6) rfl hX hC h.1 (kt_X6_come l S20 t0 q21 0 _ (km_X6_come _ _ _ _ _ _ (fun S9 hF h => And.intro h (show cnt S9 = n20 by show S9.2.2.2.2.2.length = _; rw [hF.2.2.2.2.2]; exact hn)) h.2) E _) (cw_X6_224 hts (by omega) (by omega)) rfl hl.1 (Nat.le_of_ble_eq_true rfl) ⟨by omega, by omega⟩ dX6_attend_106 (fun S22 H locs hC hh => ?_)
    obtain ⟨h, hn⟩ := hh
    refine lv_goto (tgt := 222) hx hb dX6_attend_109 (by decide) ?_
    exact hret _ n20 _ _ _ _ hC hn (by omega) (by omega) h dX6_attend_222
  have h := h.2 c17
  rcases Decidable.em (a1 = 30) with c23 | c23
  · have h := h.1 c23
    refine lv_tableIn (tgt := 124) hx hb dX6_attend_15 (by rw [c23]; decide) (by rw [c23]; decide) (by rw [c23]; rfl) (by decide) ?_
    refine lv_aload_n hx hb dX6_attend_124 rfl (lv_at hl 1 rfl) ?_
    refine lv_aload_n hx hb dX6_attend_125 rfl (lv_at hl 2 rfl) ?_
    refine lv_iload hx hb dX6_attend_126 (lv_at hl 0 rfl) ?_
    refine lv_iload_n hx hb dX6_attend_128 rfl (lv_at hl 4 rfl) ?_
    refine nv_callv [.ref a0, .int z7, .int a2] (rest := []) (ci := 6) rfl hX hC h.1 (kt_X6_beginChild l S t0 a0 z7 a2 _ h.2 E _) (cwn_X6_231 hts (by omega) (by omega)) rfl hl.1 (Nat.le_of_ble_eq_true rfl) ⟨by omega, by omega⟩ dX6_attend_129 (fun S24 H locs hC hn1 hn2 h => ?_)
    obtain ⟨n24, hn9⟩ : ∃ n9, cnt S24 = n9 := ⟨_, rfl⟩
    have hb9 : n0 ≤ n24 ∧ n24 ≤ n0 + 5 := by omega
    refine W.widen (k := n24 - n0) (n := 20 * (n24 - n0)) (by omega) (by omega) ?_
    replace hn := hn9
    refine lv_goto (tgt := 222) hx hb dX6_attend_132 (by decide) ?_
    exact hret _ n24 _ _ _ _ hC hn (by omega) (by omega) h dX6_attend_222
  have h := h.2 c23
  rcases Decidable.em (a1 = 31) with c25 | c25
  · have h := h.1 c25
    refine lv_tableIn (tgt := 135) hx hb dX6_attend_15 (by rw [c25]; decide) (by rw [c25]; decide) (by rw [c25]; rfl) (by decide) ?_
    refine lv_aload_n hx hb dX6_attend_135 rfl (lv_at hl 2 rfl) ?_
    refine lv_aload_n hx hb dX6_attend_136 rfl (lv_at hl 1 rfl) ?_
    refine cq_getr (ci := 6) (k := 3) (f := 41) hX hC rfl in_X6 (by decide) wd_307 (fun _ h9 => h9) (fun _ _ => rfl) dX6_attend_137 h (fun z26 h => ?_)
    refine lv_aload_n hx hb dX6_attend_140 rfl (lv_at hl 2 rfl) ?_
    refine lv_iconst (v := 4) hx hb dX6_attend_141 (by decide) ?_
    obtain ⟨q27, e9, hh⟩ := h
    subst e9
    have h := hh
    clear hh
    refine nv_callo [.ref a0, .int 4] (rest := [.ref a0]) (ci := 1) rfl hX hC h.1 (kt_X1_newPart l S q27 a0 4 _ h.2 E _) (cwn_X6_220 hts (by omega) (by omega)) rfl hl.1 (Nat.le_of_ble_eq_true rfl) ⟨by omega, by omega⟩ dX6_attend_142 (fun o28 S28 H locs hC hn1 hn2 h => ?_)
    obtain ⟨n28, hn9⟩ : ∃ n9, cnt S28 = n9 := ⟨_, rfl⟩
    have hb9 : n0 ≤ n28 ∧ n28 ≤ n0 + 1 := by omega
    refine W.widen (k := n28 - n0) (n := 20 * (n28 - n0)) (by omega) (by omega) ?_
    replace hn := hn9
    refine cq_putr (v := o28) (ci := 9) (k := 16) (f := 63) hX hC rfl in_X9 (by decide) wd_901 (fun _ h9 => h9) tyX9 tyX9_ok nmX9 rfl rfl (fun _ _ => Nat.le_of_ble_eq_true rfl) (fun _ _ _ => rfl) dX6_attend_145 h.1 (fun S9 e9 => And.intro (h.2 S9 e9) (show cnt S9 = n28 by rw [e9]; exact hn)) (fun S29 H locs hC hh => ?_)
    obtain ⟨h, hn⟩ := hh
    refine lv_aload_n hx hb dX6_attend_148 rfl (lv_at hl 2 rfl) ?_
    refine cq_getr (ci := 9) (k := 16) (f := 63) hX hC rfl in_X9 (by decide) wd_901 (fun _ h9 => h9) (fun _ _ => rfl) dX6_attend_149 h (fun z30 h => ?_)
    refine lv_iload hx hb dX6_attend_152 (lv_at hl 0 rfl) ?_
    obtain ⟨q31, e9, hh⟩ := h
    subst e9
    have h := hh
    clear hh
    refine cq_puti (v := z7) (ci := 4) (k := 4) (f := 15) hX hC rfl in_X4 (by decide) wd_1069 (fun _ h9 => h9) tyX4 tyX4_ok nmX4 rfl rfl rfl (fun _ _ => Nat.le_of_ble_eq_true rfl) (fun _ _ _ => rfl) dX6_attend_154 h.1 (fun S9 e9 => And.intro (h.2 S9 e9) (show cnt S9 = n28 by rw [e9]; exact hn)) (fun S32 H locs hC hh => ?_)
    obtain ⟨h, hn⟩ := hh
    refine lv_goto (tgt := 222) hx hb dX6_attend_157 (by decide) ?_
    exact hret _ n28 _ _ _ _ hC hn (by omega) (by omega) h dX6_attend_222
  have h := h.2 c25
  rcases Decidable.em (a1 = 32) with c33 | c33
  · have h := h.1 c33
    refine lv_tableIn (tgt := 160) hx hb dX6_attend_15 (by rw [c33]; decide) (by rw [c33]; decide) (by rw [c33]; rfl) (by decide) ?_
    refine lv_aload_n hx hb dX6_attend_160 rfl (lv_at hl 2 rfl) ?_
    refine lv_aload_n hx hb dX6_attend_161 rfl (lv_at hl 1 rfl) ?_
    refine cq_getr (ci := 6) (k := 3) (f := 41) hX hC rfl in_X6 (by decide) wd_307 (fun _ h9 => h9) (fun _ _ => rfl) dX6_attend_162 h (fun z34 h => ?_)
    refine lv_aload_n hx hb dX6_attend_165 rfl (lv_at hl 2 rfl) ?_
    refine lv_iconst (v := 5) hx hb dX6_attend_166 (by decide) ?_
    obtain ⟨q35, e9, hh⟩ := h
    subst e9
    have h := hh
    clear hh
    refine nv_callo [.ref a0, .int 5] (rest := [.ref a0]) (ci := 1) rfl hX hC h.1 (kt_X1_newPart l S q35 a0 5 _ h.2 E _) (cwn_X6_220 hts (by omega) (by omega)) rfl hl.1 (Nat.le_of_ble_eq_true rfl) ⟨by omega, by omega⟩ dX6_attend_167 (fun o36 S36 H locs hC hn1 hn2 h => ?_)
    obtain ⟨n36, hn9⟩ : ∃ n9, cnt S36 = n9 := ⟨_, rfl⟩
    have hb9 : n0 ≤ n36 ∧ n36 ≤ n0 + 1 := by omega
    refine W.widen (k := n36 - n0) (n := 20 * (n36 - n0)) (by omega) (by omega) ?_
    replace hn := hn9
    refine cq_putr (v := o36) (ci := 9) (k := 16) (f := 63) hX hC rfl in_X9 (by decide) wd_901 (fun _ h9 => h9) tyX9 tyX9_ok nmX9 rfl rfl (fun _ _ => Nat.le_of_ble_eq_true rfl) (fun _ _ _ => rfl) dX6_attend_170 h.1 (fun S9 e9 => And.intro (h.2 S9 e9) (show cnt S9 = n36 by rw [e9]; exact hn)) (fun S37 H locs hC hh => ?_)
    obtain ⟨h, hn⟩ := hh
    refine lv_goto (tgt := 222) hx hb dX6_attend_173 (by decide) ?_
    exact hret _ n36 _ _ _ _ hC hn (by omega) (by omega) h dX6_attend_222
  have h := h.2 c33
  rcases Decidable.em (a1 = 33) with c38 | c38
  · have h := h.1 c38
    refine lv_tableIn (tgt := 176) hx hb dX6_attend_15 (by rw [c38]; decide) (by rw [c38]; decide) (by rw [c38]; rfl) (by decide) ?_
    refine lv_aload_n hx hb dX6_attend_176 rfl (lv_at hl 2 rfl) ?_
    refine lv_aload_n hx hb dX6_attend_177 rfl (lv_at hl 1 rfl) ?_
    refine cq_getr (ci := 6) (k := 3) (f := 41) hX hC rfl in_X6 (by decide) wd_307 (fun _ h9 => h9) (fun _ _ => rfl) dX6_attend_178 h (fun z39 h => ?_)
    refine lv_aload_n hx hb dX6_attend_181 rfl (lv_at hl 2 rfl) ?_
    refine lv_bipush (v := 6) hx hb dX6_attend_182 (by decide) ?_
    obtain ⟨q40, e9, hh⟩ := h
    subst e9
    have h := hh
    clear hh
    refine nv_callo [.ref a0, .int 6] (rest := [.ref a0]) (ci := 1) rfl hX hC h.1 (kt_X1_newPart l S q40 a0 6 _ h.2 E _) (cwn_X6_220 hts (by omega) (by omega)) rfl hl.1 (Nat.le_of_ble_eq_true rfl) ⟨by omega, by omega⟩ dX6_attend_184 (fun o41 S41 H locs hC hn1 hn2 h => ?_)
    obtain ⟨n41, hn9⟩ : ∃ n9, cnt S41 = n9 := ⟨_, rfl⟩
    have hb9 : n0 ≤ n41 ∧ n41 ≤ n0 + 1 := by omega
    refine W.widen (k := n41 - n0) (n := 20 * (n41 - n0)) (by omega) (by omega) ?_
    replace hn := hn9
    refine cq_putr (v := o41) (ci := 9) (k := 16) (f := 63) hX hC rfl in_X9 (by decide) wd_901 (fun _ h9 => h9) tyX9 tyX9_ok nmX9 rfl rfl (fun _ _ => Nat.le_of_ble_eq_true rfl) (fun _ _ _ => rfl) dX6_attend_187 h.1 (fun S9 e9 => And.intro (h.2 S9 e9) (show cnt S9 = n41 by rw [e9]; exact hn)) (fun S42 H locs hC hh => ?_)
    obtain ⟨h, hn⟩ := hh
    refine lv_aload_n hx hb dX6_attend_190 rfl (lv_at hl 2 rfl) ?_
    refine cq_getr (ci := 9) (k := 16) (f := 63) hX hC rfl in_X9 (by decide) wd_901 (fun _ h9 => h9) (fun _ _ => rfl) dX6_attend_191 h (fun z43 h => ?_)
    refine lv_aload_n hx hb dX6_attend_194 rfl (lv_at hl 1 rfl) ?_
    refine kv_calli [] (rest := [va_rf z43]) (ci := 6) rfl hX hC h.1 (kt_X6_pop l S42 t0 _ (km_X6_pop _ _ _ _ (fun S9 r9 hF h => And.intro h (show cnt S9 = n41 by show S9.2.2.2.2.2.length = _; rw [hF.2.2.2.2.2]; exact hn)) h.2) E _) (cw_X6_145 hts (by omega) (by omega)) rfl hl.1 (by rcases z43 with _ | _ <;> exact Nat.le_of_ble_eq_true rfl) ⟨by omega, by omega⟩ dX6_attend_195 (fun r44 S44 H locs hC hh => ?_)
    obtain ⟨h, hn⟩ := hh
    obtain ⟨q45, e9, hh⟩ := h
    subst e9
    have h := hh
    clear hh
    refine cq_puti (v := r44) (ci := 4) (k := 4) (f := 15) hX hC rfl in_X4 (by decide) wd_1069 (fun _ h9 => h9) tyX4 tyX4_ok nmX4 rfl rfl rfl (fun _ _ => Nat.le_of_ble_eq_true rfl) (fun _ _ _ => rfl) dX6_attend_198 h.1 (fun S9 e9 => And.intro (h.2 S9 e9) (show cnt S9 = n41 by rw [e9]; exact hn)) (fun S46 H locs hC hh => ?_)
    obtain ⟨h, hn⟩ := hh
    refine lv_goto (tgt := 222) hx hb dX6_attend_201 (by decide) ?_
    exact hret _ n41 _ _ _ _ hC hn (by omega) (by omega) h dX6_attend_222
  have h := h.2 c38
  rcases Decidable.em (a1 = 34) with c47 | c47
  · have h := h.1 c47
    refine lv_tableIn (tgt := 204) hx hb dX6_attend_15 (by rw [c47]; decide) (by rw [c47]; decide) (by rw [c47]; rfl) (by decide) ?_
    refine lv_aload_n hx hb dX6_attend_204 rfl (lv_at hl 1 rfl) ?_
    refine lv_aload_n hx hb dX6_attend_205 rfl (lv_at hl 2 rfl) ?_
    refine kv_callv [.ref a0] (rest := []) (ci := 6) rfl hX hC h.1 (kt_X6_closePart l S t0 a0 _ (km_X6_closePart _ _ _ _ _ (fun S9 hF h => And.intro h (show cnt S9 = n0 by show S9.2.2.2.2.2.length = _; rw [hF.2.2.2.2.2]; exact hn)) h.2) E _) (cw_X6_241 hts (by omega) (by omega)) rfl hl.1 (Nat.le_of_ble_eq_true rfl) ⟨by omega, by omega⟩ dX6_attend_206 (fun S48 H locs hC hh => ?_)
    obtain ⟨h, hn⟩ := hh
    refine lv_goto (tgt := 222) hx hb dX6_attend_209 (by decide) ?_
    exact hret _ n0 _ _ _ _ hC hn (by omega) (by omega) h dX6_attend_222
  have h := h.2 c47
  refine lv_tableOut (tgt := 212) hx hb dX6_attend_15 (by have nc8 := lv_neT c8 (show (25 : Int32).toInt = 25 by decide); have nc11 := lv_neT c11 (show (26 : Int32).toInt = 26 by decide); have nc12 := lv_neT c12 (show (27 : Int32).toInt = 27 by decide); have nc14 := lv_neT c14 (show (28 : Int32).toInt = 28 by decide); have nc17 := lv_neT c17 (show (29 : Int32).toInt = 29 by decide); have nc23 := lv_neT c23 (show (30 : Int32).toInt = 30 by decide); have nc25 := lv_neT c25 (show (31 : Int32).toInt = 31 by decide); have nc33 := lv_neT c33 (show (32 : Int32).toInt = 32 by decide); have nc38 := lv_neT c38 (show (33 : Int32).toInt = 33 by decide); have nc47 := lv_neT c47 (show (34 : Int32).toInt = 34 by decide); omega) (by decide) ?_
  refine lv_aload_n hx hb dX6_attend_212 rfl (lv_at hl 2 rfl) ?_
  refine lv_iload_n hx hb dX6_attend_213 rfl (lv_at hl 4 rfl) ?_
  refine cq_puti (v := a2) (ci := 9) (k := 10) (f := 36) hX hC rfl in_X9 (by decide) wd_890 (fun _ h9 => h9) tyX9 tyX9_ok nmX9 rfl rfl rfl (fun _ _ => Nat.le_of_ble_eq_true rfl) (fun _ _ _ => rfl) dX6_attend_214 h.1 (fun S9 e9 => And.intro (h.2 S9 e9) (show cnt S9 = n0 by rw [e9]; exact hn)) (fun S49 H locs hC hh => ?_)
  obtain ⟨h, hn⟩ := hh
  refine lv_aload_n hx hb dX6_attend_217 rfl (lv_at hl 1 rfl) ?_
  refine lv_iconst (v := 1) hx hb dX6_attend_218 (by decide) ?_
  refine cq_puti (v := 1) (ci := 6) (k := 6) (f := 22) hX hC rfl in_X6 (by decide) wd_310 (fun _ h9 => h9) tyX6 tyX6_ok nmX6 rfl rfl rfl (fun _ _ => Nat.le_of_ble_eq_true rfl) (fun _ _ _ => rfl) dX6_attend_219 h.1 (fun S9 e9 => And.intro (h.2 S9 e9) (show cnt S9 = n0 by rw [e9]; exact hn)) (fun S50 H locs hC hh => ?_)
  obtain ⟨h, hn⟩ := hh
  exact hret _ n0 _ _ _ _ hC hn (by omega) (by omega) h dX6_attend_222
def wp_X6_act_65 (K : kS → Prop) (x0 : Nat) (x1 : Nat) (x3 : Int32) (x4 : Int32) (S : kS) : Prop := ∀ z17 : Int32, z17 = x3 + 1 → hasO S x1 9 ∧ ∀ S18 : kS, S18 = cI S 36 x1 z17 → ((12 < x4 → ((24 < x4 → hasO S18 x0 6 ∧ wp_X6_attend x0 x1 x4 x3 S18 (fun (S21 : kS) => K S21)) ∧ (¬ 24 < x4 → hasO S18 x0 6 ∧ wp_X6_flow x0 x1 x4 x3 S18 (fun (S22 : kS) => K S22)))) ∧ (¬ 12 < x4 → hasO S18 x0 6 ∧ wp_X6_reckon x0 x1 x4 x3 S18 (fun (S23 : kS) => K S23)))
def wp_X6_act_25 (K : kS → Prop) (x0 : Nat) (x1 : Nat) (S : kS) : Prop := hasO S x0 6 ∧ wp_X6_end x0 x1 0 0 S (fun (S24 : kS) => K S24)
def wp_X6_act (t0 : Nat) (a0 : Nat) (S : kS) (K : kS → Prop) : Prop := hasO S t0 6 ∧ ∀ z1 : Option Nat, z1 = S.2.1 41 t0 → ∃ q2 : Nat, z1 = some q2 ∧ hasO S q2 1 ∧ ∀ z3 : Option Nat, z3 = S.2.1 2 q2 → hasO S a0 9 ∧ ∀ z4 : Int32, z4 = S.1 36 a0 → ((z4 < 0 → wp_X6_act_25 K t0 a0 S) ∧ (¬ z4 < 0 → ∃ q6 : Nat, z3 = some q6 ∧ hasO S q6 5 ∧ ∀ z7 : Int32, z7 = S.1 17 q6 → ((z4 < z7 → hasO S q6 5 ∧ ∀ z9 : Option Nat, z9 = S.2.1 28 q6 → ∃ q10 : Nat, z9 = some q10 ∧ hasA S q10 8064 0 ∧ inR z4 8064 ∧ ∀ z11 : Int32, z11 = S.2.2.1 q10 (ix z4) → wp_X5_isStep z11 S (fun (S12 : kS) (r12 : Int32) => ((r12 = 0 → wp_X6_act_65 K t0 a0 z4 z11 S12) ∧ (¬ r12 = 0 → hasO S12 t0 6 ∧ wp_X6_step t0 S12 (fun (S14 : kS) (r14 : Int32) => ((¬ r14 = 0 → wp_X6_act_65 K t0 a0 z4 z11 S14) ∧ (r14 = 0 → hasO S14 t0 6 ∧ wp_X6_end t0 a0 24 0 S14 (fun (S16 : kS) => K S16)))))))) ∧ (¬ z4 < z7 → wp_X6_act_25 K t0 a0 S))))
theorem cw_X6_115 {R : Room} {s : State} {args : Array Value} {fr lo : Nat} (hts : ∀ w ∈ tb, w.before args s = true) (h1 : fr + 1 ≤ R.frames) (h2 : 8 + (1 + 11) + lo ≤ R.locals) : CallB R s args RX6 115 yX5_isStep cX5_isStep 1 (some .boolean) (.code yX5_isStep cX5_isStep 1 (some .boolean) :: tb) (mRm fr lo) 0 0 1 ∧ (Cond.static yX5_isStep).before args s = true := va_cwS 1 hts (gd_S2 wd_996 wd_997 wd_13 wd_998) rfl rfl rfl (by decide +kernel) ⟨h1, h2⟩
theorem cw_X6_119 {R : Room} {s : State} {args : Array Value} {fr lo : Nat} (hts : ∀ w ∈ tb, w.before args s = true) (h1 : fr + 1 ≤ R.frames) (h2 : 8 + (1 + 11) + lo ≤ R.locals) : CallW R s args RX6 RX6 119 yX6_step cX6_step 1 (some .boolean) (.code yX6_step cX6_step 1 (some .boolean) :: tb) (mRm fr lo) 0 0 0 := cwV 0 hts (gd_V wd_1000 wd_1002 sl_X6_step wd_12 wd_1003) rfl rfl rfl (by decide +kernel) ⟨h1, h2⟩
theorem cwn_X6_129 {R : Room} {s : State} {args : Array Value} {fr lo : Nat} (hts : ∀ w ∈ tb, w.before args s = true) (h1 : fr + 1 ≤ R.frames) (h2 : 8 + (5 + 11) + lo ≤ R.locals) : CallW R s args RX6 RX6 129 yX6_attend cX6_attend 5 none (.code yX6_attend cX6_attend 5 none :: tb) (kRm fr lo 5 (20 * 5)) 5 (20 * 5) 3 := cwV 3 hts (gd_V wd_1038 wd_1040 sl_X6_attend wd_12 wd_1041) rfl rfl rfl (by decide +kernel) ⟨h1, h2⟩
theorem cw_X6_126 {R : Room} {s : State} {args : Array Value} {fr lo : Nat} (hts : ∀ w ∈ tb, w.before args s = true) (h1 : fr + 1 ≤ R.frames) (h2 : 8 + (7 + 11) + lo ≤ R.locals) : CallW R s args RX6 RX6 126 yX6_flow cX6_flow 7 none (.code yX6_flow cX6_flow 7 none :: tb) (mRm fr lo) 0 0 3 := cwV 3 hts (gd_V wd_1025 wd_1027 sl_X6_flow wd_12 wd_1028) rfl rfl rfl (by decide +kernel) ⟨h1, h2⟩
theorem cw_X6_123 {R : Room} {s : State} {args : Array Value} {fr lo : Nat} (hts : ∀ w ∈ tb, w.before args s = true) (h1 : fr + 1 ≤ R.frames) (h2 : 8 + (5 + 11) + lo ≤ R.locals) : CallW R s args RX6 RX6 123 yX6_reckon cX6_reckon 5 none (.code yX6_reckon cX6_reckon 5 none :: tb) (mRm fr lo) 0 0 3 := cwV 3 hts (gd_V wd_1005 wd_1007 sl_X6_reckon wd_12 wd_1008) rfl rfl rfl (by decide +kernel) ⟨h1, h2⟩
set_option maxHeartbeats 4000000 in
set_option maxRecDepth 100000 in
theorem kt_X6_act (l : Launch) (S : kS) (t0 : Nat) (a0 : Nat) (K : kS → Prop) (h : wp_X6_act t0 a0 S K) : nMv l yX6_act cX6_act 5 none 5 128 5 [.ref t0, .ref a0] S K := by
  refine nv_ofv (own := RX6) (by decide) rfl (Nat.le_of_ble_eq_true rfl) ?_
  intro E p e R s m args below meth c A ls Q hRf hRl hRc hRs hX hC hl hmL hini hret
  obtain ⟨n0, hn⟩ : ∃ n0, cnt S = n0 := ⟨_, rfl⟩
  rw [hn] at hret ⊢
  have hx := hX.1.1
  have hb := hX.1.2.1
  have hown := hX.1.2.2.2.1
  have hts := hX.1.2.2.2.2
  have cut65 : ∀ (x0 : Nat) (x1 : Nat) (x3 : Int32) (x4 : Int32) (S : kS) (n : Nat) (H : Heap) (locs : List Loc) (ls : Array Slot), wp_X6_act_65 K x0 x1 x3 x4 S → cM E A s.heap S H locs → cnt S = n → n0 ≤ n → n ≤ n0 + 0 → lv_has ls 5 [(0, .ref x0), (1, .ref x1), (3, .int x3), (4, .int x4)] → W p l e R s m args below meth c H locs (n - n0) (20 * (n - n0)) Q (F0 m 65 ls []) := by
    intro x0 x1 x3 x4 S n H locs ls h hC hn hb1 hb2 hl
    unfold wp_X6_act_65 at h
    refine lv_aload_n hx hb dX6_act_65 rfl (lv_at hl 1 rfl) ?_
    refine lv_iload_n hx hb dX6_act_66 rfl (lv_at hl 2 rfl) ?_
    refine lv_iconst (v := 1) hx hb dX6_act_67 (by decide) ?_
    refine lq_iadd hx hb dX6_act_68 h (fun z17 h => ?_)
    refine cq_puti (v := z17) (ci := 9) (k := 10) (f := 36) hX hC rfl in_X9 (by decide) wd_890 (fun _ h9 => h9) tyX9 tyX9_ok nmX9 rfl rfl rfl (fun _ _ => Nat.le_of_ble_eq_true rfl) (fun _ _ _ => rfl) dX6_act_69 h.1 (fun S9 e9 => And.intro (h.2 S9 e9) (show cnt S9 = n by rw [e9]; exact hn)) (fun S18 H locs hC hh => ?_)
    obtain ⟨h, hn⟩ := hh
    refine lv_iload hx hb dX6_act_72 (lv_at hl 3 rfl) ?_
    refine lv_bipush (v := 12) hx hb dX6_act_74 (by decide) ?_
    refine lv_icmp_gt (tgt := 90) hx hb dX6_act_76 (by decide) (fun c19 => ?_) (fun c19 => ?_)
    · have h := h.1 c19
      refine lv_iload hx hb dX6_act_90 (lv_at hl 3 rfl) ?_
      refine lv_bipush (v := 24) hx hb dX6_act_92 (by decide) ?_
      refine lv_icmp_gt (tgt := 108) hx hb dX6_act_94 (by decide) (fun c20 => ?_) (fun c20 => ?_)
      · have h := h.1 c20
        refine lv_aload_n hx hb dX6_act_108 rfl (lv_at hl 0 rfl) ?_
        refine lv_aload_n hx hb dX6_act_109 rfl (lv_at hl 1 rfl) ?_
        refine lv_iload hx hb dX6_act_110 (lv_at hl 3 rfl) ?_
        refine lv_iload_n hx hb dX6_act_112 rfl (lv_at hl 2 rfl) ?_
        refine nv_callv [.ref x1, .int x4, .int x3] (rest := []) (ci := 6) rfl hX hC h.1 (kt_X6_attend l S18 x0 x1 x4 x3 _ h.2 E _) (cwn_X6_129 hts (by omega) (by omega)) rfl hl.1 (Nat.le_of_ble_eq_true rfl) ⟨by omega, by omega⟩ dX6_act_113 (fun S21 H locs hC hn1 hn2 h => ?_)
        obtain ⟨n21, hn9⟩ : ∃ n9, cnt S21 = n9 := ⟨_, rfl⟩
        have hb9 : n ≤ n21 ∧ n21 ≤ n + 5 := by omega
        refine W.widen (k := n21 - n0) (n := 20 * (n21 - n0)) (by omega) (by omega) ?_
        replace hn := hn9
        exact hret _ n21 _ _ _ _ hC hn (by omega) (by omega) h dX6_act_116
      · have h := h.2 c20
        refine lv_aload_n hx hb dX6_act_97 rfl (lv_at hl 0 rfl) ?_
        refine lv_aload_n hx hb dX6_act_98 rfl (lv_at hl 1 rfl) ?_
        refine lv_iload hx hb dX6_act_99 (lv_at hl 3 rfl) ?_
        refine lv_iload_n hx hb dX6_act_101 rfl (lv_at hl 2 rfl) ?_
        refine kv_callv [.ref x1, .int x4, .int x3] (rest := []) (ci := 6) rfl hX hC h.1 (kt_X6_flow l S18 x0 x1 x4 x3 _ (km_X6_flow _ _ _ _ _ _ _ (fun S9 hF h => And.intro h (show cnt S9 = n by show S9.2.2.2.2.2.length = _; rw [hF.2.2.2.2.2]; exact hn)) h.2) E _) (cw_X6_126 hts (by omega) (by omega)) rfl hl.1 (Nat.le_of_ble_eq_true rfl) ⟨by omega, by omega⟩ dX6_act_102 (fun S22 H locs hC hh => ?_)
        obtain ⟨h, hn⟩ := hh
        refine lv_goto (tgt := 116) hx hb dX6_act_105 (by decide) ?_
        exact hret _ n _ _ _ _ hC hn (by omega) (by omega) h dX6_act_116
    · have h := h.2 c19
      refine lv_aload_n hx hb dX6_act_79 rfl (lv_at hl 0 rfl) ?_
      refine lv_aload_n hx hb dX6_act_80 rfl (lv_at hl 1 rfl) ?_
      refine lv_iload hx hb dX6_act_81 (lv_at hl 3 rfl) ?_
      refine lv_iload_n hx hb dX6_act_83 rfl (lv_at hl 2 rfl) ?_
      refine kv_callv [.ref x1, .int x4, .int x3] (rest := []) (ci := 6) rfl hX hC h.1 (kt_X6_reckon l S18 x0 x1 x4 x3 _ (km_X6_reckon _ _ _ _ _ _ _ (fun S9 hF h => And.intro h (show cnt S9 = n by show S9.2.2.2.2.2.length = _; rw [hF.2.2.2.2.2]; exact hn)) h.2) E _) (cw_X6_123 hts (by omega) (by omega)) rfl hl.1 (Nat.le_of_ble_eq_true rfl) ⟨by omega, by omega⟩ dX6_act_84 (fun S23 H locs hC hh => ?_)
      obtain ⟨h, hn⟩ := hh
      refine lv_goto (tgt := 116) hx hb dX6_act_87 (by decide) ?_
      exact hret _ n _ _ _ _ hC hn (by omega) (by omega) h dX6_act_116
  have cut25 : ∀ (x0 : Nat) (x1 : Nat) (S : kS) (n : Nat) (H : Heap) (locs : List Loc) (ls : Array Slot), wp_X6_act_25 K x0 x1 S → cM E A s.heap S H locs → cnt S = n → n0 ≤ n → n ≤ n0 + 0 → lv_has ls 5 [(0, .ref x0), (1, .ref x1)] → W p l e R s m args below meth c H locs (n - n0) (20 * (n - n0)) Q (F0 m 25 ls []) := by
    intro x0 x1 S n H locs ls h hC hn hb1 hb2 hl
    unfold wp_X6_act_25 at h
    refine lv_aload_n hx hb dX6_act_25 rfl (lv_at hl 0 rfl) ?_
    refine lv_aload_n hx hb dX6_act_26 rfl (lv_at hl 1 rfl) ?_
    refine lv_iconst (v := 0) hx hb dX6_act_27 (by decide) ?_
    refine lv_iconst (v := 0) hx hb dX6_act_28 (by decide) ?_
    refine kv_callv [.ref x1, .int 0, .int 0] (rest := []) (ci := 6) rfl hX hC h.1 (kt_X6_end l S x0 x1 0 0 _ (km_X6_end _ _ _ _ _ _ _ (fun S9 hF h => And.intro h (show cnt S9 = n by show S9.2.2.2.2.2.length = _; rw [hF.2.2.2.2.2]; exact hn)) h.2) E _) (cw_X6_109 hts (by omega) (by omega)) rfl hl.1 (Nat.le_of_ble_eq_true rfl) ⟨by omega, by omega⟩ dX6_act_29 (fun S24 H locs hC hh => ?_)
    obtain ⟨h, hn⟩ := hh
    exact hret _ n _ _ _ _ hC hn (by omega) (by omega) h dX6_act_32
  have hl : lv_has ls 5 [(0, .ref t0), (1, .ref a0)] := hl
  unfold wp_X6_act at h
  refine lv_aload_n hx hb dX6_act_0 rfl (lv_at hl 0 rfl) ?_
  refine cq_getr (ci := 6) (k := 3) (f := 41) hX hC rfl in_X6 (by decide) wd_307 (fun _ h9 => h9) (fun _ _ => rfl) dX6_act_1 h (fun z1 h => ?_)
  obtain ⟨q2, e9, hh⟩ := h
  subst e9
  have h := hh
  clear hh
  refine cq_getr (ci := 1) (k := 0) (f := 2) hX hC rfl in_X1 (by decide) wd_234 (fun _ h9 => h9) (fun _ _ => rfl) dX6_act_4 h (fun z3 h => ?_)
  refine lo_astore_n (lv' := [(2, va_rf z3), (0, .ref t0), (1, .ref a0)]) hx hb dX6_act_7 rfl hl (by decide) (by rcases z3 with _ | _ <;> rfl) (fun ls hl => ?_)
  refine lv_aload_n hx hb dX6_act_8 rfl (lv_at hl 2 rfl) ?_
  refine cq_geti (ci := 9) (k := 10) (f := 36) hX hC rfl in_X9 (by decide) wd_890 (fun _ h9 => h9) (fun _ _ => rfl) dX6_act_9 h (fun z4 h => ?_)
  refine lv_istore_n (lv' := [(3, .int z4), (2, va_rf z3), (0, .ref t0), (1, .ref a0)]) hx hb dX6_act_12 rfl hl (by decide) (by rcases z3 with _ | _ <;> rfl) (fun ls hl => ?_)
  refine lv_iload_n hx hb dX6_act_13 rfl (lv_at hl 0 rfl) ?_
  refine lv_if_lt (tgt := 25) hx hb dX6_act_14 (by decide) (fun c5 => ?_) (fun c5 => ?_)
  · have h := h.1 c5
    exact cut25 t0 a0 S n0 _ _ _ h hC hn (by omega) (by omega) (lv_sub hl [2, 3] rfl)
  · have h := h.2 c5
    refine lv_iload_n hx hb dX6_act_17 rfl (lv_at hl 0 rfl) ?_
    refine lo_aload_n hx hb dX6_act_18 rfl (lv_at hl 1 rfl) ?_
    obtain ⟨q6, e9, hh⟩ := h
    subst e9
    have h := hh
    clear hh
    refine cq_geti (ci := 5) (k := 0) (f := 17) hX hC rfl in_X5 (by decide) wd_396 (fun _ h9 => h9) (fun _ _ => rfl) dX6_act_19 h (fun z7 h => ?_)
    refine lv_icmp_lt (tgt := 33) hx hb dX6_act_22 (by decide) (fun c8 => ?_) (fun c8 => ?_)
    · have h := h.1 c8
      refine lv_aload_n hx hb dX6_act_33 rfl (lv_at hl 1 rfl) ?_
      refine cq_getr (ci := 5) (k := 1) (f := 28) hX hC rfl in_X5 (by decide) wd_401 (fun _ h9 => h9) (fun _ _ => rfl) dX6_act_34 h (fun z9 h => ?_)
      refine lv_iload_n hx hb dX6_act_37 rfl (lv_at hl 0 rfl) ?_
      obtain ⟨q10, e9, hh⟩ := h
      subst e9
      have h := hh
      clear hh
      refine cq_ild hX hC dX6_act_38 h (fun z11 h => ?_)
      refine lv_istore (lv' := [(4, .int z11), (3, .int z4), (2, .ref q6), (0, .ref t0), (1, .ref a0)]) hx hb dX6_act_39 hl (by decide) rfl (fun ls hl => ?_)
      refine lv_iload hx hb dX6_act_41 (lv_at hl 0 rfl) ?_
      refine kv_callsi [.int z11] (rest := []) hX hC (kt_X5_isStep l S z11 _ (km_X5_isStep _ _ _ _ (fun S9 r9 hF h => And.intro h (show cnt S9 = n0 by show S9.2.2.2.2.2.length = _; rw [hF.2.2.2.2.2]; exact hn)) h) E _) (cw_X6_115 hts (by omega) (by omega)) rfl hl.1 (Nat.le_of_ble_eq_true rfl) ⟨by omega, by omega⟩ dX6_act_43 (fun r12 S12 H locs hC hh => ?_)
      obtain ⟨h, hn⟩ := hh
      refine lv_if_eq (tgt := 65) hx hb dX6_act_46 (by decide) (fun c13 => ?_) (fun c13 => ?_)
      · have h := h.1 c13
        exact cut65 t0 a0 z4 z11 S12 n0 _ _ _ h hC hn (by omega) (by omega) (lv_sub hl [3, 4, 1, 0] rfl)
      · have h := h.2 c13
        refine lv_aload_n hx hb dX6_act_49 rfl (lv_at hl 3 rfl) ?_
        refine kv_calli [] (rest := []) (ci := 6) rfl hX hC h.1 (kt_X6_step l S12 t0 _ (km_X6_step _ _ _ _ (fun S9 r9 hF h => And.intro h (show cnt S9 = n0 by show S9.2.2.2.2.2.length = _; rw [hF.2.2.2.2.2]; exact hn)) h.2) E _) (cw_X6_119 hts (by omega) (by omega)) rfl hl.1 (Nat.le_of_ble_eq_true rfl) ⟨by omega, by omega⟩ dX6_act_50 (fun r14 S14 H locs hC hh => ?_)
        obtain ⟨h, hn⟩ := hh
        refine lv_if_ne (tgt := 65) hx hb dX6_act_53 (by decide) (fun c15 => ?_) (fun c15 => ?_)
        · have h := h.1 c15
          exact cut65 t0 a0 z4 z11 S14 n0 _ _ _ h hC hn (by omega) (by omega) (lv_sub hl [3, 4, 1, 0] rfl)
        · have h := h.2 c15
          refine lv_aload_n hx hb dX6_act_56 rfl (lv_at hl 3 rfl) ?_
          refine lv_aload_n hx hb dX6_act_57 rfl (lv_at hl 4 rfl) ?_
          refine lv_bipush (v := 24) hx hb dX6_act_58 (by decide) ?_
          refine lv_iconst (v := 0) hx hb dX6_act_60 (by decide) ?_
          refine kv_callv [.ref a0, .int 24, .int 0] (rest := []) (ci := 6) rfl hX hC h.1 (kt_X6_end l S14 t0 a0 24 0 _ (km_X6_end _ _ _ _ _ _ _ (fun S9 hF h => And.intro h (show cnt S9 = n0 by show S9.2.2.2.2.2.length = _; rw [hF.2.2.2.2.2]; exact hn)) h.2) E _) (cw_X6_109 hts (by omega) (by omega)) rfl hl.1 (Nat.le_of_ble_eq_true rfl) ⟨by omega, by omega⟩ dX6_act_61 (fun S16 H locs hC hh => ?_)
          obtain ⟨h, hn⟩ := hh
          exact hret _ n0 _ _ _ _ hC hn (by omega) (by omega) h dX6_act_64
    · have h := h.2 c8
      exact cut25 t0 a0 S n0 _ _ _ h hC hn (by omega) (by omega) (lv_sub hl [2, 3] rfl)
