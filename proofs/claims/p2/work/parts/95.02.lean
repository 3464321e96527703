theorem wd_422 : (Jvm.Cond.fieldLink "Sleepers" (108 : Nat) "Sleepers$Program" "given" "[I") ∈ tb := tb_at 422 (by decide +kernel) (by decide +kernel)
theorem wd_851 : (Jvm.Cond.methodLink "Sleepers" (97 : Nat) ({ cls := "Sleepers$Program", name := "has", desc := "(I)Z" } : Jvm.MethodName)) ∈ tb := tb_at 851 (by decide +kernel) (by decide +kernel)
theorem wd_852 : (Jvm.Cond.methodLink "Sleepers" (129 : Nat) ({ cls := "Sleepers$Hall", name := "newTask", desc := "(ILSleepers$Task;)LSleepers$Task;" } : Jvm.MethodName)) ∈ tb := tb_at 852 (by decide +kernel) (by decide +kernel)
theorem wd_865 : (Jvm.Cond.fieldLink "Sleepers" (139 : Nat) "Sleepers$Task" "number" "I") ∈ tb := tb_at 865 (by decide +kernel) (by decide +kernel)
theorem wd_953 : (Jvm.Cond.methodLink "Sleepers" (133 : Nat) ({ cls := "Sleepers$Task", name := "set", desc := "(II)V" } : Jvm.MethodName)) ∈ tb := tb_at 953 (by decide +kernel) (by decide +kernel)
theorem wd_961 : (Jvm.Cond.methodLink "Sleepers" (142 : Nat) ({ cls := "Sleepers$Runner", name := "takeTurn", desc := "(I)I" } : Jvm.MethodName)) ∈ tb := tb_at 961 (by decide +kernel) (by decide +kernel)
theorem wd_962 : (Jvm.Cond.instanceMethod ({ cls := "Sleepers$Runner", name := "takeTurn", desc := "(I)I" } : Jvm.MethodName)) ∈ tb := tb_at 962 (by decide +kernel) (by decide +kernel)
theorem wd_963 : (Jvm.Cond.selects "Sleepers$Runner" ({ cls := "Sleepers$Runner", name := "takeTurn", desc := "(I)I" } : Jvm.MethodName) ({ cls := "Sleepers$Runner", name := "takeTurn", desc := "(I)I" } : Jvm.MethodName)) ∈ tb := tb_at 963 (by decide +kernel) (by decide +kernel)
theorem wd_964 : (Jvm.Cond.code ({ cls := "Sleepers$Runner", name := "takeTurn", desc := "(I)I" } : Jvm.MethodName) prog_8_method_2_code (4 : Nat) (Option.some Jvm.ClassFile.FieldType.int)) ∈ tb := tb_at 964 (by decide +kernel) (by decide +kernel)
theorem wd_965 : (Jvm.Cond.methodLink "Sleepers$Runner" (26 : Nat) ({ cls := "Sleepers$Hall", name := "leaveRow", desc := "(I)LSleepers$Task;" } : Jvm.MethodName)) ∈ tb := tb_at 965 (by decide +kernel) (by decide +kernel)
theorem wd_969 : (Jvm.Cond.methodLink "Sleepers$Runner" (42 : Nat) ({ cls := "Sleepers$Runner", name := "wake", desc := "(LSleepers$Task;)V" } : Jvm.MethodName)) ∈ tb := tb_at 969 (by decide +kernel) (by decide +kernel)
theorem wd_971 : (Jvm.Cond.instanceMethod ({ cls := "Sleepers$Runner", name := "wake", desc := "(LSleepers$Task;)V" } : Jvm.MethodName)) ∈ tb := tb_at 971 (by decide +kernel) (by decide +kernel)
theorem wd_972 : (Jvm.Cond.code ({ cls := "Sleepers$Runner", name := "wake", desc := "(LSleepers$Task;)V" } : Jvm.MethodName) prog_8_method_3_code (4 : Nat) (Option.none : Option Jvm.ClassFile.FieldType)) ∈ tb := tb_at 972 (by decide +kernel) (by decide +kernel)
theorem wd_991 : (Jvm.Cond.constant "Sleepers$Runner" (46 : Nat) (1000000 : Int32)) ∈ tb := tb_at 991 (by decide +kernel) (by decide +kernel)
theorem wd_992 : (Jvm.Cond.methodLink "Sleepers$Runner" (47 : Nat) ({ cls := "Sleepers$Runner", name := "act", desc := "(LSleepers$Task;)V" } : Jvm.MethodName)) ∈ tb := tb_at 992 (by decide +kernel) (by decide +kernel)
theorem wd_994 : (Jvm.Cond.instanceMethod ({ cls := "Sleepers$Runner", name := "act", desc := "(LSleepers$Task;)V" } : Jvm.MethodName)) ∈ tb := tb_at 994 (by decide +kernel) (by decide +kernel)
theorem wd_995 : (Jvm.Cond.code ({ cls := "Sleepers$Runner", name := "act", desc := "(LSleepers$Task;)V" } : Jvm.MethodName) prog_8_method_4_code (5 : Nat) (Option.none : Option Jvm.ClassFile.FieldType)) ∈ tb := tb_at 995 (by decide +kernel) (by decide +kernel)
theorem wd_1148 : (Jvm.Cond.methodLink "Sleepers$Runner" (50 : Nat) ({ cls := "Sleepers$Hall", name := "stand", desc := "(LSleepers$Task;)V" } : Jvm.MethodName)) ∈ tb := tb_at 1148 (by decide +kernel) (by decide +kernel)
theorem wd_1149 : (Jvm.Cond.instanceMethod ({ cls := "Sleepers$Hall", name := "stand", desc := "(LSleepers$Task;)V" } : Jvm.MethodName)) ∈ tb := tb_at 1149 (by decide +kernel) (by decide +kernel)
theorem wd_1150 : (Jvm.Cond.selects "Sleepers$Hall" ({ cls := "Sleepers$Hall", name := "stand", desc := "(LSleepers$Task;)V" } : Jvm.MethodName) ({ cls := "Sleepers$Hall", name := "stand", desc := "(LSleepers$Task;)V" } : Jvm.MethodName)) ∈ tb := tb_at 1150 (by decide +kernel) (by decide +kernel)
theorem wd_1151 : (Jvm.Cond.code ({ cls := "Sleepers$Hall", name := "stand", desc := "(LSleepers$Task;)V" } : Jvm.MethodName) prog_3_method_15_code (2 : Nat) (Option.none : Option Jvm.ClassFile.FieldType)) ∈ tb := tb_at 1151 (by decide +kernel) (by decide +kernel)
theorem wd_1195 : (Jvm.Cond.methodLink "Sleepers$Runner" (56 : Nat) ({ cls := "Sleepers$Hall", name := "breakOff", desc := "(LSleepers$Task;I)V" } : Jvm.MethodName)) ∈ tb := tb_at 1195 (by decide +kernel) (by decide +kernel)
theorem wd_1196 : (Jvm.Cond.instanceMethod ({ cls := "Sleepers$Hall", name := "breakOff", desc := "(LSleepers$Task;I)V" } : Jvm.MethodName)) ∈ tb := tb_at 1196 (by decide +kernel) (by decide +kernel)
theorem wd_1197 : (Jvm.Cond.selects "Sleepers$Hall" ({ cls := "Sleepers$Hall", name := "breakOff", desc := "(LSleepers$Task;I)V" } : Jvm.MethodName) ({ cls := "Sleepers$Hall", name := "breakOff", desc := "(LSleepers$Task;I)V" } : Jvm.MethodName)) ∈ tb := tb_at 1197 (by decide +kernel) (by decide +kernel)
theorem wd_1198 : (Jvm.Cond.code ({ cls := "Sleepers$Hall", name := "breakOff", desc := "(LSleepers$Task;I)V" } : Jvm.MethodName) prog_3_method_16_code (3 : Nat) (Option.none : Option Jvm.ClassFile.FieldType)) ∈ tb := tb_at 1198 (by decide +kernel) (by decide +kernel)
theorem wd_1199 : (Jvm.Cond.methodLink "Sleepers$Runner" (60 : Nat) ({ cls := "Sleepers$Hall", name := "end", desc := "(LSleepers$Task;)V" } : Jvm.MethodName)) ∈ tb := tb_at 1199 (by decide +kernel) (by decide +kernel)
theorem wd_1200 : (Jvm.Cond.instanceMethod ({ cls := "Sleepers$Hall", name := "end", desc := "(LSleepers$Task;)V" } : Jvm.MethodName)) ∈ tb := tb_at 1200 (by decide +kernel) (by decide +kernel)
theorem wd_1201 : (Jvm.Cond.selects "Sleepers$Hall" ({ cls := "Sleepers$Hall", name := "end", desc := "(LSleepers$Task;)V" } : Jvm.MethodName) ({ cls := "Sleepers$Hall", name := "end", desc := "(LSleepers$Task;)V" } : Jvm.MethodName)) ∈ tb := tb_at 1201 (by decide +kernel) (by decide +kernel)
theorem wd_1202 : (Jvm.Cond.code ({ cls := "Sleepers$Hall", name := "end", desc := "(LSleepers$Task;)V" } : Jvm.MethodName) prog_3_method_17_code (2 : Nat) (Option.none : Option Jvm.ClassFile.FieldType)) ∈ tb := tb_at 1202 (by decide +kernel) (by decide +kernel)
theorem sl_X6_act : Cond.selects RX6 yX6_act yX6_act ∈ tb := sl_of (y := ⟨"Sleepers$Runner", "act", "(LSleepers$Task;)V"⟩) (n := 8) (by decide +kernel) (by decide +kernel)
theorem sl_X6_wake : Cond.selects RX6 yX6_wake yX6_wake ∈ tb := sl_of (y := ⟨"Sleepers$Runner", "wake", "(LSleepers$Task;)V"⟩) (n := 8) (by decide +kernel) (by decide +kernel)
theorem dX11_begin_0 : decode cX11_begin 0 = .ok (.aload_n 0, 1) := by decide +kernel
theorem dX11_begin_1 : decode cX11_begin 1 = .ok (.getfield 51, 3) := by decide +kernel
theorem dX11_begin_4 : decode cX11_begin 4 = .ok (.iload_n 1, 1) := by decide +kernel
theorem dX11_begin_5 : decode cX11_begin 5 = .ok (.invokevirtual 97, 3) := by decide +kernel
theorem dX11_begin_8 : decode cX11_begin 8 = .ok (.ifCond .ne 5, 3) := by decide +kernel
theorem dX11_begin_11 : decode cX11_begin 11 = .ok (.iconst (-1), 1) := by decide +kernel
theorem dX11_begin_12 : decode cX11_begin 12 = .ok (.ireturn, 1) := by decide +kernel
theorem dX11_begin_13 : decode cX11_begin 13 = .ok (.aload_n 0, 1) := by decide +kernel
theorem dX11_begin_14 : decode cX11_begin 14 = .ok (.getfield 35, 3) := by decide +kernel
theorem dX11_begin_17 : decode cX11_begin 17 = .ok (.iload_n 1, 1) := by decide +kernel
theorem dX11_begin_18 : decode cX11_begin 18 = .ok (.aconst_null, 1) := by decide +kernel
theorem dX11_begin_19 : decode cX11_begin 19 = .ok (.invokevirtual 129, 3) := by decide +kernel
theorem dX11_begin_22 : decode cX11_begin 22 = .ok (.astore 6, 2) := by decide +kernel
theorem dX11_begin_24 : decode cX11_begin 24 = .ok (.aload 6, 2) := by decide +kernel
theorem dX11_begin_26 : decode cX11_begin 26 = .ok (.ifnonnull 5, 3) := by decide +kernel
theorem dX11_begin_29 : decode cX11_begin 29 = .ok (.iconst (-1), 1) := by decide +kernel
theorem dX11_begin_30 : decode cX11_begin 30 = .ok (.ireturn, 1) := by decide +kernel
theorem dX11_begin_31 : decode cX11_begin 31 = .ok (.aload_n 0, 1) := by decide +kernel
theorem dX11_begin_32 : decode cX11_begin 32 = .ok (.getfield 51, 3) := by decide +kernel
theorem dX11_begin_35 : decode cX11_begin 35 = .ok (.getfield 108, 3) := by decide +kernel
theorem dX11_begin_38 : decode cX11_begin 38 = .ok (.iload_n 1, 1) := by decide +kernel
theorem dX11_begin_39 : decode cX11_begin 39 = .ok (.iaload, 1) := by decide +kernel
theorem dX11_begin_40 : decode cX11_begin 40 = .ok (.istore 7, 2) := by decide +kernel
theorem dX11_begin_42 : decode cX11_begin 42 = .ok (.aload 6, 2) := by decide +kernel
theorem dX11_begin_44 : decode cX11_begin 44 = .ok (.iconst 0, 1) := by decide +kernel
theorem dX11_begin_45 : decode cX11_begin 45 = .ok (.iload 7, 2) := by decide +kernel
theorem dX11_begin_47 : decode cX11_begin 47 = .ok (.ifCond .le 7, 3) := by decide +kernel
theorem dX11_begin_50 : decode cX11_begin 50 = .ok (.iload_n 2, 1) := by decide +kernel
theorem dX11_begin_51 : decode cX11_begin 51 = .ok (.goto 4, 3) := by decide +kernel
theorem dX11_begin_54 : decode cX11_begin 54 = .ok (.iconst 0, 1) := by decide +kernel
theorem dX11_begin_55 : decode cX11_begin 55 = .ok (.invokevirtual 133, 3) := by decide +kernel
theorem dX11_begin_58 : decode cX11_begin 58 = .ok (.aload 6, 2) := by decide +kernel
theorem dX11_begin_60 : decode cX11_begin 60 = .ok (.iconst 1, 1) := by decide +kernel
theorem dX11_begin_61 : decode cX11_begin 61 = .ok (.iload 7, 2) := by decide +kernel
theorem dX11_begin_63 : decode cX11_begin 63 = .ok (.iconst 1, 1) := by decide +kernel
theorem dX11_begin_64 : decode cX11_begin 64 = .ok (.if_icmp .le 7, 3) := by decide +kernel
theorem dX11_begin_67 : decode cX11_begin 67 = .ok (.iload_n 3, 1) := by decide +kernel
theorem dX11_begin_68 : decode cX11_begin 68 = .ok (.goto 4, 3) := by decide +kernel
theorem dX11_begin_71 : decode cX11_begin 71 = .ok (.iconst 0, 1) := by decide +kernel
theorem dX11_begin_72 : decode cX11_begin 72 = .ok (.invokevirtual 133, 3) := by decide +kernel
theorem dX11_begin_75 : decode cX11_begin 75 = .ok (.aload 6, 2) := by decide +kernel
theorem dX11_begin_77 : decode cX11_begin 77 = .ok (.iconst 2, 1) := by decide +kernel
theorem dX11_begin_78 : decode cX11_begin 78 = .ok (.iload 7, 2) := by decide +kernel
theorem dX11_begin_80 : decode cX11_begin 80 = .ok (.iconst 2, 1) := by decide +kernel
theorem dX11_begin_81 : decode cX11_begin 81 = .ok (.if_icmp .le 8, 3) := by decide +kernel
theorem dX11_begin_84 : decode cX11_begin 84 = .ok (.iload 4, 2) := by decide +kernel
theorem dX11_begin_86 : decode cX11_begin 86 = .ok (.goto 4, 3) := by decide +kernel
theorem dX11_begin_89 : decode cX11_begin 89 = .ok (.iconst 0, 1) := by decide +kernel
theorem dX11_begin_90 : decode cX11_begin 90 = .ok (.invokevirtual 133, 3) := by decide +kernel
theorem dX11_begin_93 : decode cX11_begin 93 = .ok (.aload 6, 2) := by decide +kernel
theorem dX11_begin_95 : decode cX11_begin 95 = .ok (.iconst 3, 1) := by decide +kernel
theorem dX11_begin_96 : decode cX11_begin 96 = .ok (.iload 7, 2) := by decide +kernel
theorem dX11_begin_98 : decode cX11_begin 98 = .ok (.iconst 3, 1) := by decide +kernel
theorem dX11_begin_99 : decode cX11_begin 99 = .ok (.if_icmp .le 8, 3) := by decide +kernel
theorem dX11_begin_102 : decode cX11_begin 102 = .ok (.iload 5, 2) := by decide +kernel
theorem dX11_begin_104 : decode cX11_begin 104 = .ok (.goto 4, 3) := by decide +kernel
theorem dX11_begin_107 : decode cX11_begin 107 = .ok (.iconst 0, 1) := by decide +kernel
theorem dX11_begin_108 : decode cX11_begin 108 = .ok (.invokevirtual 133, 3) := by decide +kernel
theorem dX11_begin_111 : decode cX11_begin 111 = .ok (.aload 6, 2) := by decide +kernel
theorem dX11_begin_113 : decode cX11_begin 113 = .ok (.getfield 139, 3) := by decide +kernel
theorem dX11_begin_116 : decode cX11_begin 116 = .ok (.ireturn, 1) := by decide +kernel
theorem dX11_rounds_0 : decode cX11_rounds 0 = .ok (.iload_n 1, 1) := by decide +kernel
theorem dX11_rounds_1 : decode cX11_rounds 1 = .ok (.ifCond .lt 10, 3) := by decide +kernel
theorem dX11_rounds_4 : decode cX11_rounds 4 = .ok (.iload_n 1, 1) := by decide +kernel
theorem dX11_rounds_5 : decode cX11_rounds 5 = .ok (.sipush 400, 3) := by decide +kernel
theorem dX11_rounds_8 : decode cX11_rounds 8 = .ok (.if_icmp .le 5, 3) := by decide +kernel
theorem dX11_rounds_11 : decode cX11_rounds 11 = .ok (.iconst (-1), 1) := by decide +kernel
theorem dX11_rounds_12 : decode cX11_rounds 12 = .ok (.ireturn, 1) := by decide +kernel
theorem dX11_rounds_13 : decode cX11_rounds 13 = .ok (.iconst 0, 1) := by decide +kernel
theorem dX11_rounds_14 : decode cX11_rounds 14 = .ok (.istore_n 2, 1) := by decide +kernel
theorem dX11_rounds_15 : decode cX11_rounds 15 = .ok (.iload_n 2, 1) := by decide +kernel
theorem dX11_rounds_16 : decode cX11_rounds 16 = .ok (.iload_n 1, 1) := by decide +kernel
theorem dX11_rounds_17 : decode cX11_rounds 17 = .ok (.if_icmp .ge 21, 3) := by decide +kernel
theorem dX11_rounds_20 : decode cX11_rounds 20 = .ok (.aload_n 0, 1) := by decide +kernel
theorem dX11_rounds_21 : decode cX11_rounds 21 = .ok (.getfield 44, 3) := by decide +kernel
theorem dX11_rounds_24 : decode cX11_rounds 24 = .ok (.iconst 0, 1) := by decide +kernel
theorem dX11_rounds_25 : decode cX11_rounds 25 = .ok (.invokevirtual 142, 3) := by decide +kernel
theorem dX11_rounds_28 : decode cX11_rounds 28 = .ok (.iconst (-1), 1) := by decide +kernel
theorem dX11_rounds_29 : decode cX11_rounds 29 = .ok (.if_icmp .eq 9, 3) := by decide +kernel
theorem dX11_rounds_32 : decode cX11_rounds 32 = .ok (.iinc 2 1, 3) := by decide +kernel
theorem dX11_rounds_35 : decode cX11_rounds 35 = .ok (.goto (-20), 3) := by decide +kernel
theorem dX11_rounds_38 : decode cX11_rounds 38 = .ok (.iload_n 2, 1) := by decide +kernel
theorem dX11_rounds_39 : decode cX11_rounds 39 = .ok (.ireturn, 1) := by decide +kernel
theorem dX11_turn_0 : decode cX11_turn 0 = .ok (.aload_n 0, 1) := by decide +kernel
theorem dX11_turn_1 : decode cX11_turn 1 = .ok (.getfield 44, 3) := by decide +kernel
theorem dX11_turn_4 : decode cX11_turn 4 = .ok (.iload_n 1, 1) := by decide +kernel
theorem dX11_turn_5 : decode cX11_turn 5 = .ok (.invokevirtual 142, 3) := by decide +kernel
theorem dX11_turn_8 : decode cX11_turn 8 = .ok (.ireturn, 1) := by decide +kernel
theorem dX6_takeTurn_0 : decode cX6_takeTurn 0 = .ok (.aload_n 0, 1) := by decide +kernel
theorem dX6_takeTurn_1 : decode cX6_takeTurn 1 = .ok (.getfield 22, 3) := by decide +kernel
theorem dX6_takeTurn_4 : decode cX6_takeTurn 4 = .ok (.iload_n 1, 1) := by decide +kernel
theorem dX6_takeTurn_5 : decode cX6_takeTurn 5 = .ok (.invokevirtual 26, 3) := by decide +kernel
theorem dX6_takeTurn_8 : decode cX6_takeTurn 8 = .ok (.astore_n 2, 1) := by decide +kernel
theorem dX6_takeTurn_9 : decode cX6_takeTurn 9 = .ok (.aload_n 2, 1) := by decide +kernel
theorem dX6_takeTurn_10 : decode cX6_takeTurn 10 = .ok (.ifnonnull 5, 3) := by decide +kernel
theorem dX6_takeTurn_13 : decode cX6_takeTurn 13 = .ok (.iconst (-1), 1) := by decide +kernel
theorem dX6_takeTurn_14 : decode cX6_takeTurn 14 = .ok (.ireturn, 1) := by decide +kernel
theorem dX6_takeTurn_15 : decode cX6_takeTurn 15 = .ok (.aload_n 0, 1) := by decide +kernel
theorem dX6_takeTurn_16 : decode cX6_takeTurn 16 = .ok (.iconst 0, 1) := by decide +kernel
theorem dX6_takeTurn_17 : decode cX6_takeTurn 17 = .ok (.putfield 32, 3) := by decide +kernel
theorem dX6_takeTurn_20 : decode cX6_takeTurn 20 = .ok (.aload_n 0, 1) := by decide +kernel
theorem dX6_takeTurn_21 : decode cX6_takeTurn 21 = .ok (.iconst 0, 1) := by decide +kernel
theorem dX6_takeTurn_22 : decode cX6_takeTurn 22 = .ok (.putfield 36, 3) := by decide +kernel
theorem dX6_takeTurn_25 : decode cX6_takeTurn 25 = .ok (.aload_n 0, 1) := by decide +kernel
theorem dX6_takeTurn_26 : decode cX6_takeTurn 26 = .ok (.iconst 0, 1) := by decide +kernel
theorem dX6_takeTurn_27 : decode cX6_takeTurn 27 = .ok (.putfield 39, 3) := by decide +kernel
theorem dX6_takeTurn_30 : decode cX6_takeTurn 30 = .ok (.aload_n 0, 1) := by decide +kernel
theorem dX6_takeTurn_31 : decode cX6_takeTurn 31 = .ok (.aload_n 2, 1) := by decide +kernel
theorem dX6_takeTurn_32 : decode cX6_takeTurn 32 = .ok (.invokevirtual 42, 3) := by decide +kernel
theorem dX6_takeTurn_35 : decode cX6_takeTurn 35 = .ok (.iconst 0, 1) := by decide +kernel
theorem dX6_takeTurn_36 : decode cX6_takeTurn 36 = .ok (.istore_n 3, 1) := by decide +kernel
theorem dX6_takeTurn_37 : decode cX6_takeTurn 37 = .ok (.iload_n 3, 1) := by decide +kernel
theorem dX6_takeTurn_38 : decode cX6_takeTurn 38 = .ok (.ldc 46, 2) := by decide +kernel
theorem dX6_takeTurn_40 : decode cX6_takeTurn 40 = .ok (.if_icmp .ge 21, 3) := by decide +kernel
theorem dX6_takeTurn_43 : decode cX6_takeTurn 43 = .ok (.aload_n 0, 1) := by decide +kernel
theorem dX6_takeTurn_44 : decode cX6_takeTurn 44 = .ok (.getfield 39, 3) := by decide +kernel
theorem dX6_takeTurn_47 : decode cX6_takeTurn 47 = .ok (.ifCond .ne 14, 3) := by decide +kernel
theorem dX6_takeTurn_50 : decode cX6_takeTurn 50 = .ok (.aload_n 0, 1) := by decide +kernel
theorem dX6_takeTurn_51 : decode cX6_takeTurn 51 = .ok (.aload_n 2, 1) := by decide +kernel
theorem dX6_takeTurn_52 : decode cX6_takeTurn 52 = .ok (.invokevirtual 47, 3) := by decide +kernel
theorem dX6_takeTurn_55 : decode cX6_takeTurn 55 = .ok (.iinc 3 1, 3) := by decide +kernel
theorem dX6_takeTurn_58 : decode cX6_takeTurn 58 = .ok (.goto (-21), 3) := by decide +kernel
theorem dX6_takeTurn_61 : decode cX6_takeTurn 61 = .ok (.aload_n 0, 1) := by decide +kernel
theorem dX6_takeTurn_62 : decode cX6_takeTurn 62 = .ok (.getfield 39, 3) := by decide +kernel
theorem dX6_takeTurn_65 : decode cX6_takeTurn 65 = .ok (.iconst 1, 1) := by decide +kernel
theorem dX6_takeTurn_66 : decode cX6_takeTurn 66 = .ok (.if_icmp .ne 14, 3) := by decide +kernel
theorem dX6_takeTurn_69 : decode cX6_takeTurn 69 = .ok (.aload_n 0, 1) := by decide +kernel
theorem dX6_takeTurn_70 : decode cX6_takeTurn 70 = .ok (.getfield 22, 3) := by decide +kernel
theorem dX6_takeTurn_73 : decode cX6_takeTurn 73 = .ok (.aload_n 2, 1) := by decide +kernel
theorem dX6_takeTurn_74 : decode cX6_takeTurn 74 = .ok (.invokevirtual 50, 3) := by decide +kernel
theorem dX6_takeTurn_77 : decode cX6_takeTurn 77 = .ok (.goto 34, 3) := by decide +kernel
theorem dX6_takeTurn_80 : decode cX6_takeTurn 80 = .ok (.aload_n 0, 1) := by decide +kernel
theorem dX6_takeTurn_81 : decode cX6_takeTurn 81 = .ok (.getfield 39, 3) := by decide +kernel
theorem dX6_takeTurn_84 : decode cX6_takeTurn 84 = .ok (.iconst 2, 1) := by decide +kernel
theorem dX6_takeTurn_85 : decode cX6_takeTurn 85 = .ok (.if_icmp .ne 18, 3) := by decide +kernel
theorem dX6_takeTurn_88 : decode cX6_takeTurn 88 = .ok (.aload_n 0, 1) := by decide +kernel
theorem dX6_takeTurn_89 : decode cX6_takeTurn 89 = .ok (.getfield 22, 3) := by decide +kernel
theorem dX6_takeTurn_92 : decode cX6_takeTurn 92 = .ok (.aload_n 2, 1) := by decide +kernel
theorem dX6_takeTurn_93 : decode cX6_takeTurn 93 = .ok (.aload_n 0, 1) := by decide +kernel
theorem dX6_takeTurn_94 : decode cX6_takeTurn 94 = .ok (.getfield 53, 3) := by decide +kernel
theorem dX6_takeTurn_97 : decode cX6_takeTurn 97 = .ok (.invokevirtual 56, 3) := by decide +kernel
theorem dX6_takeTurn_100 : decode cX6_takeTurn 100 = .ok (.goto 11, 3) := by decide +kernel
theorem dX6_takeTurn_103 : decode cX6_takeTurn 103 = .ok (.aload_n 0, 1) := by decide +kernel
theorem dX6_takeTurn_104 : decode cX6_takeTurn 104 = .ok (.getfield 22, 3) := by decide +kernel
theorem dX6_takeTurn_107 : decode cX6_takeTurn 107 = .ok (.aload_n 2, 1) := by decide +kernel
theorem dX6_takeTurn_108 : decode cX6_takeTurn 108 = .ok (.invokevirtual 60, 3) := by decide +kernel
theorem dX6_takeTurn_111 : decode cX6_takeTurn 111 = .ok (.aload_n 2, 1) := by decide +kernel
theorem dX6_takeTurn_112 : decode cX6_takeTurn 112 = .ok (.getfield 63, 3) := by decide +kernel
theorem dX6_takeTurn_115 : decode cX6_takeTurn 115 = .ok (.ireturn, 1) := by decide +kernel
def wp_X6_takeTurn_61 (K : kS → Int32 → Prop) (n0 : Nat) (x0 : Nat) (x2 : Nat) (S : kS) : Prop := hasO S x0 6 ∧ ∀ z14 : Int32, z14 = S.1 22 x0 → ((¬ z14 = 1 → hasO S x0 6 ∧ ∀ z16 : Int32, z16 = S.1 22 x0 → ((¬ z16 = 2 → hasO S x0 6 ∧ ∀ z18 : Option Nat, z18 = S.2.1 41 x0 → ∃ q19 : Nat, z18 = some q19 ∧ hasO S q19 1 ∧ wp_X1_end q19 x2 S (fun (S20 : kS) => hasO S20 x2 9 ∧ ∀ z21 : Int32, z21 = S20.1 28 x2 → K S20 z21)) ∧ (z16 = 2 → hasO S x0 6 ∧ ∀ z22 : Option Nat, z22 = S.2.1 41 x0 → hasO S x0 6 ∧ ∀ z23 : Int32, z23 = S.1 23 x0 → ∃ q24 : Nat, z22 = some q24 ∧ hasO S q24 1 ∧ wp_X1_breakOff q24 x2 z23 S (fun (S25 : kS) => hasO S25 x2 9 ∧ ∀ z26 : Int32, z26 = S25.1 28 x2 → K S25 z26)))) ∧ (z14 = 1 → hasO S x0 6 ∧ ∀ z27 : Option Nat, z27 = S.2.1 41 x0 → ∃ q28 : Nat, z27 = some q28 ∧ hasO S q28 1 ∧ wp_X1_stand q28 x2 S (fun (S29 : kS) => hasO S29 x2 9 ∧ ∀ z30 : Int32, z30 = S29.1 28 x2 → K S29 z30)))
def wp_X6_takeTurn_37 (K : kS → Int32 → Prop) (n0 : Nat) (k37 : Nat × Nat × Int32 × kS → Prop) (x0 : Nat) (x2 : Nat) (x3 : Int32) (S : kS) : Prop := ((1000000 ≤ x3 → wp_X6_takeTurn_61 K n0 x0 x2 S) ∧ (¬ 1000000 ≤ x3 → hasO S x0 6 ∧ ∀ z10 : Int32, z10 = S.1 22 x0 → ((¬ z10 = 0 → wp_X6_takeTurn_61 K n0 x0 x2 S) ∧ (z10 = 0 → hasO S x0 6 ∧ cnt S + 5 ≤ n0 + 4000 ∧ wp_X6_act x0 x2 S (fun (S12 : kS) => ∀ z13 : Int32, z13 = x3 + 1 → k37 (x0, x2, z13, S12))))))
def ls_X6_takeTurn_37 (K : kS → Int32 → Prop) (n0 : Nat) (k37 : Nat × Nat × Int32 × kS → Prop) (u : Nat × Nat × Int32 × kS) : Prop := wp_X6_takeTurn_37 K n0 k37 u.1 u.2.1 u.2.2.1 u.2.2.2
def wp_X6_takeTurn (t0 : Nat) (a0 : Int32) (S : kS) (K : kS → Int32 → Prop) : Prop := hasO S t0 6 ∧ ∀ z1 : Option Nat, z1 = S.2.1 41 t0 → ∃ q2 : Nat, z1 = some q2 ∧ hasO S q2 1 ∧ wp_X1_leaveRow q2 a0 S (fun (S3 : kS) (o3 : Option Nat) => ((o3 = none → K S3 (-1)) ∧ (∀ q4 : Nat, o3 = some q4 → hasO S3 t0 6 ∧ ∀ S5 : kS, S5 = cI S3 20 t0 0 → hasO S5 t0 6 ∧ ∀ S6 : kS, S6 = cI S5 21 t0 0 → hasO S6 t0 6 ∧ ∀ S7 : kS, S7 = cI S6 22 t0 0 → hasO S7 t0 6 ∧ wp_X6_wake t0 q4 S7 (fun (S8 : kS) => (∃ n9, it (ls_X6_takeTurn_37 K (cnt S)) n9 (t0, q4, 0, S8))))))
theorem cw_X6_26 {R : Room} {s : State} {args : Array Value} {fr lo : Nat} (hts : ∀ w ∈ tb, w.before args s = true) (h1 : fr + 1 ≤ R.frames) (h2 : 8 + (4 + 11) + lo ≤ R.locals) : CallW R s args RX6 RX1 26 yX1_leaveRow cX1_leaveRow 4 (some (.object "Sleepers$Task")) (.code yX1_leaveRow cX1_leaveRow 4 (some (.object "Sleepers$Task")) :: tb) (mRm fr lo) 0 0 1 := cwV 1 hts (gd_V wd_965 wd_966 wd_967 wd_9 wd_968) rfl rfl rfl (by decide +kernel) ⟨h1, h2⟩
theorem cw_X6_42 {R : Room} {s : State} {args : Array Value} {fr lo : Nat} (hts : ∀ w ∈ tb, w.before args s = true) (h1 : fr + 1 ≤ R.frames) (h2 : 8 + (4 + 11) + lo ≤ R.locals) : CallW R s args RX6 RX6 42 yX6_wake cX6_wake 4 none (.code yX6_wake cX6_wake 4 none :: tb) (mRm fr lo) 0 0 1 := cwV 1 hts (gd_V wd_969 wd_971 sl_X6_wake wd_12 wd_972) rfl rfl rfl (by decide +kernel) ⟨h1, h2⟩
theorem cwn_X6_47 {R : Room} {s : State} {args : Array Value} {fr lo : Nat} (hts : ∀ w ∈ tb, w.before args s = true) (h1 : fr + 1 ≤ R.frames) (h2 : 8 + (5 + 11) + lo ≤ R.locals) : CallW R s args RX6 RX6 47 yX6_act cX6_act 5 none (.code yX6_act cX6_act 5 none :: tb) (kRm fr lo 5 (20 * 5)) 5 (20 * 5) 1 := cwV 1 hts (gd_V wd_992 wd_994 sl_X6_act wd_12 wd_995) rfl rfl rfl (by decide +kernel) ⟨h1, h2⟩
theorem cw_X6_60 {R : Room} {s : State} {args : Array Value} {fr lo : Nat} (hts : ∀ w ∈ tb, w.before args s = true) (h1 : fr + 1 ≤ R.frames) (h2 : 8 + (2 + 11) + lo ≤ R.locals) : CallW R s args RX6 RX1 60 yX1_end cX1_end 2 none (.code yX1_end cX1_end 2 none :: tb) (mRm fr lo) 0 0 1 := cwV 1 hts (gd_V wd_1199 wd_1200 wd_1201 wd_9 wd_1202) rfl rfl rfl (by decide +kernel) ⟨h1, h2⟩
theorem cw_X6_56 {R : Room} {s : State} {args : Array Value} {fr lo : Nat} (hts : ∀ w ∈ tb, w.before args s = true) (h1 : fr + 1 ≤ R.frames) (h2 : 8 + (3 + 11) + lo ≤ R.locals) : CallW R s args RX6 RX1 56 yX1_breakOff cX1_breakOff 3 none (.code yX1_breakOff cX1_breakOff 3 none :: tb) (mRm fr lo) 0 0 2 := cwV 2 hts (gd_V wd_1195 wd_1196 wd_1197 wd_9 wd_1198) rfl rfl rfl (by decide +kernel) ⟨h1, h2⟩
theorem cw_X6_50 {R : Room} {s : State} {args : Array Value} {fr lo : Nat} (hts : ∀ w ∈ tb, w.before args s = true) (h1 : fr + 1 ≤ R.frames) (h2 : 8 + (2 + 11) + lo ≤ R.locals) : CallW R s args RX6 RX1 50 yX1_stand cX1_stand 2 none (.code yX1_stand cX1_stand 2 none :: tb) (mRm fr lo) 0 0 1 := cwV 1 hts (gd_V wd_1148 wd_1149 wd_1150 wd_9 wd_1151) rfl rfl rfl (by decide +kernel) ⟨h1, h2⟩
set_option maxHeartbeats 4000000 in
set_option maxRecDepth 100000 in
theorem kt_X6_takeTurn (l : Launch) (S : kS) (t0 : Nat) (a0 : Int32) (K : kS → Int32 → Prop) (h : wp_X6_takeTurn t0 a0 S K) : nMi l yX6_takeTurn cX6_takeTurn 4 (some .int) 6 152 4000 [.ref t0, .int a0] S K := by
  refine nv_ofi (own := RX6) (by decide) rfl (Nat.le_of_ble_eq_true rfl) ?_
  intro E p e R s m args below meth c A ls Q hRf hRl hRc hRs hX hC hl hmL hini hret
  obtain ⟨n0, hn⟩ : ∃ n0, cnt S = n0 := ⟨_, rfl⟩
  rw [hn] at hret ⊢
  have hx := hX.1.1
  have hb := hX.1.2.1
  have hown := hX.1.2.2.2.1
  have hts := hX.1.2.2.2.2
  have cut61 : ∀ (x0 : Nat) (x2 : Nat) (S : kS) (n : Nat) (H : Heap) (locs : List Loc) (ls : Array Slot), wp_X6_takeTurn_61 K n0 x0 x2 S → cM E A s.heap S H locs → cnt S = n → n0 ≤ n → n ≤ n0 + 4000 → lv_has ls 4 [(0, .ref x0), (2, .ref x2)] → W p l e R s m args below meth c H locs (n - n0) (20 * (n - n0)) Q (F0 m 61 ls []) := by
    intro x0 x2 S n H locs ls h hC hn hb1 hb2 hl
    unfold wp_X6_takeTurn_61 at h
    refine lv_aload_n hx hb dX6_takeTurn_61 rfl (lv_at hl 0 rfl) ?_
    refine cq_geti (ci := 6) (k := 6) (f := 22) hX hC rfl in_X6 (by decide) wd_310 (fun _ h9 => h9) (fun _ _ => rfl) dX6_takeTurn_62 h (fun z14 h => ?_)
    refine lv_iconst (v := 1) hx hb dX6_takeTurn_65 (by decide) ?_
    refine lv_icmp_ne (tgt := 80) hx hb dX6_takeTurn_66 (by decide) (fun c15 => ?_) (fun c15 => ?_)
    · have h := h.1 c15
      refine lv_aload_n hx hb dX6_takeTurn_80 rfl (lv_at hl 0 rfl) ?_
      refine cq_geti (ci := 6) (k := 6) (f := 22) hX hC rfl in_X6 (by decide) wd_310 (fun _ h9 => h9) (fun _ _ => rfl) dX6_takeTurn_81 h (fun z16 h => ?_)
      refine lv_iconst (v := 2) hx hb dX6_takeTurn_84 (by decide) ?_
      refine lv_icmp_ne (tgt := 103) hx hb dX6_takeTurn_85 (by decide) (fun c17 => ?_) (fun c17 => ?_)
      · have h := h.1 c17
        refine lv_aload_n hx hb dX6_takeTurn_103 rfl (lv_at hl 0 rfl) ?_
        refine cq_getr (ci := 6) (k := 3) (f := 41) hX hC rfl in_X6 (by decide) wd_307 (fun _ h9 => h9) (fun _ _ => rfl) dX6_takeTurn_104 h (fun z18 h => ?_)
        refine lv_aload_n hx hb dX6_takeTurn_107 rfl (lv_at hl 1 rfl) ?_
        obtain ⟨q19, e9, hh⟩ := h
        subst e9
        have h := hh
        clear hh
        refine kv_callv [.ref x2] (rest := []) (ci := 1) rfl hX hC h.1 (kt_X1_end l S q19 x2 _ (km_X1_end _ _ _ _ _ (fun S9 hF h => And.intro h (show cnt S9 = n by show S9.2.2.2.2.2.length = _; rw [hF.2.2.2.2.2]; exact hn)) h.2) E _) (cw_X6_60 hts (by omega) (by omega)) rfl hl.1 (Nat.le_of_ble_eq_true rfl) ⟨by omega, by omega⟩ dX6_takeTurn_108 (fun S20 H locs hC hh => ?_)
        obtain ⟨h, hn⟩ := hh
        refine lv_aload_n hx hb dX6_takeTurn_111 rfl (lv_at hl 1 rfl) ?_
        refine cq_geti (ci := 9) (k := 0) (f := 28) hX hC rfl in_X9 (by decide) wd_862 (fun _ h9 => h9) (fun _ _ => rfl) dX6_takeTurn_112 h (fun z21 h => ?_)
        exact hret _ _ n _ _ _ _ hC hn (by omega) (by omega) h dX6_takeTurn_115
      · have h := h.2 c17
        refine lv_aload_n hx hb dX6_takeTurn_88 rfl (lv_at hl 0 rfl) ?_
        refine cq_getr (ci := 6) (k := 3) (f := 41) hX hC rfl in_X6 (by decide) wd_307 (fun _ h9 => h9) (fun _ _ => rfl) dX6_takeTurn_89 h (fun z22 h => ?_)
        refine lv_aload_n hx hb dX6_takeTurn_92 rfl (lv_at hl 1 rfl) ?_
        refine lv_aload_n hx hb dX6_takeTurn_93 rfl (lv_at hl 0 rfl) ?_
        refine cq_geti (ci := 6) (k := 7) (f := 23) hX hC rfl in_X6 (by decide) wd_311 (fun _ h9 => h9) (fun _ _ => rfl) dX6_takeTurn_94 h (fun z23 h => ?_)
        obtain ⟨q24, e9, hh⟩ := h
        subst e9
        have h := hh
        clear hh
        refine kv_callv [.ref x2, .int z23] (rest := []) (ci := 1) rfl hX hC h.1 (kt_X1_breakOff l S q24 x2 z23 _ (km_X1_breakOff _ _ _ _ _ _ (fun S9 hF h => And.intro h (show cnt S9 = n by show S9.2.2.2.2.2.length = _; rw [hF.2.2.2.2.2]; exact hn)) h.2) E _) (cw_X6_56 hts (by omega) (by omega)) rfl hl.1 (Nat.le_of_ble_eq_true rfl) ⟨by omega, by omega⟩ dX6_takeTurn_97 (fun S25 H locs hC hh => ?_)
        obtain ⟨h, hn⟩ := hh
        refine lv_goto (tgt := 111) hx hb dX6_takeTurn_100 (by decide) ?_
        refine lv_aload_n hx hb dX6_takeTurn_111 rfl (lv_at hl 1 rfl) ?_
        refine cq_geti (ci := 9) (k := 0) (f := 28) hX hC rfl in_X9 (by decide) wd_862 (fun _ h9 => h9) (fun _ _ => rfl) dX6_takeTurn_112 h (fun z26 h => ?_)
        exact hret _ _ n _ _ _ _ hC hn (by omega) (by omega) h dX6_takeTurn_115
    · have h := h.2 c15
      refine lv_aload_n hx hb dX6_takeTurn_69 rfl (lv_at hl 0 rfl) ?_
      refine cq_getr (ci := 6) (k := 3) (f := 41) hX hC rfl in_X6 (by decide) wd_307 (fun _ h9 => h9) (fun _ _ => rfl) dX6_takeTurn_70 h (fun z27 h => ?_)
      refine lv_aload_n hx hb dX6_takeTurn_73 rfl (lv_at hl 1 rfl) ?_
      obtain ⟨q28, e9, hh⟩ := h
      subst e9
      have h := hh
      clear hh
      refine kv_callv [.ref x2] (rest := []) (ci := 1) rfl hX hC h.1 (kt_X1_stand l S q28 x2 _ (km_X1_stand _ _ _ _ _ (fun S9 hF h => And.intro h (show cnt S9 = n by show S9.2.2.2.2.2.length = _; rw [hF.2.2.2.2.2]; exact hn)) h.2) E _) (cw_X6_50 hts (by omega) (by omega)) rfl hl.1 (Nat.le_of_ble_eq_true rfl) ⟨by omega, by omega⟩ dX6_takeTurn_74 (fun S29 H locs hC hh => ?_)
      obtain ⟨h, hn⟩ := hh
      refine lv_goto (tgt := 111) hx hb dX6_takeTurn_77 (by decide) ?_
      refine lv_aload_n hx hb dX6_takeTurn_111 rfl (lv_at hl 1 rfl) ?_
      refine cq_geti (ci := 9) (k := 0) (f := 28) hX hC rfl in_X9 (by decide) wd_862 (fun _ h9 => h9) (fun _ _ => rfl) dX6_takeTurn_112 h (fun z30 h => ?_)
      exact hret _ _ n _ _ _ _ hC hn (by omega) (by omega) h dX6_takeTurn_115
  have cut37 : ∀ (n37 : Nat) (x0 : Nat) (x2 : Nat) (x3 : Int32) (S : kS) (n : Nat) (H : Heap) (locs : List Loc) (ls : Array Slot), it (ls_X6_takeTurn_37 K n0) n37 (x0, x2, x3, S) → cM E A s.heap S H locs → cnt S = n → n0 ≤ n → n ≤ n0 + 4000 → lv_has ls 4 [(0, .ref x0), (2, .ref x2), (3, .int x3)] → W p l e R s m args below meth c H locs (n - n0) (20 * (n - n0)) Q (F0 m 37 ls []) := by
    intro n37
    induction n37 with
    | zero => intro x0 x2 x3 S n H locs ls h hC hn hb1 hb2 hl; exact h.elim
    | succ n37 ih37 =>
      intro x0 x2 x3 S n H locs ls h hC hn hb1 hb2 hl
      have h : wp_X6_takeTurn_37 K n0 (it (ls_X6_takeTurn_37 K n0) n37) x0 x2 x3 S := h
      unfold wp_X6_takeTurn_37 at h
      refine lv_iload_n hx hb dX6_takeTurn_37 rfl (lv_at hl 2 rfl) ?_
      refine lv_ldc (v := 1000000) hx hb hown (hts _ wd_991) dX6_takeTurn_38 ?_
      refine lv_icmp_ge (tgt := 61) hx hb dX6_takeTurn_40 (by decide) (fun c9 => ?_) (fun c9 => ?_)
      · have h := h.1 c9
        exact cut61 x0 x2 S n _ _ _ h hC hn (by omega) (by omega) (lv_sub hl [0, 1] rfl)
      · have h := h.2 c9
        refine lv_aload_n hx hb dX6_takeTurn_43 rfl (lv_at hl 0 rfl) ?_
        refine cq_geti (ci := 6) (k := 6) (f := 22) hX hC rfl in_X6 (by decide) wd_310 (fun _ h9 => h9) (fun _ _ => rfl) dX6_takeTurn_44 h (fun z10 h => ?_)
        refine lv_if_ne (tgt := 61) hx hb dX6_takeTurn_47 (by decide) (fun c11 => ?_) (fun c11 => ?_)
        · have h := h.1 c11
          exact cut61 x0 x2 S n _ _ _ h hC hn (by omega) (by omega) (lv_sub hl [0, 1] rfl)
        · have h := h.2 c11
          refine lv_aload_n hx hb dX6_takeTurn_50 rfl (lv_at hl 0 rfl) ?_
          refine lv_aload_n hx hb dX6_takeTurn_51 rfl (lv_at hl 1 rfl) ?_
          have hd9 := h.2.1
          refine nv_callv [.ref x2] (rest := []) (ci := 6) rfl hX hC h.1 (kt_X6_act l S x0 x2 _ h.2.2 E _) (cwn_X6_47 hts (by omega) (by omega)) rfl hl.1 (Nat.le_of_ble_eq_true rfl) ⟨by omega, by omega⟩ dX6_takeTurn_52 (fun S12 H locs hC hn1 hn2 h => ?_)
          obtain ⟨n12, hn9⟩ : ∃ n9, cnt S12 = n9 := ⟨_, rfl⟩
          have hb9 : n ≤ n12 ∧ n12 ≤ n + 5 := by omega
          refine W.widen (k := n12 - n0) (n := 20 * (n12 - n0)) (by omega) (by omega) ?_
          replace hn := hn9
          obtain ⟨z13, ez13⟩ : ∃ y : Int32, y = x3 + 1 := ⟨_, rfl⟩
          have h := h z13 ez13
          refine lv_iinc (v := z13) (lv' := [(3, .int z13), (0, .ref x0), (2, .ref x2)]) hx hb dX6_takeTurn_55 hl (k := 2) rfl (by rw [ez13]; rfl) (by decide) rfl (fun ls hl => ?_)
          refine lv_goto (tgt := 37) hx hb dX6_takeTurn_58 (by decide) ?_
          exact ih37 x0 x2 z13 S12 n12 _ _ _ h hC hn (by omega) (by omega) (lv_sub hl [1, 2, 0] rfl)
  have hl : lv_has ls 4 [(0, .ref t0), (1, .int a0)] := hl
  unfold wp_X6_takeTurn at h
  rw [hn] at h
  refine lv_aload_n hx hb dX6_takeTurn_0 rfl (lv_at hl 0 rfl) ?_
  refine cq_getr (ci := 6) (k := 3) (f := 41) hX hC rfl in_X6 (by decide) wd_307 (fun _ h9 => h9) (fun _ _ => rfl) dX6_takeTurn_1 h (fun z1 h => ?_)
  refine lv_iload_n hx hb dX6_takeTurn_4 rfl (lv_at hl 1 rfl) ?_
  obtain ⟨q2, e9, hh⟩ := h
  subst e9
  have h := hh
  clear hh
  refine kv_callo [.int a0] (rest := []) (ci := 1) rfl hX hC h.1 (kt_X1_leaveRow l S q2 a0 _ (km_X1_leaveRow _ _ _ _ _ (fun S9 r9 hF h => And.intro h (show cnt S9 = n0 by show S9.2.2.2.2.2.length = _; rw [hF.2.2.2.2.2]; exact hn)) h.2) E _) (cw_X6_26 hts (by omega) (by omega)) rfl hl.1 (Nat.le_of_ble_eq_true rfl) ⟨by omega, by omega⟩ dX6_takeTurn_5 (fun o3 S3 H locs hC hh => ?_)
  obtain ⟨h, hn⟩ := hh
  refine lo_astore_n (lv' := [(2, va_rf o3), (0, .ref t0), (1, .int a0)]) hx hb dX6_takeTurn_8 rfl hl (by decide) (by rcases o3 with _ | _ <;> rfl) (fun ls hl => ?_)
  refine lo_aload_n hx hb dX6_takeTurn_9 rfl (lv_at hl 0 rfl) ?_
  rcases o3 with _ | q4
  · have h := h.1 rfl
    refine lv_ifnonnullN hx hb dX6_takeTurn_10 ?_
    refine lv_iconst (v := -1) hx hb dX6_takeTurn_13 (by decide) ?_
    exact hret _ _ n0 _ _ _ _ hC hn (by omega) (by omega) h dX6_takeTurn_14
  · have h := h.2 q4 rfl
    refine lv_ifnonnull (tgt := 15) hx hb dX6_takeTurn_10 (by decide) ?_
    refine lv_aload_n hx hb dX6_takeTurn_15 rfl (lv_at hl 1 rfl) ?_
    refine lv_iconst (v := 0) hx hb dX6_takeTurn_16 (by decide) ?_
    refine cq_puti (v := 0) (ci := 6) (k := 1) (f := 20) hX hC rfl in_X6 (by decide) wd_303 (fun _ h9 => h9) tyX6 tyX6_ok nmX6 rfl rfl rfl (fun _ _ => Nat.le_of_ble_eq_true rfl) (fun _ _ _ => rfl) dX6_takeTurn_17 h.1 (fun S9 e9 => And.intro (h.2 S9 e9) (show cnt S9 = n0 by rw [e9]; exact hn)) (fun S5 H locs hC hh => ?_)
    obtain ⟨h, hn⟩ := hh
    refine lv_aload_n hx hb dX6_takeTurn_20 rfl (lv_at hl 1 rfl) ?_
    refine lv_iconst (v := 0) hx hb dX6_takeTurn_21 (by decide) ?_
    refine cq_puti (v := 0) (ci := 6) (k := 5) (f := 21) hX hC rfl in_X6 (by decide) wd_309 (fun _ h9 => h9) tyX6 tyX6_ok nmX6 rfl rfl rfl (fun _ _ => Nat.le_of_ble_eq_true rfl) (fun _ _ _ => rfl) dX6_takeTurn_22 h.1 (fun S9 e9 => And.intro (h.2 S9 e9) (show cnt S9 = n0 by rw [e9]; exact hn)) (fun S6 H locs hC hh => ?_)
    obtain ⟨h, hn⟩ := hh
    refine lv_aload_n hx hb dX6_takeTurn_25 rfl (lv_at hl 1 rfl) ?_
    refine lv_iconst (v := 0) hx hb dX6_takeTurn_26 (by decide) ?_
    refine cq_puti (v := 0) (ci := 6) (k := 6) (f := 22) hX hC rfl in_X6 (by decide) wd_310 (fun _ h9 => h9) tyX6 tyX6_ok nmX6 rfl rfl rfl (fun _ _ => Nat.le_of_ble_eq_true rfl) (fun _ _ _ => rfl) dX6_takeTurn_27 h.1 (fun S9 e9 => And.intro (h.2 S9 e9) (show cnt S9 = n0 by rw [e9]; exact hn)) (fun S7 H locs hC hh => ?_)
    obtain ⟨h, hn⟩ := hh
    refine lv_aload_n hx hb dX6_takeTurn_30 rfl (lv_at hl 1 rfl) ?_
    refine lv_aload_n hx hb dX6_takeTurn_31 rfl (lv_at hl 0 rfl) ?_
    refine kv_callv [.ref q4] (rest := []) (ci := 6) rfl hX hC h.1 (kt_X6_wake l S7 t0 q4 _ (km_X6_wake _ _ _ _ _ (fun S9 hF h => And.intro h (show cnt S9 = n0 by show S9.2.2.2.2.2.length = _; rw [hF.2.2.2.2.2]; exact hn)) h.2) E _) (cw_X6_42 hts (by omega) (by omega)) rfl hl.1 (Nat.le_of_ble_eq_true rfl) ⟨by omega, by omega⟩ dX6_takeTurn_32 (fun S8 H locs hC hh => ?_)
    obtain ⟨h, hn⟩ := hh
    refine lv_iconst (v := 0) hx hb dX6_takeTurn_35 (by decide) ?_
    refine lv_istore_n (lv' := [(3, .int 0), (2, .ref q4), (0, .ref t0), (1, .int a0)]) hx hb dX6_takeTurn_36 rfl hl (by decide) rfl (fun ls hl => ?_)
    obtain ⟨n9, h⟩ := h
    exact cut37 n9 t0 q4 0 S8 n0 _ _ _ h hC hn (by omega) (by omega) (lv_sub hl [2, 1, 0] rfl)
def wp_X11_turn (t0 : Nat) (a0 : Int32) (S : kS) (K : kS → Int32 → Prop) : Prop := hasO S t0 11 ∧ ∀ z1 : Option Nat, z1 = S.2.1 73 t0 → ∃ q2 : Nat, z1 = some q2 ∧ hasO S q2 6 ∧ wp_X6_takeTurn q2 a0 S (fun (S3 : kS) (r3 : Int32) => K S3 r3)
theorem cwn_X11_142 {R : Room} {s : State} {args : Array Value} {fr lo : Nat} (hts : ∀ w ∈ tb, w.before args s = true) (h1 : fr + 1 ≤ R.frames) (h2 : 8 + (4 + 11) + lo ≤ R.locals) : CallW R s args RX11 RX6 142 yX6_takeTurn cX6_takeTurn 4 (some .int) (.code yX6_takeTurn cX6_takeTurn 4 (some .int) :: tb) (kRm fr lo 4000 (20 * 4000)) 4000 (20 * 4000) 1 := cwV 1 hts (gd_V wd_961 wd_962 wd_963 wd_12 wd_964) rfl rfl rfl (by decide +kernel) ⟨h1, h2⟩
set_option maxHeartbeats 4000000 in
set_option maxRecDepth 100000 in
theorem kt_X11_turn (l : Launch) (S : kS) (t0 : Nat) (a0 : Int32) (K : kS → Int32 → Prop) (h : wp_X11_turn t0 a0 S K) : nMi l yX11_turn cX11_turn 2 (some .int) 7 175 4000 [.ref t0, .int a0] S K := by
  refine nv_ofi (own := RX11) (by decide) rfl (Nat.le_of_ble_eq_true rfl) ?_
  intro E p e R s m args below meth c A ls Q hRf hRl hRc hRs hX hC hl hmL hini hret
  obtain ⟨n0, hn⟩ : ∃ n0, cnt S = n0 := ⟨_, rfl⟩
  rw [hn] at hret ⊢
  have hx := hX.1.1
  have hb := hX.1.2.1
  have hown := hX.1.2.2.2.1
  have hts := hX.1.2.2.2.2
  have hl : lv_has ls 2 [(0, .ref t0), (1, .int a0)] := hl
  unfold wp_X11_turn at h
  refine lv_aload_n hx hb dX11_turn_0 rfl (lv_at hl 0 rfl) ?_
  refine cq_getr (ci := 11) (k := 4) (f := 73) hX hC rfl in_X11 (by decide) wd_482 (fun _ h9 => h9) (fun _ _ => rfl) dX11_turn_1 h (fun z1 h => ?_)
  refine lv_iload_n hx hb dX11_turn_4 rfl (lv_at hl 1 rfl) ?_
  obtain ⟨q2, e9, hh⟩ := h
  subst e9
  have h := hh
  clear hh
  refine nv_calli [.int a0] (rest := []) (ci := 6) rfl hX hC h.1 (kt_X6_takeTurn l S q2 a0 _ h.2 E _) (cwn_X11_142 hts (by omega) (by omega)) rfl hl.1 (Nat.le_of_ble_eq_true rfl) ⟨by omega, by omega⟩ dX11_turn_5 (fun r3 S3 H locs hC hn1 hn2 h => ?_)
  obtain ⟨n3, hn9⟩ : ∃ n9, cnt S3 = n9 := ⟨_, rfl⟩
  have hb9 : n0 ≤ n3 ∧ n3 ≤ n0 + 4000 := by omega
  refine W.widen (k := n3 - n0) (n := 20 * (n3 - n0)) (by omega) (by omega) ?_
  replace hn := hn9
  exact hret _ _ n3 _ _ _ _ hC hn (by omega) (by omega) h dX11_turn_8
def wp_X11_rounds_15 (K : kS → Int32 → Prop) (n0 : Nat) (k15 : Nat × Int32 × Int32 × kS → Prop) (x0 : Nat) (x1 : Int32) (x2 : Int32) (S : kS) : Prop := ((x1 ≤ x2 → K S x2) ∧ (¬ x1 ≤ x2 → hasO S x0 11 ∧ ∀ z4 : Option Nat, z4 = S.2.1 73 x0 → ∃ q5 : Nat, z4 = some q5 ∧ hasO S q5 6 ∧ cnt S + 4000 ≤ n0 + 105000 ∧ wp_X6_takeTurn q5 0 S (fun (S6 : kS) (r6 : Int32) => ((r6 = (-1) → K S6 x2) ∧ (¬ r6 = (-1) → ∀ z8 : Int32, z8 = x2 + 1 → k15 (x0, x1, z8, S6))))))
def ls_X11_rounds_15 (K : kS → Int32 → Prop) (n0 : Nat) (k15 : Nat × Int32 × Int32 × kS → Prop) (u : Nat × Int32 × Int32 × kS) : Prop := wp_X11_rounds_15 K n0 k15 u.1 u.2.1 u.2.2.1 u.2.2.2
def wp_X11_rounds (t0 : Nat) (a0 : Int32) (S : kS) (K : kS → Int32 → Prop) : Prop := ((a0 < 0 → K S (-1)) ∧ (¬ a0 < 0 → ((a0 ≤ 400 → (∃ n9, it (ls_X11_rounds_15 K (cnt S)) n9 (t0, a0, 0, S))) ∧ (¬ a0 ≤ 400 → K S (-1)))))
set_option maxHeartbeats 4000000 in
set_option maxRecDepth 100000 in
theorem kt_X11_rounds (l : Launch) (S : kS) (t0 : Nat) (a0 : Int32) (K : kS → Int32 → Prop) (h : wp_X11_rounds t0 a0 S K) : nMi l yX11_rounds cX11_rounds 3 (some .int) 7 175 105000 [.ref t0, .int a0] S K := by
  refine nv_ofi (own := RX11) (by decide) rfl (Nat.le_of_ble_eq_true rfl) ?_
  intro E p e R s m args below meth c A ls Q hRf hRl hRc hRs hX hC hl hmL hini hret
  obtain ⟨n0, hn⟩ : ∃ n0, cnt S = n0 := ⟨_, rfl⟩
  rw [hn] at hret ⊢
  have hx := hX.1.1
  have hb := hX.1.2.1
  have hown := hX.1.2.2.2.1
  have hts := hX.1.2.2.2.2
  have cut15 : ∀ (n15 : Nat) (x0 : Nat) (x1 : Int32) (x2 : Int32) (S : kS) (n : Nat) (H : Heap) (locs : List Loc) (ls : Array Slot), it (ls_X11_rounds_15 K n0) n15 (x0, x1, x2, S) → cM E A s.heap S H locs → cnt S = n → n0 ≤ n → n ≤ n0 + 105000 → lv_has ls 3 [(0, .ref x0), (1, .int x1), (2, .int x2)] → W p l e R s m args below meth c H locs (n - n0) (20 * (n - n0)) Q (F0 m 15 ls []) := by
    intro n15
    induction n15 with
    | zero => intro x0 x1 x2 S n H locs ls h hC hn hb1 hb2 hl; exact h.elim
    | succ n15 ih15 =>
      intro x0 x1 x2 S n H locs ls h hC hn hb1 hb2 hl
      have h : wp_X11_rounds_15 K n0 (it (ls_X11_rounds_15 K n0) n15) x0 x1 x2 S := h
      unfold wp_X11_rounds_15 at h
      refine lv_iload_n hx hb dX11_rounds_15 rfl (lv_at hl 2 rfl) ?_
      refine lv_iload_n hx hb dX11_rounds_16 rfl (lv_at hl 1 rfl) ?_
      refine lv_icmp_ge (tgt := 38) hx hb dX11_rounds_17 (by decide) (fun c3 => ?_) (fun c3 => ?_)
      · have h := h.1 c3
        refine lv_iload_n hx hb dX11_rounds_38 rfl (lv_at hl 2 rfl) ?_
        exact hret _ _ n _ _ _ _ hC hn (by omega) (by omega) h dX11_rounds_39
      · have h := h.2 c3
        refine lv_aload_n hx hb dX11_rounds_20 rfl (lv_at hl 0 rfl) ?_
        refine cq_getr (ci := 11) (k := 4) (f := 73) hX hC rfl in_X11 (by decide) wd_482 (fun _ h9 => h9) (fun _ _ => rfl) dX11_rounds_21 h (fun z4 h => ?_)
        refine lv_iconst (v := 0) hx hb dX11_rounds_24 (by decide) ?_
        obtain ⟨q5, e9, hh⟩ := h
        subst e9
        have h := hh
        clear hh
        have hd9 := h.2.1
        refine nv_calli [.int 0] (rest := []) (ci := 6) rfl hX hC h.1 (kt_X6_takeTurn l S q5 0 _ h.2.2 E _) (cwn_X11_142 hts (by omega) (by omega)) rfl hl.1 (Nat.le_of_ble_eq_true rfl) ⟨by omega, by omega⟩ dX11_rounds_25 (fun r6 S6 H locs hC hn1 hn2 h => ?_)
        obtain ⟨n6, hn9⟩ : ∃ n9, cnt S6 = n9 := ⟨_, rfl⟩
        have hb9 : n ≤ n6 ∧ n6 ≤ n + 4000 := by omega
        refine W.widen (k := n6 - n0) (n := 20 * (n6 - n0)) (by omega) (by omega) ?_
        replace hn := hn9
        refine lv_iconst (v := -1) hx hb dX11_rounds_28 (by decide) ?_
        refine lv_icmp_eq (tgt := 38) hx hb dX11_rounds_29 (by decide) (fun c7 => ?_) (fun c7 => ?_)
        · have h := h.1 c7
          refine lv_iload_n hx hb dX11_rounds_38 rfl (lv_at hl 2 rfl) ?_
          exact hret _ _ n6 _ _ _ _ hC hn (by omega) (by omega) h dX11_rounds_39
        · have h := h.2 c7
          obtain ⟨z8, ez8⟩ : ∃ y : Int32, y = x2 + 1 := ⟨_, rfl⟩
          have h := h z8 ez8
          refine lv_iinc (v := z8) (lv' := [(2, .int z8), (0, .ref x0), (1, .int x1)]) hx hb dX11_rounds_32 hl (k := 2) rfl (by rw [ez8]; rfl) (by decide) rfl (fun ls hl => ?_)
          refine lv_goto (tgt := 15) hx hb dX11_rounds_35 (by decide) ?_
          exact ih15 x0 x1 z8 S6 n6 _ _ _ h hC hn (by omega) (by omega) (lv_sub hl [1, 2, 0] rfl)
  have hl : lv_has ls 3 [(0, .ref t0), (1, .int a0)] := hl
  unfold wp_X11_rounds at h
  rw [hn] at h
  refine lv_iload_n hx hb dX11_rounds_0 rfl (lv_at hl 1 rfl) ?_
  refine lv_if_lt (tgt := 11) hx hb dX11_rounds_1 (by decide) (fun c1 => ?_) (fun c1 => ?_)
  · have h := h.1 c1
    refine lv_iconst (v := -1) hx hb dX11_rounds_11 (by decide) ?_
    exact hret _ _ n0 _ _ _ _ hC hn (by omega) (by omega) h dX11_rounds_12
  · have h := h.2 c1
    refine lv_iload_n hx hb dX11_rounds_4 rfl (lv_at hl 1 rfl) ?_
    refine lv_sipush (v := 400) hx hb dX11_rounds_5 (by decide) ?_
    refine lv_icmp_le (tgt := 13) hx hb dX11_rounds_8 (by decide) (fun c2 => ?_) (fun c2 => ?_)
    · have h := h.1 c2
      refine lv_iconst (v := 0) hx hb dX11_rounds_13 (by decide) ?_
      refine lv_istore_n (lv' := [(2, .int 0), (0, .ref t0), (1, .int a0)]) hx hb dX11_rounds_14 rfl hl (by decide) rfl (fun ls hl => ?_)
      obtain ⟨n9, h⟩ := h
      exact cut15 n9 t0 a0 0 S n0 _ _ _ h hC hn (by omega) (by omega) (lv_sub hl [1, 2, 0] rfl)
    · have h := h.2 c2
      refine lv_iconst (v := -1) hx hb dX11_rounds_11 (by decide) ?_
      exact hret _ _ n0 _ _ _ _ hC hn (by omega) (by omega) h dX11_rounds_12
def wp_X11_begin_108 (K : kS → Int32 → Prop) (x6 : Nat) (y0 : Nat) (y1 : Int32) (y2 : Int32) (S : kS) : Prop := hasO S y0 9 ∧ wp_X9_set y0 y1 y2 S (fun (S21 : kS) => hasO S21 x6 9 ∧ ∀ z22 : Int32, z22 = S21.1 28 x6 → K S21 z22)
def wp_X11_begin_90 (K : kS → Int32 → Prop) (x5 : Int32) (x6 : Nat) (x7 : Int32) (y0 : Nat) (y1 : Int32) (y2 : Int32) (S : kS) : Prop := hasO S y0 9 ∧ wp_X9_set y0 y1 y2 S (fun (S19 : kS) => ((x7 ≤ 3 → wp_X11_begin_108 K x6 x6 3 0 S19) ∧ (¬ x7 ≤ 3 → wp_X11_begin_108 K x6 x6 3 x5 S19)))
def wp_X11_begin_72 (K : kS → Int32 → Prop) (x4 : Int32) (x5 : Int32) (x6 : Nat) (x7 : Int32) (y0 : Nat) (y1 : Int32) (y2 : Int32) (S : kS) : Prop := hasO S y0 9 ∧ wp_X9_set y0 y1 y2 S (fun (S17 : kS) => ((x7 ≤ 2 → wp_X11_begin_90 K x5 x6 x7 x6 2 0 S17) ∧ (¬ x7 ≤ 2 → wp_X11_begin_90 K x5 x6 x7 x6 2 x4 S17)))
def wp_X11_begin_55 (K : kS → Int32 → Prop) (x3 : Int32) (x4 : Int32) (x5 : Int32) (x6 : Nat) (x7 : Int32) (y0 : Nat) (y1 : Int32) (y2 : Int32) (S : kS) : Prop := hasO S y0 9 ∧ wp_X9_set y0 y1 y2 S (fun (S15 : kS) => ((x7 ≤ 1 → wp_X11_begin_72 K x4 x5 x6 x7 x6 1 0 S15) ∧ (¬ x7 ≤ 1 → wp_X11_begin_72 K x4 x5 x6 x7 x6 1 x3 S15)))
def wp_X11_begin (t0 : Nat) (a0 : Int32) (a1 : Int32) (a2 : Int32) (a3 : Int32) (a4 : Int32) (S : kS) (K : kS → Int32 → Prop) : Prop := hasO S t0 11 ∧ ∀ z1 : Option Nat, z1 = S.2.1 74 t0 → ∃ q2 : Nat, z1 = some q2 ∧ hasO S q2 5 ∧ wp_X5_has q2 a0 S (fun (S3 : kS) (r3 : Int32) => ((¬ r3 = 0 → hasO S3 t0 11 ∧ ∀ z5 : Option Nat, z5 = S3.2.1 72 t0 → ∃ q6 : Nat, z5 = some q6 ∧ hasO S3 q6 1 ∧ wp_X1_newTask q6 a0 none S3 (fun (S7 : kS) (o7 : Option Nat) => ((o7 = none → K S7 (-1)) ∧ (∀ q8 : Nat, o7 = some q8 → hasO S7 t0 11 ∧ ∀ z9 : Option Nat, z9 = S7.2.1 74 t0 → ∃ q10 : Nat, z9 = some q10 ∧ hasO S7 q10 5 ∧ ∀ z11 : Option Nat, z11 = S7.2.1 34 q10 → ∃ q12 : Nat, z11 = some q12 ∧ hasA S7 q12 12 0 ∧ inR a0 12 ∧ ∀ z13 : Int32, z13 = S7.2.2.1 q12 (ix a0) → ((z13 ≤ 0 → wp_X11_begin_55 K a2 a3 a4 q8 z13 q8 0 0 S7) ∧ (¬ z13 ≤ 0 → wp_X11_begin_55 K a2 a3 a4 q8 z13 q8 0 a1 S7)))))) ∧ (r3 = 0 → K S3 (-1))))
theorem cw_X11_97 {R : Room} {s : State} {args : Array Value} {fr lo : Nat} (hts : ∀ w ∈ tb, w.before args s = true) (h1 : fr + 1 ≤ R.frames) (h2 : 8 + (2 + 11) + lo ≤ R.locals) : CallW R s args RX11 RX5 97 yX5_has cX5_has 2 (some .boolean) (.code yX5_has cX5_has 2 (some .boolean) :: tb) (mRm fr lo) 0 0 1 := cwV 1 hts (gd_V wd_851 wd_649 wd_650 wd_13 wd_651) rfl rfl rfl (by decide +kernel) ⟨h1, h2⟩
theorem cwn_X11_129 {R : Room} {s : State} {args : Array Value} {fr lo : Nat} (hts : ∀ w ∈ tb, w.before args s = true) (h1 : fr + 1 ≤ R.frames) (h2 : 8 + (5 + 11) + lo ≤ R.locals) : CallW R s args RX11 RX1 129 yX1_newTask cX1_newTask 5 (some (.object "Sleepers$Task")) (.code yX1_newTask cX1_newTask 5 (some (.object "Sleepers$Task")) :: tb) (kRm fr lo 4 (20 * 4)) 4 (20 * 4) 2 := cwV 2 hts (gd_V wd_852 wd_853 wd_854 wd_9 wd_855) rfl rfl rfl (by decide +kernel) ⟨h1, h2⟩
theorem cw_X11_133 {R : Room} {s : State} {args : Array Value} {fr lo : Nat} (hts : ∀ w ∈ tb, w.before args s = true) (h1 : fr + 1 ≤ R.frames) (h2 : 8 + (3 + 11) + lo ≤ R.locals) : CallW R s args RX11 RX9 133 yX9_set cX9_set 3 none (.code yX9_set cX9_set 3 none :: tb) (mRm fr lo) 0 0 2 := cwV 2 hts (gd_V wd_953 wd_954 wd_955 wd_22 wd_956) rfl rfl rfl (by decide +kernel) ⟨h1, h2⟩
set_option maxHeartbeats 4000000 in
set_option maxRecDepth 100000 in
theorem kt_X11_begin (l : Launch) (S : kS) (t0 : Nat) (a0 : Int32) (a1 : Int32) (a2 : Int32) (a3 : Int32) (a4 : Int32) (K : kS → Int32 → Prop) (h : wp_X11_begin t0 a0 a1 a2 a3 a4 S K) : nMi l yX11_begin cX11_begin 8 (some .int) 3 57 4 [.ref t0, .int a0, .int a1, .int a2, .int a3, .int a4] S K := by
  refine nv_ofi (own := RX11) (by decide) rfl (Nat.le_of_ble_eq_true rfl) ?_
  intro E p e R s m args below meth c A ls Q hRf hRl hRc hRs hX hC hl hmL hini hret
  obtain ⟨n0, hn⟩ : ∃ n0, cnt S = n0 := ⟨_, rfl⟩
  rw [hn] at hret ⊢
  have hx := hX.1.1
  have hb := hX.1.2.1
  have hown := hX.1.2.2.2.1
  have hts := hX.1.2.2.2.2
  have cut108 : ∀ (x6 : Nat) (y0 : Nat) (y1 : Int32) (y2 : Int32) (S : kS) (n : Nat) (H : Heap) (locs : List Loc) (ls : Array Slot), wp_X11_begin_108 K x6 y0 y1 y2 S → cM E A s.heap S H locs → cnt S = n → n0 ≤ n → n ≤ n0 + 4 → lv_has ls 8 [(6, .ref x6)] → W p l e R s m args below meth c H locs (n - n0) (20 * (n - n0)) Q (F0 m 108 ls [.int y2, .int y1, .ref y0]) := by
    intro x6 y0 y1 y2 S n H locs ls h hC hn hb1 hb2 hl
    unfold wp_X11_begin_108 at h
    refine kv_callv [.int y1, .int y2] (rest := []) (ci := 9) rfl hX hC h.1 (kt_X9_set l S y0 y1 y2 _ (km_X9_set _ _ _ _ _ _ (fun S9 hF h => And.intro h (show cnt S9 = n by show S9.2.2.2.2.2.length = _; rw [hF.2.2.2.2.2]; exact hn)) h.2) E _) (cw_X11_133 hts (by omega) (by omega)) rfl hl.1 (Nat.le_of_ble_eq_true rfl) ⟨by omega, by omega⟩ dX11_begin_108 (fun S21 H locs hC hh => ?_)
    obtain ⟨h, hn⟩ := hh
    refine lv_aload hx hb dX11_begin_111 (lv_at hl 0 rfl) ?_
    refine cq_geti (ci := 9) (k := 0) (f := 28) hX hC rfl in_X9 (by decide) wd_865 (fun _ h9 => h9) (fun _ _ => rfl) dX11_begin_113 h (fun z22 h => ?_)
    exact hret _ _ n _ _ _ _ hC hn (by omega) (by omega) h dX11_begin_116
  have cut90 : ∀ (x5 : Int32) (x6 : Nat) (x7 : Int32) (y0 : Nat) (y1 : Int32) (y2 : Int32) (S : kS) (n : Nat) (H : Heap) (locs : List Loc) (ls : Array Slot), wp_X11_begin_90 K x5 x6 x7 y0 y1 y2 S → cM E A s.heap S H locs → cnt S = n → n0 ≤ n → n ≤ n0 + 4 → lv_has ls 8 [(5, .int x5), (6, .ref x6), (7, .int x7)] → W p l e R s m args below meth c H locs (n - n0) (20 * (n - n0)) Q (F0 m 90 ls [.int y2, .int y1, .ref y0]) := by
    intro x5 x6 x7 y0 y1 y2 S n H locs ls h hC hn hb1 hb2 hl
    unfold wp_X11_begin_90 at h
    refine kv_callv [.int y1, .int y2] (rest := []) (ci := 9) rfl hX hC h.1 (kt_X9_set l S y0 y1 y2 _ (km_X9_set _ _ _ _ _ _ (fun S9 hF h => And.intro h (show cnt S9 = n by show S9.2.2.2.2.2.length = _; rw [hF.2.2.2.2.2]; exact hn)) h.2) E _) (cw_X11_133 hts (by omega) (by omega)) rfl hl.1 (Nat.le_of_ble_eq_true rfl) ⟨by omega, by omega⟩ dX11_begin_90 (fun S19 H locs hC hh => ?_)
    obtain ⟨h, hn⟩ := hh
    refine lv_aload hx hb dX11_begin_93 (lv_at hl 1 rfl) ?_
    refine lv_iconst (v := 3) hx hb dX11_begin_95 (by decide) ?_
    refine lv_iload hx hb dX11_begin_96 (lv_at hl 2 rfl) ?_
    refine lv_iconst (v := 3) hx hb dX11_begin_98 (by decide) ?_
    refine lv_icmp_le (tgt := 107) hx hb dX11_begin_99 (by decide) (fun c20 => ?_) (fun c20 => ?_)
    · have h := h.1 c20
      refine lv_iconst (v := 0) hx hb dX11_begin_107 (by decide) ?_
      exact cut108 x6 x6 3 0 S19 n _ _ _ h hC hn (by omega) (by omega) (lv_sub hl [1] rfl)
    · have h := h.2 c20
      refine lv_iload hx hb dX11_begin_102 (lv_at hl 0 rfl) ?_
      refine lv_goto (tgt := 108) hx hb dX11_begin_104 (by decide) ?_
      exact cut108 x6 x6 3 x5 S19 n _ _ _ h hC hn (by omega) (by omega) (lv_sub hl [1] rfl)
  have cut72 : ∀ (x4 : Int32) (x5 : Int32) (x6 : Nat) (x7 : Int32) (y0 : Nat) (y1 : Int32) (y2 : Int32) (S : kS) (n : Nat) (H : Heap) (locs : List Loc) (ls : Array Slot), wp_X11_begin_72 K x4 x5 x6 x7 y0 y1 y2 S → cM E A s.heap S H locs → cnt S = n → n0 ≤ n → n ≤ n0 + 4 → lv_has ls 8 [(4, .int x4), (5, .int x5), (6, .ref x6), (7, .int x7)] → W p l e R s m args below meth c H locs (n - n0) (20 * (n - n0)) Q (F0 m 72 ls [.int y2, .int y1, .ref y0]) := by
    intro x4 x5 x6 x7 y0 y1 y2 S n H locs ls h hC hn hb1 hb2 hl
    unfold wp_X11_begin_72 at h
    refine kv_callv [.int y1, .int y2] (rest := []) (ci := 9) rfl hX hC h.1 (kt_X9_set l S y0 y1 y2 _ (km_X9_set _ _ _ _ _ _ (fun S9 hF h => And.intro h (show cnt S9 = n by show S9.2.2.2.2.2.length = _; rw [hF.2.2.2.2.2]; exact hn)) h.2) E _) (cw_X11_133 hts (by omega) (by omega)) rfl hl.1 (Nat.le_of_ble_eq_true rfl) ⟨by omega, by omega⟩ dX11_begin_72 (fun S17 H locs hC hh => ?_)
    obtain ⟨h, hn⟩ := hh
    refine lv_aload hx hb dX11_begin_75 (lv_at hl 2 rfl) ?_
    refine lv_iconst (v := 2) hx hb dX11_begin_77 (by decide) ?_
    refine lv_iload hx hb dX11_begin_78 (lv_at hl 3 rfl) ?_
    refine lv_iconst (v := 2) hx hb dX11_begin_80 (by decide) ?_
    refine lv_icmp_le (tgt := 89) hx hb dX11_begin_81 (by decide) (fun c18 => ?_) (fun c18 => ?_)
    · have h := h.1 c18
      refine lv_iconst (v := 0) hx hb dX11_begin_89 (by decide) ?_
      exact cut90 x5 x6 x7 x6 2 0 S17 n _ _ _ h hC hn (by omega) (by omega) (lv_sub hl [1, 2, 3] rfl)
    · have h := h.2 c18
      refine lv_iload hx hb dX11_begin_84 (lv_at hl 0 rfl) ?_
      refine lv_goto (tgt := 90) hx hb dX11_begin_86 (by decide) ?_
      exact cut90 x5 x6 x7 x6 2 x4 S17 n _ _ _ h hC hn (by omega) (by omega) (lv_sub hl [1, 2, 3] rfl)
  have cut55 : ∀ (x3 : Int32) (x4 : Int32) (x5 : Int32) (x6 : Nat) (x7 : Int32) (y0 : Nat) (y1 : Int32) (y2 : Int32) (S : kS) (n : Nat) (H : Heap) (locs : List Loc) (ls : Array Slot), wp_X11_begin_55 K x3 x4 x5 x6 x7 y0 y1 y2 S → cM E A s.heap S H locs → cnt S = n → n0 ≤ n → n ≤ n0 + 4 → lv_has ls 8 [(3, .int x3), (4, .int x4), (5, .int x5), (6, .ref x6), (7, .int x7)] → W p l e R s m args below meth c H locs (n - n0) (20 * (n - n0)) Q (F0 m 55 ls [.int y2, .int y1, .ref y0]) := by
    intro x3 x4 x5 x6 x7 y0 y1 y2 S n H locs ls h hC hn hb1 hb2 hl
    unfold wp_X11_begin_55 at h
    refine kv_callv [.int y1, .int y2] (rest := []) (ci := 9) rfl hX hC h.1 (kt_X9_set l S y0 y1 y2 _ (km_X9_set _ _ _ _ _ _ (fun S9 hF h => And.intro h (show cnt S9 = n by show S9.2.2.2.2.2.length = _; rw [hF.2.2.2.2.2]; exact hn)) h.2) E _) (cw_X11_133 hts (by omega) (by omega)) rfl hl.1 (Nat.le_of_ble_eq_true rfl) ⟨by omega, by omega⟩ dX11_begin_55 (fun S15 H locs hC hh => ?_)
    obtain ⟨h, hn⟩ := hh
    refine lv_aload hx hb dX11_begin_58 (lv_at hl 3 rfl) ?_
    refine lv_iconst (v := 1) hx hb dX11_begin_60 (by decide) ?_
    refine lv_iload hx hb dX11_begin_61 (lv_at hl 4 rfl) ?_
    refine lv_iconst (v := 1) hx hb dX11_begin_63 (by decide) ?_
    refine lv_icmp_le (tgt := 71) hx hb dX11_begin_64 (by decide) (fun c16 => ?_) (fun c16 => ?_)
    · have h := h.1 c16
      refine lv_iconst (v := 0) hx hb dX11_begin_71 (by decide) ?_
      exact cut72 x4 x5 x6 x7 x6 1 0 S15 n _ _ _ h hC hn (by omega) (by omega) (lv_sub hl [1, 2, 3, 4] rfl)
    · have h := h.2 c16
      refine lv_iload_n hx hb dX11_begin_67 rfl (lv_at hl 0 rfl) ?_
      refine lv_goto (tgt := 72) hx hb dX11_begin_68 (by decide) ?_
      exact cut72 x4 x5 x6 x7 x6 1 x3 S15 n _ _ _ h hC hn (by omega) (by omega) (lv_sub hl [1, 2, 3, 4] rfl)
  have hl : lv_has ls 8 [(0, .ref t0), (1, .int a0), (2, .int a1), (3, .int a2), (4, .int a3), (5, .int a4)] := hl
  unfold wp_X11_begin at h
  refine lv_aload_n hx hb dX11_begin_0 rfl (lv_at hl 0 rfl) ?_
  refine cq_getr (ci := 11) (k := 5) (f := 74) hX hC rfl in_X11 (by decide) wd_483 (fun _ h9 => h9) (fun _ _ => rfl) dX11_begin_1 h (fun z1 h => ?_)
  refine lv_iload_n hx hb dX11_begin_4 rfl (lv_at hl 1 rfl) ?_
  obtain ⟨q2, e9, hh⟩ := h
  subst e9
  have h := hh
  clear hh
  refine kv_calli [.int a0] (rest := []) (ci := 5) rfl hX hC h.1 (kt_X5_has l S q2 a0 _ (km_X5_has _ _ _ _ _ (fun S9 r9 hF h => And.intro h (show cnt S9 = n0 by show S9.2.2.2.2.2.length = _; rw [hF.2.2.2.2.2]; exact hn)) h.2) E _) (cw_X11_97 hts (by omega) (by omega)) rfl hl.1 (Nat.le_of_ble_eq_true rfl) ⟨by omega, by omega⟩ dX11_begin_5 (fun r3 S3 H locs hC hh => ?_)
  obtain ⟨h, hn⟩ := hh
  refine lv_if_ne (tgt := 13) hx hb dX11_begin_8 (by decide) (fun c4 => ?_) (fun c4 => ?_)
  · have h := h.1 c4
    refine lv_aload_n hx hb dX11_begin_13 rfl (lv_at hl 0 rfl) ?_
    refine cq_getr (ci := 11) (k := 3) (f := 72) hX hC rfl in_X11 (by decide) wd_481 (fun _ h9 => h9) (fun _ _ => rfl) dX11_begin_14 h (fun z5 h => ?_)
    refine lv_iload_n hx hb dX11_begin_17 rfl (lv_at hl 1 rfl) ?_
    refine lv_null hx hb dX11_begin_18 ?_
    obtain ⟨q6, e9, hh⟩ := h
    subst e9
    have h := hh
    clear hh
    refine nv_callo [.int a0, va_rf none] (rest := []) (ci := 1) rfl hX hC h.1 (kt_X1_newTask l S3 q6 a0 none _ h.2 E _) (cwn_X11_129 hts (by omega) (by omega)) rfl hl.1 (Nat.le_of_ble_eq_true rfl) ⟨by omega, by omega⟩ dX11_begin_19 (fun o7 S7 H locs hC hn1 hn2 h => ?_)
    obtain ⟨n7, hn9⟩ : ∃ n9, cnt S7 = n9 := ⟨_, rfl⟩
    have hb9 : n0 ≤ n7 ∧ n7 ≤ n0 + 4 := by omega
    refine W.widen (k := n7 - n0) (n := 20 * (n7 - n0)) (by omega) (by omega) ?_
    replace hn := hn9
    refine lo_astore (lv' := [(6, va_rf o7), (0, .ref t0), (1, .int a0), (2, .int a1), (3, .int a2), (4, .int a3), (5, .int a4)]) hx hb dX11_begin_22 hl (by decide) (by rcases o7 with _ | _ <;> rfl) (fun ls hl => ?_)
    refine lo_aload hx hb dX11_begin_24 (lv_at hl 0 rfl) ?_
    rcases o7 with _ | q8
    · have h := h.1 rfl
      refine lv_ifnonnullN hx hb dX11_begin_26 ?_
      refine lv_iconst (v := -1) hx hb dX11_begin_29 (by decide) ?_
      exact hret _ _ n7 _ _ _ _ hC hn (by omega) (by omega) h dX11_begin_30
    · have h := h.2 q8 rfl
      refine lv_ifnonnull (tgt := 31) hx hb dX11_begin_26 (by decide) ?_
      refine lv_aload_n hx hb dX11_begin_31 rfl (lv_at hl 1 rfl) ?_
      refine cq_getr (ci := 11) (k := 5) (f := 74) hX hC rfl in_X11 (by decide) wd_483 (fun _ h9 => h9) (fun _ _ => rfl) dX11_begin_32 h (fun z9 h => ?_)
      obtain ⟨q10, e9, hh⟩ := h
      subst e9
      have h := hh
      clear hh
      refine cq_getr (ci := 5) (k := 8) (f := 34) hX hC rfl in_X5 (by decide) wd_422 (fun _ h9 => h9) (fun _ _ => rfl) dX11_begin_35 h (fun z11 h => ?_)
      refine lv_iload_n hx hb dX11_begin_38 rfl (lv_at hl 2 rfl) ?_
      obtain ⟨q12, e9, hh⟩ := h
      subst e9
      have h := hh
      clear hh
      refine cq_ild hX hC dX11_begin_39 h (fun z13 h => ?_)
      refine lv_istore (lv' := [(7, .int z13), (6, .ref q8), (0, .ref t0), (1, .int a0), (2, .int a1), (3, .int a2), (4, .int a3), (5, .int a4)]) hx hb dX11_begin_40 hl (by decide) rfl (fun ls hl => ?_)
      refine lv_aload hx hb dX11_begin_42 (lv_at hl 1 rfl) ?_
      refine lv_iconst (v := 0) hx hb dX11_begin_44 (by decide) ?_
      refine lv_iload hx hb dX11_begin_45 (lv_at hl 0 rfl) ?_
      refine lv_if_le (tgt := 54) hx hb dX11_begin_47 (by decide) (fun c14 => ?_) (fun c14 => ?_)
      · have h := h.1 c14
        refine lv_iconst (v := 0) hx hb dX11_begin_54 (by decide) ?_
        exact cut55 a2 a3 a4 q8 z13 q8 0 0 S7 n7 _ _ _ h hC hn (by omega) (by omega) (lv_sub hl [5, 6, 7, 1, 0] rfl)
      · have h := h.2 c14
        refine lv_iload_n hx hb dX11_begin_50 rfl (lv_at hl 4 rfl) ?_
        refine lv_goto (tgt := 55) hx hb dX11_begin_51 (by decide) ?_
        exact cut55 a2 a3 a4 q8 z13 q8 0 a1 S7 n7 _ _ _ h hC hn (by omega) (by omega) (lv_sub hl [5, 6, 7, 1, 0] rfl)
  · have h := h.2 c4
    refine lv_iconst (v := -1) hx hb dX11_begin_11 (by decide) ?_
    exact hret _ _ n0 _ _ _ _ hC hn (by omega) (by omega) h dX11_begin_12
