theorem wd_179 : (Jvm.Cond.fieldLink "Sleepers$Tables" (22 : Nat) "Sleepers$Tables" "openCount" "I") ∈ tb := tb_at 179 (by decide +kernel) (by decide +kernel)
theorem wd_180 : (Jvm.Cond.fieldLink "Sleepers$Tables" (42 : Nat) "Sleepers$Tables" "walk" "I") ∈ tb := tb_at 180 (by decide +kernel) (by decide +kernel)
theorem wd_181 : (Jvm.Cond.fieldLink "Sleepers$Tables" (26 : Nat) "Sleepers$Tables" "program" "LSleepers$Program;") ∈ tb := tb_at 181 (by decide +kernel) (by decide +kernel)
theorem wd_343 : (Jvm.Cond.fieldLink "Sleepers$Tables" (96 : Nat) "Sleepers$Scopes" "outer" "[I") ∈ tb := tb_at 343 (by decide +kernel) (by decide +kernel)
theorem wd_348 : (Jvm.Cond.fieldLink "Sleepers$Tables" (99 : Nat) "Sleepers$Scopes" "loopAbout" "[I") ∈ tb := tb_at 348 (by decide +kernel) (by decide +kernel)
theorem wd_357 : (Jvm.Cond.fieldLink "Sleepers$Tables" (90 : Nat) "Sleepers$Scopes" "behindTry" "[I") ∈ tb := tb_at 357 (by decide +kernel) (by decide +kernel)
theorem wd_397 : (Jvm.Cond.fieldLink "Sleepers$Tables" (55 : Nat) "Sleepers$Program" "size" "I") ∈ tb := tb_at 397 (by decide +kernel) (by decide +kernel)
theorem wd_411 : (Jvm.Cond.fieldLink "Sleepers$Tables" (58 : Nat) "Sleepers$Program" "scopes" "LSleepers$Scopes;") ∈ tb := tb_at 411 (by decide +kernel) (by decide +kernel)
theorem wd_802 : (Jvm.Cond.methodLink "Sleepers$Tables" (48 : Nat) ({ cls := "Sleepers$Tables", name := "reach", desc := "(I)V" } : Jvm.MethodName)) ∈ tb := tb_at 802 (by decide +kernel) (by decide +kernel)
theorem wd_804 : (Jvm.Cond.instanceMethod ({ cls := "Sleepers$Tables", name := "reach", desc := "(I)V" } : Jvm.MethodName)) ∈ tb := tb_at 804 (by decide +kernel) (by decide +kernel)
theorem wd_805 : (Jvm.Cond.code ({ cls := "Sleepers$Tables", name := "reach", desc := "(I)V" } : Jvm.MethodName) prog_10_method_5_code (2 : Nat) (Option.none : Option Jvm.ClassFile.FieldType)) ∈ tb := tb_at 805 (by decide +kernel) (by decide +kernel)
theorem wd_810 : (Jvm.Cond.methodLink "Sleepers$Tables" (68 : Nat) ({ cls := "Sleepers$Scopes", name := "cancelTo", desc := "(II)I" } : Jvm.MethodName)) ∈ tb := tb_at 810 (by decide +kernel) (by decide +kernel)
theorem wd_811 : (Jvm.Cond.instanceMethod ({ cls := "Sleepers$Scopes", name := "cancelTo", desc := "(II)I" } : Jvm.MethodName)) ∈ tb := tb_at 811 (by decide +kernel) (by decide +kernel)
theorem wd_812 : (Jvm.Cond.selects "Sleepers$Scopes" ({ cls := "Sleepers$Scopes", name := "cancelTo", desc := "(II)I" } : Jvm.MethodName) ({ cls := "Sleepers$Scopes", name := "cancelTo", desc := "(II)I" } : Jvm.MethodName)) ∈ tb := tb_at 812 (by decide +kernel) (by decide +kernel)
theorem wd_813 : (Jvm.Cond.code ({ cls := "Sleepers$Scopes", name := "cancelTo", desc := "(II)I" } : Jvm.MethodName) prog_9_method_9_code (3 : Nat) (Option.some Jvm.ClassFile.FieldType.int)) ∈ tb := tb_at 813 (by decide +kernel) (by decide +kernel)
theorem wd_822 : (Jvm.Cond.methodLink "Sleepers$Tables" (74 : Nat) ({ cls := "Sleepers$Scopes", name := "failureTo", desc := "(II)I" } : Jvm.MethodName)) ∈ tb := tb_at 822 (by decide +kernel) (by decide +kernel)
theorem wd_823 : (Jvm.Cond.instanceMethod ({ cls := "Sleepers$Scopes", name := "failureTo", desc := "(II)I" } : Jvm.MethodName)) ∈ tb := tb_at 823 (by decide +kernel) (by decide +kernel)
theorem wd_824 : (Jvm.Cond.selects "Sleepers$Scopes" ({ cls := "Sleepers$Scopes", name := "failureTo", desc := "(II)I" } : Jvm.MethodName) ({ cls := "Sleepers$Scopes", name := "failureTo", desc := "(II)I" } : Jvm.MethodName)) ∈ tb := tb_at 824 (by decide +kernel) (by decide +kernel)
theorem wd_825 : (Jvm.Cond.code ({ cls := "Sleepers$Scopes", name := "failureTo", desc := "(II)I" } : Jvm.MethodName) prog_9_method_8_code (6 : Nat) (Option.some Jvm.ClassFile.FieldType.int)) ∈ tb := tb_at 825 (by decide +kernel) (by decide +kernel)
theorem wd_826 : (Jvm.Cond.methodLink "Sleepers$Tables" (77 : Nat) ({ cls := "Sleepers$Scopes", name := "breakTo", desc := "(II)I" } : Jvm.MethodName)) ∈ tb := tb_at 826 (by decide +kernel) (by decide +kernel)
theorem wd_827 : (Jvm.Cond.instanceMethod ({ cls := "Sleepers$Scopes", name := "breakTo", desc := "(II)I" } : Jvm.MethodName)) ∈ tb := tb_at 827 (by decide +kernel) (by decide +kernel)
theorem wd_828 : (Jvm.Cond.selects "Sleepers$Scopes" ({ cls := "Sleepers$Scopes", name := "breakTo", desc := "(II)I" } : Jvm.MethodName) ({ cls := "Sleepers$Scopes", name := "breakTo", desc := "(II)I" } : Jvm.MethodName)) ∈ tb := tb_at 828 (by decide +kernel) (by decide +kernel)
theorem wd_829 : (Jvm.Cond.code ({ cls := "Sleepers$Scopes", name := "breakTo", desc := "(II)I" } : Jvm.MethodName) prog_9_method_11_code (3 : Nat) (Option.some Jvm.ClassFile.FieldType.int)) ∈ tb := tb_at 829 (by decide +kernel) (by decide +kernel)
theorem wd_830 : (Jvm.Cond.methodLink "Sleepers$Tables" (80 : Nat) ({ cls := "Sleepers$Scopes", name := "continueTo", desc := "(II)I" } : Jvm.MethodName)) ∈ tb := tb_at 830 (by decide +kernel) (by decide +kernel)
theorem wd_831 : (Jvm.Cond.instanceMethod ({ cls := "Sleepers$Scopes", name := "continueTo", desc := "(II)I" } : Jvm.MethodName)) ∈ tb := tb_at 831 (by decide +kernel) (by decide +kernel)
theorem wd_832 : (Jvm.Cond.selects "Sleepers$Scopes" ({ cls := "Sleepers$Scopes", name := "continueTo", desc := "(II)I" } : Jvm.MethodName) ({ cls := "Sleepers$Scopes", name := "continueTo", desc := "(II)I" } : Jvm.MethodName)) ∈ tb := tb_at 832 (by decide +kernel) (by decide +kernel)
theorem wd_833 : (Jvm.Cond.code ({ cls := "Sleepers$Scopes", name := "continueTo", desc := "(II)I" } : Jvm.MethodName) prog_9_method_12_code (3 : Nat) (Option.some Jvm.ClassFile.FieldType.int)) ∈ tb := tb_at 833 (by decide +kernel) (by decide +kernel)
theorem wd_834 : (Jvm.Cond.methodLink "Sleepers$Tables" (83 : Nat) ({ cls := "Sleepers$Scopes", name := "is", desc := "(II)Z" } : Jvm.MethodName)) ∈ tb := tb_at 834 (by decide +kernel) (by decide +kernel)
theorem sl_X8_reach : Cond.selects RX8 yX8_reach yX8_reach ∈ tb := sl_of (y := ⟨"Sleepers$Tables", "reach", "(I)V"⟩) (n := 5) (by decide +kernel) (by decide +kernel)
theorem dX7_failureTo_0 : decode cX7_failureTo 0 = .ok (.iload_n 1, 1) := by decide +kernel
theorem dX7_failureTo_1 : decode cX7_failureTo 1 = .ok (.istore_n 3, 1) := by decide +kernel
theorem dX7_failureTo_2 : decode cX7_failureTo 2 = .ok (.iconst 0, 1) := by decide +kernel
theorem dX7_failureTo_3 : decode cX7_failureTo 3 = .ok (.istore 4, 2) := by decide +kernel
theorem dX7_failureTo_5 : decode cX7_failureTo 5 = .ok (.iload 4, 2) := by decide +kernel
theorem dX7_failureTo_7 : decode cX7_failureTo 7 = .ok (.sipush 460, 3) := by decide +kernel
theorem dX7_failureTo_10 : decode cX7_failureTo 10 = .ok (.if_icmp .ge 75, 3) := by decide +kernel
theorem dX7_failureTo_13 : decode cX7_failureTo 13 = .ok (.iload_n 3, 1) := by decide +kernel
theorem dX7_failureTo_14 : decode cX7_failureTo 14 = .ok (.ifCond .lt 71, 3) := by decide +kernel
theorem dX7_failureTo_17 : decode cX7_failureTo 17 = .ok (.iload_n 3, 1) := by decide +kernel
theorem dX7_failureTo_18 : decode cX7_failureTo 18 = .ok (.iconst 3, 1) := by decide +kernel
theorem dX7_failureTo_19 : decode cX7_failureTo 19 = .ok (.idiv, 1) := by decide +kernel
theorem dX7_failureTo_20 : decode cX7_failureTo 20 = .ok (.istore 5, 2) := by decide +kernel
theorem dX7_failureTo_22 : decode cX7_failureTo 22 = .ok (.iload_n 3, 1) := by decide +kernel
theorem dX7_failureTo_23 : decode cX7_failureTo 23 = .ok (.iconst 3, 1) := by decide +kernel
theorem dX7_failureTo_24 : decode cX7_failureTo 24 = .ok (.irem, 1) := by decide +kernel
theorem dX7_failureTo_25 : decode cX7_failureTo 25 = .ok (.ifCond .ne 21, 3) := by decide +kernel
theorem dX7_failureTo_28 : decode cX7_failureTo 28 = .ok (.aload_n 0, 1) := by decide +kernel
theorem dX7_failureTo_29 : decode cX7_failureTo 29 = .ok (.iload 5, 2) := by decide +kernel
theorem dX7_failureTo_31 : decode cX7_failureTo 31 = .ok (.iconst 1, 1) := by decide +kernel
theorem dX7_failureTo_32 : decode cX7_failureTo 32 = .ok (.invokevirtual 49, 3) := by decide +kernel
theorem dX7_failureTo_35 : decode cX7_failureTo 35 = .ok (.ifCond .eq 11, 3) := by decide +kernel
theorem dX7_failureTo_38 : decode cX7_failureTo 38 = .ok (.aload_n 0, 1) := by decide +kernel
theorem dX7_failureTo_39 : decode cX7_failureTo 39 = .ok (.getfield 21, 3) := by decide +kernel
theorem dX7_failureTo_42 : decode cX7_failureTo 42 = .ok (.iload 5, 2) := by decide +kernel
theorem dX7_failureTo_44 : decode cX7_failureTo 44 = .ok (.iaload, 1) := by decide +kernel
theorem dX7_failureTo_45 : decode cX7_failureTo 45 = .ok (.ireturn, 1) := by decide +kernel
theorem dX7_failureTo_46 : decode cX7_failureTo 46 = .ok (.iload_n 3, 1) := by decide +kernel
theorem dX7_failureTo_47 : decode cX7_failureTo 47 = .ok (.iconst 3, 1) := by decide +kernel
theorem dX7_failureTo_48 : decode cX7_failureTo 48 = .ok (.irem, 1) := by decide +kernel
theorem dX7_failureTo_49 : decode cX7_failureTo 49 = .ok (.iconst 2, 1) := by decide +kernel
theorem dX7_failureTo_50 : decode cX7_failureTo 50 = .ok (.if_icmp .eq 21, 3) := by decide +kernel
theorem dX7_failureTo_53 : decode cX7_failureTo 53 = .ok (.aload_n 0, 1) := by decide +kernel
theorem dX7_failureTo_54 : decode cX7_failureTo 54 = .ok (.iload 5, 2) := by decide +kernel
theorem dX7_failureTo_56 : decode cX7_failureTo 56 = .ok (.iconst 2, 1) := by decide +kernel
theorem dX7_failureTo_57 : decode cX7_failureTo 57 = .ok (.invokevirtual 49, 3) := by decide +kernel
theorem dX7_failureTo_60 : decode cX7_failureTo 60 = .ok (.ifCond .eq 11, 3) := by decide +kernel
theorem dX7_failureTo_63 : decode cX7_failureTo 63 = .ok (.aload_n 0, 1) := by decide +kernel
theorem dX7_failureTo_64 : decode cX7_failureTo 64 = .ok (.getfield 24, 3) := by decide +kernel
theorem dX7_failureTo_67 : decode cX7_failureTo 67 = .ok (.iload 5, 2) := by decide +kernel
theorem dX7_failureTo_69 : decode cX7_failureTo 69 = .ok (.iaload, 1) := by decide +kernel
theorem dX7_failureTo_70 : decode cX7_failureTo 70 = .ok (.ireturn, 1) := by decide +kernel
theorem dX7_failureTo_71 : decode cX7_failureTo 71 = .ok (.aload_n 0, 1) := by decide +kernel
theorem dX7_failureTo_72 : decode cX7_failureTo 72 = .ok (.getfield 9, 3) := by decide +kernel
theorem dX7_failureTo_75 : decode cX7_failureTo 75 = .ok (.iload 5, 2) := by decide +kernel
theorem dX7_failureTo_77 : decode cX7_failureTo 77 = .ok (.iaload, 1) := by decide +kernel
theorem dX7_failureTo_78 : decode cX7_failureTo 78 = .ok (.istore_n 3, 1) := by decide +kernel
theorem dX7_failureTo_79 : decode cX7_failureTo 79 = .ok (.iinc 4 1, 3) := by decide +kernel
theorem dX7_failureTo_82 : decode cX7_failureTo 82 = .ok (.goto (-77), 3) := by decide +kernel
theorem dX7_failureTo_85 : decode cX7_failureTo 85 = .ok (.iload_n 2, 1) := by decide +kernel
theorem dX7_failureTo_86 : decode cX7_failureTo 86 = .ok (.ireturn, 1) := by decide +kernel
theorem dX8_followFinish_0 : decode cX8_followFinish 0 = .ok (.aload_n 0, 1) := by decide +kernel
theorem dX8_followFinish_1 : decode cX8_followFinish 1 = .ok (.getfield 26, 3) := by decide +kernel
theorem dX8_followFinish_4 : decode cX8_followFinish 4 = .ok (.getfield 58, 3) := by decide +kernel
theorem dX8_followFinish_7 : decode cX8_followFinish 7 = .ok (.astore_n 3, 1) := by decide +kernel
theorem dX8_followFinish_8 : decode cX8_followFinish 8 = .ok (.aload_n 3, 1) := by decide +kernel
theorem dX8_followFinish_9 : decode cX8_followFinish 9 = .ok (.getfield 96, 3) := by decide +kernel
theorem dX8_followFinish_12 : decode cX8_followFinish 12 = .ok (.iload_n 1, 1) := by decide +kernel
theorem dX8_followFinish_13 : decode cX8_followFinish 13 = .ok (.iaload, 1) := by decide +kernel
theorem dX8_followFinish_14 : decode cX8_followFinish 14 = .ok (.istore 4, 2) := by decide +kernel
theorem dX8_followFinish_16 : decode cX8_followFinish 16 = .ok (.aload_n 3, 1) := by decide +kernel
theorem dX8_followFinish_17 : decode cX8_followFinish 17 = .ok (.getfield 99, 3) := by decide +kernel
theorem dX8_followFinish_20 : decode cX8_followFinish 20 = .ok (.iload_n 1, 1) := by decide +kernel
theorem dX8_followFinish_21 : decode cX8_followFinish 21 = .ok (.iaload, 1) := by decide +kernel
theorem dX8_followFinish_22 : decode cX8_followFinish 22 = .ok (.istore 5, 2) := by decide +kernel
theorem dX8_followFinish_24 : decode cX8_followFinish 24 = .ok (.aload_n 0, 1) := by decide +kernel
theorem dX8_followFinish_25 : decode cX8_followFinish 25 = .ok (.aload_n 3, 1) := by decide +kernel
theorem dX8_followFinish_26 : decode cX8_followFinish 26 = .ok (.getfield 90, 3) := by decide +kernel
theorem dX8_followFinish_29 : decode cX8_followFinish 29 = .ok (.iload_n 1, 1) := by decide +kernel
theorem dX8_followFinish_30 : decode cX8_followFinish 30 = .ok (.iaload, 1) := by decide +kernel
theorem dX8_followFinish_31 : decode cX8_followFinish 31 = .ok (.invokevirtual 48, 3) := by decide +kernel
theorem dX8_followFinish_34 : decode cX8_followFinish 34 = .ok (.aload_n 0, 1) := by decide +kernel
theorem dX8_followFinish_35 : decode cX8_followFinish 35 = .ok (.aload_n 3, 1) := by decide +kernel
theorem dX8_followFinish_36 : decode cX8_followFinish 36 = .ok (.iload 4, 2) := by decide +kernel
theorem dX8_followFinish_38 : decode cX8_followFinish 38 = .ok (.iload_n 2, 1) := by decide +kernel
theorem dX8_followFinish_39 : decode cX8_followFinish 39 = .ok (.invokevirtual 74, 3) := by decide +kernel
theorem dX8_followFinish_42 : decode cX8_followFinish 42 = .ok (.invokevirtual 48, 3) := by decide +kernel
theorem dX8_followFinish_45 : decode cX8_followFinish 45 = .ok (.aload_n 0, 1) := by decide +kernel
theorem dX8_followFinish_46 : decode cX8_followFinish 46 = .ok (.aload_n 3, 1) := by decide +kernel
theorem dX8_followFinish_47 : decode cX8_followFinish 47 = .ok (.iload 4, 2) := by decide +kernel
theorem dX8_followFinish_49 : decode cX8_followFinish 49 = .ok (.iload_n 2, 1) := by decide +kernel
theorem dX8_followFinish_50 : decode cX8_followFinish 50 = .ok (.invokevirtual 68, 3) := by decide +kernel
theorem dX8_followFinish_53 : decode cX8_followFinish 53 = .ok (.invokevirtual 48, 3) := by decide +kernel
theorem dX8_followFinish_56 : decode cX8_followFinish 56 = .ok (.iload 5, 2) := by decide +kernel
theorem dX8_followFinish_58 : decode cX8_followFinish 58 = .ok (.ifCond .lt 24, 3) := by decide +kernel
theorem dX8_followFinish_61 : decode cX8_followFinish 61 = .ok (.aload_n 3, 1) := by decide +kernel
theorem dX8_followFinish_62 : decode cX8_followFinish 62 = .ok (.iload_n 1, 1) := by decide +kernel
theorem dX8_followFinish_63 : decode cX8_followFinish 63 = .ok (.iconst 4, 1) := by decide +kernel
theorem dX8_followFinish_64 : decode cX8_followFinish 64 = .ok (.invokevirtual 83, 3) := by decide +kernel
theorem dX8_followFinish_67 : decode cX8_followFinish 67 = .ok (.ifCond .eq 15, 3) := by decide +kernel
theorem dX8_followFinish_70 : decode cX8_followFinish 70 = .ok (.aload_n 0, 1) := by decide +kernel
theorem dX8_followFinish_71 : decode cX8_followFinish 71 = .ok (.aload_n 3, 1) := by decide +kernel
theorem dX8_followFinish_72 : decode cX8_followFinish 72 = .ok (.iload 4, 2) := by decide +kernel
theorem dX8_followFinish_74 : decode cX8_followFinish 74 = .ok (.iload 5, 2) := by decide +kernel
theorem dX8_followFinish_76 : decode cX8_followFinish 76 = .ok (.invokevirtual 77, 3) := by decide +kernel
theorem dX8_followFinish_79 : decode cX8_followFinish 79 = .ok (.invokevirtual 48, 3) := by decide +kernel
theorem dX8_followFinish_82 : decode cX8_followFinish 82 = .ok (.iload 5, 2) := by decide +kernel
theorem dX8_followFinish_84 : decode cX8_followFinish 84 = .ok (.ifCond .lt 25, 3) := by decide +kernel
theorem dX8_followFinish_87 : decode cX8_followFinish 87 = .ok (.aload_n 3, 1) := by decide +kernel
theorem dX8_followFinish_88 : decode cX8_followFinish 88 = .ok (.iload_n 1, 1) := by decide +kernel
theorem dX8_followFinish_89 : decode cX8_followFinish 89 = .ok (.bipush 8, 2) := by decide +kernel
theorem dX8_followFinish_91 : decode cX8_followFinish 91 = .ok (.invokevirtual 83, 3) := by decide +kernel
theorem dX8_followFinish_94 : decode cX8_followFinish 94 = .ok (.ifCond .eq 15, 3) := by decide +kernel
theorem dX8_followFinish_97 : decode cX8_followFinish 97 = .ok (.aload_n 0, 1) := by decide +kernel
theorem dX8_followFinish_98 : decode cX8_followFinish 98 = .ok (.aload_n 3, 1) := by decide +kernel
theorem dX8_followFinish_99 : decode cX8_followFinish 99 = .ok (.iload 4, 2) := by decide +kernel
theorem dX8_followFinish_101 : decode cX8_followFinish 101 = .ok (.iload 5, 2) := by decide +kernel
theorem dX8_followFinish_103 : decode cX8_followFinish 103 = .ok (.invokevirtual 80, 3) := by decide +kernel
theorem dX8_followFinish_106 : decode cX8_followFinish 106 = .ok (.invokevirtual 48, 3) := by decide +kernel
theorem dX8_followFinish_109 : decode cX8_followFinish 109 = .ok (.return_, 1) := by decide +kernel
theorem dX8_reach_0 : decode cX8_reach 0 = .ok (.iload_n 1, 1) := by decide +kernel
theorem dX8_reach_1 : decode cX8_reach 1 = .ok (.ifCond .lt 57, 3) := by decide +kernel
theorem dX8_reach_4 : decode cX8_reach 4 = .ok (.iload_n 1, 1) := by decide +kernel
theorem dX8_reach_5 : decode cX8_reach 5 = .ok (.aload_n 0, 1) := by decide +kernel
theorem dX8_reach_6 : decode cX8_reach 6 = .ok (.getfield 26, 3) := by decide +kernel
theorem dX8_reach_9 : decode cX8_reach 9 = .ok (.getfield 55, 3) := by decide +kernel
theorem dX8_reach_12 : decode cX8_reach 12 = .ok (.if_icmp .ge 46, 3) := by decide +kernel
theorem dX8_reach_15 : decode cX8_reach 15 = .ok (.aload_n 0, 1) := by decide +kernel
theorem dX8_reach_16 : decode cX8_reach 16 = .ok (.getfield 9, 3) := by decide +kernel
theorem dX8_reach_19 : decode cX8_reach 19 = .ok (.iload_n 1, 1) := by decide +kernel
theorem dX8_reach_20 : decode cX8_reach 20 = .ok (.iaload, 1) := by decide +kernel
theorem dX8_reach_21 : decode cX8_reach 21 = .ok (.aload_n 0, 1) := by decide +kernel
theorem dX8_reach_22 : decode cX8_reach 22 = .ok (.getfield 42, 3) := by decide +kernel
theorem dX8_reach_25 : decode cX8_reach 25 = .ok (.if_icmp .eq 33, 3) := by decide +kernel
theorem dX8_reach_28 : decode cX8_reach 28 = .ok (.aload_n 0, 1) := by decide +kernel
theorem dX8_reach_29 : decode cX8_reach 29 = .ok (.getfield 9, 3) := by decide +kernel
theorem dX8_reach_32 : decode cX8_reach 32 = .ok (.iload_n 1, 1) := by decide +kernel
theorem dX8_reach_33 : decode cX8_reach 33 = .ok (.aload_n 0, 1) := by decide +kernel
theorem dX8_reach_34 : decode cX8_reach 34 = .ok (.getfield 42, 3) := by decide +kernel
theorem dX8_reach_37 : decode cX8_reach 37 = .ok (.iastore, 1) := by decide +kernel
theorem dX8_reach_38 : decode cX8_reach 38 = .ok (.aload_n 0, 1) := by decide +kernel
theorem dX8_reach_39 : decode cX8_reach 39 = .ok (.getfield 15, 3) := by decide +kernel
theorem dX8_reach_42 : decode cX8_reach 42 = .ok (.aload_n 0, 1) := by decide +kernel
theorem dX8_reach_43 : decode cX8_reach 43 = .ok (.getfield 22, 3) := by decide +kernel
theorem dX8_reach_46 : decode cX8_reach 46 = .ok (.iload_n 1, 1) := by decide +kernel
theorem dX8_reach_47 : decode cX8_reach 47 = .ok (.iastore, 1) := by decide +kernel
theorem dX8_reach_48 : decode cX8_reach 48 = .ok (.aload_n 0, 1) := by decide +kernel
theorem dX8_reach_49 : decode cX8_reach 49 = .ok (.dup, 1) := by decide +kernel
theorem dX8_reach_50 : decode cX8_reach 50 = .ok (.getfield 22, 3) := by decide +kernel
theorem dX8_reach_53 : decode cX8_reach 53 = .ok (.iconst 1, 1) := by decide +kernel
theorem dX8_reach_54 : decode cX8_reach 54 = .ok (.iadd, 1) := by decide +kernel
theorem dX8_reach_55 : decode cX8_reach 55 = .ok (.putfield 22, 3) := by decide +kernel
theorem dX8_reach_58 : decode cX8_reach 58 = .ok (.return_, 1) := by decide +kernel
def wp_X7_failureTo_71 (K : kS → Int32 → Prop) (k5 : Nat × Int32 × Int32 × Int32 × kS → Prop) (x0 : Nat) (x2 : Int32) (x4 : Int32) (x5 : Int32) (S : kS) : Prop := hasO S x0 7 ∧ ∀ z18 : Option Nat, z18 = S.2.1 43 x0 → ∃ q19 : Nat, z18 = some q19 ∧ hasA S q19 460 0 ∧ inR x5 460 ∧ ∀ z20 : Int32, z20 = S.2.2.1 q19 (ix x5) → ∀ z21 : Int32, z21 = x4 + 1 → k5 (x0, x2, z20, z21, S)
def wp_X7_failureTo_46 (K : kS → Int32 → Prop) (k5 : Nat × Int32 × Int32 × Int32 × kS → Prop) (x0 : Nat) (x2 : Int32) (x3 : Int32) (x4 : Int32) (x5 : Int32) (S : kS) : Prop := ¬ (3 : Int32) = 0 ∧ ∀ z11 : Int32, z11 = x3 - x3 / 3 * 3 → ((z11 = 2 → wp_X7_failureTo_71 K k5 x0 x2 x4 x5 S) ∧ (¬ z11 = 2 → hasO S x0 7 ∧ wp_X7_is x0 x5 2 S (fun (S13 : kS) (r13 : Int32) => ((r13 = 0 → wp_X7_failureTo_71 K k5 x0 x2 x4 x5 S13) ∧ (¬ r13 = 0 → hasO S13 x0 7 ∧ ∀ z15 : Option Nat, z15 = S13.2.1 47 x0 → ∃ q16 : Nat, z15 = some q16 ∧ hasA S13 q16 460 0 ∧ inR x5 460 ∧ ∀ z17 : Int32, z17 = S13.2.2.1 q16 (ix x5) → K S13 z17)))))
def wp_X7_failureTo_5 (K : kS → Int32 → Prop) (k5 : Nat × Int32 × Int32 × Int32 × kS → Prop) (x0 : Nat) (x2 : Int32) (x3 : Int32) (x4 : Int32) (S : kS) : Prop := ((460 ≤ x4 → K S x2) ∧ (¬ 460 ≤ x4 → ((x3 < 0 → K S x2) ∧ (¬ x3 < 0 → ¬ (3 : Int32) = 0 ∧ ∀ z3 : Int32, z3 = x3 / 3 → ¬ (3 : Int32) = 0 ∧ ∀ z4 : Int32, z4 = x3 - x3 / 3 * 3 → ((¬ z4 = 0 → wp_X7_failureTo_46 K k5 x0 x2 x3 x4 z3 S) ∧ (z4 = 0 → hasO S x0 7 ∧ wp_X7_is x0 z3 1 S (fun (S6 : kS) (r6 : Int32) => ((r6 = 0 → wp_X7_failureTo_46 K k5 x0 x2 x3 x4 z3 S6) ∧ (¬ r6 = 0 → hasO S6 x0 7 ∧ ∀ z8 : Option Nat, z8 = S6.2.1 46 x0 → ∃ q9 : Nat, z8 = some q9 ∧ hasA S6 q9 460 0 ∧ inR z3 460 ∧ ∀ z10 : Int32, z10 = S6.2.2.1 q9 (ix z3) → K S6 z10)))))))))
def ls_X7_failureTo_5 (K : kS → Int32 → Prop) (k5 : Nat × Int32 × Int32 × Int32 × kS → Prop) (u : Nat × Int32 × Int32 × Int32 × kS) : Prop := wp_X7_failureTo_5 K k5 u.1 u.2.1 u.2.2.1 u.2.2.2.1 u.2.2.2.2
def wp_X7_failureTo (t0 : Nat) (a0 : Int32) (a1 : Int32) (S : kS) (K : kS → Int32 → Prop) : Prop := (∃ n9, it (ls_X7_failureTo_5 K) n9 (t0, a1, a0, 0, S))
set_option maxHeartbeats 4000000 in
set_option maxRecDepth 100000 in
theorem kt_X7_failureTo (l : Launch) (S : kS) (t0 : Nat) (a0 : Int32) (a1 : Int32) (K : kS → Int32 → Prop) (h : wp_X7_failureTo t0 a0 a1 S K) : kMi l yX7_failureTo cX7_failureTo 6 (some .int) 1 22 [.ref t0, .int a0, .int a1] S K := by
  refine kv_ofi (own := RX7) (by decide) rfl (Nat.le_of_ble_eq_true rfl) ?_
  intro E p e R s m args below meth c A ls Q hRf hRl hX hC hl hret
  have hx := hX.1.1
  have hb := hX.1.2.1
  have hown := hX.1.2.2.2.1
  have hts := hX.1.2.2.2.2
  have cut5 : ∀ (n5 : Nat) (x0 : Nat) (x2 : Int32) (x3 : Int32) (x4 : Int32) (S : kS) (H : Heap) (locs : List Loc) (ls : Array Slot), it (ls_X7_failureTo_5 K) n5 (x0, x2, x3, x4, S) → cM E A s.heap S H locs → lv_has ls 6 [(0, .ref x0), (2, .int x2), (3, .int x3), (4, .int x4)] → W p l e R s m args below meth c H locs 0 0 Q (F0 m 5 ls []) := by
    intro n5
    induction n5 with
    | zero => intro x0 x2 x3 x4 S H locs ls h hC hl; exact h.elim
    | succ n5 ih5 =>
      have cut71 : ∀ (x0 : Nat) (x2 : Int32) (x4 : Int32) (x5 : Int32) (S : kS) (H : Heap) (locs : List Loc) (ls : Array Slot), wp_X7_failureTo_71 K (it (ls_X7_failureTo_5 K) n5) x0 x2 x4 x5 S → cM E A s.heap S H locs → lv_has ls 6 [(0, .ref x0), (2, .int x2), (4, .int x4), (5, .int x5)] → W p l e R s m args below meth c H locs 0 0 Q (F0 m 71 ls []) := by
        intro x0 x2 x4 x5 S H locs ls h hC hl
        unfold wp_X7_failureTo_71 at h
        refine lv_aload_n hx hb dX7_failureTo_71 rfl (lv_at hl 0 rfl) ?_
        refine cq_getr (ci := 7) (k := 1) (f := 43) hX hC rfl in_X7 (by decide) wd_342 (fun _ h9 => h9) (fun _ _ => rfl) dX7_failureTo_72 h (fun z18 h => ?_)
        refine lv_iload hx hb dX7_failureTo_75 (lv_at hl 3 rfl) ?_
        obtain ⟨q19, e9, hh⟩ := h
        subst e9
        have h := hh
        clear hh
        refine cq_ild hX hC dX7_failureTo_77 h (fun z20 h => ?_)
        refine lv_istore_n (lv' := [(3, .int z20), (0, .ref x0), (2, .int x2), (4, .int x4), (5, .int x5)]) hx hb dX7_failureTo_78 rfl hl (by decide) rfl (fun ls hl => ?_)
        obtain ⟨z21, ez21⟩ : ∃ y : Int32, y = x4 + 1 := ⟨_, rfl⟩
        have h := h z21 ez21
        refine lv_iinc (v := z21) (lv' := [(4, .int z21), (3, .int z20), (0, .ref x0), (2, .int x2), (5, .int x5)]) hx hb dX7_failureTo_79 hl (k := 3) rfl (by rw [ez21]; rfl) (by decide) rfl (fun ls hl => ?_)
        refine lv_goto (tgt := 5) hx hb dX7_failureTo_82 (by decide) ?_
        exact ih5 x0 x2 z20 z21 S _ _ _ h hC (lv_sub hl [2, 3, 1, 0] rfl)
      have cut46 : ∀ (x0 : Nat) (x2 : Int32) (x3 : Int32) (x4 : Int32) (x5 : Int32) (S : kS) (H : Heap) (locs : List Loc) (ls : Array Slot), wp_X7_failureTo_46 K (it (ls_X7_failureTo_5 K) n5) x0 x2 x3 x4 x5 S → cM E A s.heap S H locs → lv_has ls 6 [(0, .ref x0), (2, .int x2), (3, .int x3), (4, .int x4), (5, .int x5)] → W p l e R s m args below meth c H locs 0 0 Q (F0 m 46 ls []) := by
        intro x0 x2 x3 x4 x5 S H locs ls h hC hl
        unfold wp_X7_failureTo_46 at h
        refine lv_iload_n hx hb dX7_failureTo_46 rfl (lv_at hl 2 rfl) ?_
        refine lv_iconst (v := 3) hx hb dX7_failureTo_47 (by decide) ?_
        refine lq_irem hx hb dX7_failureTo_48 h (fun z11 h => ?_)
        refine lv_iconst (v := 2) hx hb dX7_failureTo_49 (by decide) ?_
        refine lv_icmp_eq (tgt := 71) hx hb dX7_failureTo_50 (by decide) (fun c12 => ?_) (fun c12 => ?_)
        · have h := h.1 c12
          exact cut71 x0 x2 x4 x5 S _ _ _ h hC (lv_sub hl [0, 1, 3, 4] rfl)
        · have h := h.2 c12
          refine lv_aload_n hx hb dX7_failureTo_53 rfl (lv_at hl 0 rfl) ?_
          refine lv_iload hx hb dX7_failureTo_54 (lv_at hl 4 rfl) ?_
          refine lv_iconst (v := 2) hx hb dX7_failureTo_56 (by decide) ?_
          refine kv_calli [.int x5, .int 2] (rest := []) (ci := 7) rfl hX hC h.1 (kt_X7_is l S x0 x5 2 _ h.2 E _) (cw_X7_49 hts (by omega) (by omega)) rfl hl.1 (Nat.le_of_ble_eq_true rfl) ⟨Nat.zero_le _, Nat.zero_le _⟩ dX7_failureTo_57 (fun r13 S13 H locs hC h => ?_)
          refine lv_if_eq (tgt := 71) hx hb dX7_failureTo_60 (by decide) (fun c14 => ?_) (fun c14 => ?_)
          · have h := h.1 c14
            exact cut71 x0 x2 x4 x5 S13 _ _ _ h hC (lv_sub hl [0, 1, 3, 4] rfl)
          · have h := h.2 c14
            refine lv_aload_n hx hb dX7_failureTo_63 rfl (lv_at hl 0 rfl) ?_
            refine cq_getr (ci := 7) (k := 5) (f := 47) hX hC rfl in_X7 (by decide) wd_352 (fun _ h9 => h9) (fun _ _ => rfl) dX7_failureTo_64 h (fun z15 h => ?_)
            refine lv_iload hx hb dX7_failureTo_67 (lv_at hl 4 rfl) ?_
            obtain ⟨q16, e9, hh⟩ := h
            subst e9
            have h := hh
            clear hh
            refine cq_ild hX hC dX7_failureTo_69 h (fun z17 h => ?_)
            exact hret _ _ _ _ _ _ hC h dX7_failureTo_70
      intro x0 x2 x3 x4 S H locs ls h hC hl
      have h : wp_X7_failureTo_5 K (it (ls_X7_failureTo_5 K) n5) x0 x2 x3 x4 S := h
      unfold wp_X7_failureTo_5 at h
      refine lv_iload hx hb dX7_failureTo_5 (lv_at hl 3 rfl) ?_
      refine lv_sipush (v := 460) hx hb dX7_failureTo_7 (by decide) ?_
      refine lv_icmp_ge (tgt := 85) hx hb dX7_failureTo_10 (by decide) (fun c1 => ?_) (fun c1 => ?_)
      · have h := h.1 c1
        refine lv_iload_n hx hb dX7_failureTo_85 rfl (lv_at hl 1 rfl) ?_
        exact hret _ _ _ _ _ _ hC h dX7_failureTo_86
      · have h := h.2 c1
        refine lv_iload_n hx hb dX7_failureTo_13 rfl (lv_at hl 2 rfl) ?_
        refine lv_if_lt (tgt := 85) hx hb dX7_failureTo_14 (by decide) (fun c2 => ?_) (fun c2 => ?_)
        · have h := h.1 c2
          refine lv_iload_n hx hb dX7_failureTo_85 rfl (lv_at hl 1 rfl) ?_
          exact hret _ _ _ _ _ _ hC h dX7_failureTo_86
        · have h := h.2 c2
          refine lv_iload_n hx hb dX7_failureTo_17 rfl (lv_at hl 2 rfl) ?_
          refine lv_iconst (v := 3) hx hb dX7_failureTo_18 (by decide) ?_
          refine lq_idiv hx hb dX7_failureTo_19 h (fun z3 h => ?_)
          refine lv_istore (lv' := [(5, .int z3), (0, .ref x0), (2, .int x2), (3, .int x3), (4, .int x4)]) hx hb dX7_failureTo_20 hl (by decide) rfl (fun ls hl => ?_)
          refine lv_iload_n hx hb dX7_failureTo_22 rfl (lv_at hl 3 rfl) ?_
          refine lv_iconst (v := 3) hx hb dX7_failureTo_23 (by decide) ?_
          refine lq_irem hx hb dX7_failureTo_24 h (fun z4 h => ?_)
          refine lv_if_ne (tgt := 46) hx hb dX7_failureTo_25 (by decide) (fun c5 => ?_) (fun c5 => ?_)
          · have h := h.1 c5
            exact cut46 x0 x2 x3 x4 z3 S _ _ _ h hC (lv_sub hl [1, 2, 3, 4, 0] rfl)
          · have h := h.2 c5
            refine lv_aload_n hx hb dX7_failureTo_28 rfl (lv_at hl 1 rfl) ?_
            refine lv_iload hx hb dX7_failureTo_29 (lv_at hl 0 rfl) ?_
            refine lv_iconst (v := 1) hx hb dX7_failureTo_31 (by decide) ?_
            refine kv_calli [.int z3, .int 1] (rest := []) (ci := 7) rfl hX hC h.1 (kt_X7_is l S x0 z3 1 _ h.2 E _) (cw_X7_49 hts (by omega) (by omega)) rfl hl.1 (Nat.le_of_ble_eq_true rfl) ⟨Nat.zero_le _, Nat.zero_le _⟩ dX7_failureTo_32 (fun r6 S6 H locs hC h => ?_)
            refine lv_if_eq (tgt := 46) hx hb dX7_failureTo_35 (by decide) (fun c7 => ?_) (fun c7 => ?_)
            · have h := h.1 c7
              exact cut46 x0 x2 x3 x4 z3 S6 _ _ _ h hC (lv_sub hl [1, 2, 3, 4, 0] rfl)
            · have h := h.2 c7
              refine lv_aload_n hx hb dX7_failureTo_38 rfl (lv_at hl 1 rfl) ?_
              refine cq_getr (ci := 7) (k := 4) (f := 46) hX hC rfl in_X7 (by decide) wd_349 (fun _ h9 => h9) (fun _ _ => rfl) dX7_failureTo_39 h (fun z8 h => ?_)
              refine lv_iload hx hb dX7_failureTo_42 (lv_at hl 0 rfl) ?_
              obtain ⟨q9, e9, hh⟩ := h
              subst e9
              have h := hh
              clear hh
              refine cq_ild hX hC dX7_failureTo_44 h (fun z10 h => ?_)
              exact hret _ _ _ _ _ _ hC h dX7_failureTo_45
  have hl : lv_has ls 6 [(0, .ref t0), (1, .int a0), (2, .int a1)] := hl
  unfold wp_X7_failureTo at h
  refine lv_iload_n hx hb dX7_failureTo_0 rfl (lv_at hl 1 rfl) ?_
  refine lv_istore_n (lv' := [(3, .int a0), (0, .ref t0), (1, .int a0), (2, .int a1)]) hx hb dX7_failureTo_1 rfl hl (by decide) rfl (fun ls hl => ?_)
  refine lv_iconst (v := 0) hx hb dX7_failureTo_2 (by decide) ?_
  refine lv_istore (lv' := [(4, .int 0), (3, .int a0), (0, .ref t0), (1, .int a0), (2, .int a1)]) hx hb dX7_failureTo_3 hl (by decide) rfl (fun ls hl => ?_)
  obtain ⟨n9, h⟩ := h
  exact cut5 n9 t0 a1 a0 0 S _ _ _ h hC (lv_sub hl [2, 4, 1, 0] rfl)
def wp_X8_reach (t0 : Nat) (a0 : Int32) (S : kS) (K : kS → Prop) : Prop := ((a0 < 0 → K S) ∧ (¬ a0 < 0 → hasO S t0 8 ∧ ∀ z2 : Option Nat, z2 = S.2.1 55 t0 → ∃ q3 : Nat, z2 = some q3 ∧ hasO S q3 5 ∧ ∀ z4 : Int32, z4 = S.1 17 q3 → ((z4 ≤ a0 → K S) ∧ (¬ z4 ≤ a0 → hasO S t0 8 ∧ ∀ z6 : Option Nat, z6 = S.2.1 53 t0 → ∃ q7 : Nat, z6 = some q7 ∧ hasA S q7 8064 0 ∧ inR a0 8064 ∧ ∀ z8 : Int32, z8 = S.2.2.1 q7 (ix a0) → hasO S t0 8 ∧ ∀ z9 : Int32, z9 = S.1 27 t0 → ((z8 = z9 → K S) ∧ (¬ z8 = z9 → hasO S t0 8 ∧ ∀ z11 : Option Nat, z11 = S.2.1 53 t0 → hasO S t0 8 ∧ ∀ z12 : Int32, z12 = S.1 27 t0 → ∃ q13 : Nat, z11 = some q13 ∧ hasA S q13 8064 0 ∧ inR a0 8064 ∧ ∀ S14 : kS, S14 = cA S q13 (ix a0) z12 → hasO S14 t0 8 ∧ ∀ z15 : Option Nat, z15 = S14.2.1 54 t0 → hasO S14 t0 8 ∧ ∀ z16 : Int32, z16 = S14.1 26 t0 → ∃ q17 : Nat, z15 = some q17 ∧ hasA S14 q17 8064 0 ∧ inR z16 8064 ∧ ∀ S18 : kS, S18 = cA S14 q17 (ix z16) a0 → hasO S18 t0 8 ∧ ∀ z19 : Int32, z19 = S18.1 26 t0 → ∀ z20 : Int32, z20 = z19 + 1 → hasO S18 t0 8 ∧ ∀ S21 : kS, S21 = cI S18 26 t0 z20 → K S21))))))
set_option maxHeartbeats 4000000 in
set_option maxRecDepth 100000 in
theorem kt_X8_reach (l : Launch) (S : kS) (t0 : Nat) (a0 : Int32) (K : kS → Prop) (h : wp_X8_reach t0 a0 S K) : kMv l yX8_reach cX8_reach 2 none 0 0 [.ref t0, .int a0] S K := by
  refine kv_ofv (own := RX8) (by decide) rfl (Nat.le_of_ble_eq_true rfl) ?_
  intro E p e R s m args below meth c A ls Q hRf hRl hX hC hl hret
  have hx := hX.1.1
  have hb := hX.1.2.1
  have hown := hX.1.2.2.2.1
  have hts := hX.1.2.2.2.2
  have hl : lv_has ls 2 [(0, .ref t0), (1, .int a0)] := hl
  unfold wp_X8_reach at h
  refine lv_iload_n hx hb dX8_reach_0 rfl (lv_at hl 1 rfl) ?_
  refine lv_if_lt (tgt := 58) hx hb dX8_reach_1 (by decide) (fun c1 => ?_) (fun c1 => ?_)
  · have h := h.1 c1
    exact hret _ _ _ _ _ hC h dX8_reach_58
  · have h := h.2 c1
    refine lv_iload_n hx hb dX8_reach_4 rfl (lv_at hl 1 rfl) ?_
    refine lv_aload_n hx hb dX8_reach_5 rfl (lv_at hl 0 rfl) ?_
    refine cq_getr (ci := 8) (k := 4) (f := 55) hX hC rfl in_X8 (by decide) wd_181 (fun _ h9 => h9) (fun _ _ => rfl) dX8_reach_6 h (fun z2 h => ?_)
    obtain ⟨q3, e9, hh⟩ := h
    subst e9
    have h := hh
    clear hh
    refine cq_geti (ci := 5) (k := 0) (f := 17) hX hC rfl in_X5 (by decide) wd_397 (fun _ h9 => h9) (fun _ _ => rfl) dX8_reach_9 h (fun z4 h => ?_)
    refine lv_icmp_ge (tgt := 58) hx hb dX8_reach_12 (by decide) (fun c5 => ?_) (fun c5 => ?_)
    · have h := h.1 c5
      exact hret _ _ _ _ _ hC h dX8_reach_58
    · have h := h.2 c5
      refine lv_aload_n hx hb dX8_reach_15 rfl (lv_at hl 0 rfl) ?_
      refine cq_getr (ci := 8) (k := 0) (f := 53) hX hC rfl in_X8 (by decide) wd_177 (fun _ h9 => h9) (fun _ _ => rfl) dX8_reach_16 h (fun z6 h => ?_)
      refine lv_iload_n hx hb dX8_reach_19 rfl (lv_at hl 1 rfl) ?_
      obtain ⟨q7, e9, hh⟩ := h
      subst e9
      have h := hh
      clear hh
      refine cq_ild hX hC dX8_reach_20 h (fun z8 h => ?_)
      refine lv_aload_n hx hb dX8_reach_21 rfl (lv_at hl 0 rfl) ?_
      refine cq_geti (ci := 8) (k := 3) (f := 27) hX hC rfl in_X8 (by decide) wd_180 (fun _ h9 => h9) (fun _ _ => rfl) dX8_reach_22 h (fun z9 h => ?_)
      refine lv_icmp_eq (tgt := 58) hx hb dX8_reach_25 (by decide) (fun c10 => ?_) (fun c10 => ?_)
      · have h := h.1 c10
        exact hret _ _ _ _ _ hC h dX8_reach_58
      · have h := h.2 c10
        refine lv_aload_n hx hb dX8_reach_28 rfl (lv_at hl 0 rfl) ?_
        refine cq_getr (ci := 8) (k := 0) (f := 53) hX hC rfl in_X8 (by decide) wd_177 (fun _ h9 => h9) (fun _ _ => rfl) dX8_reach_29 h (fun z11 h => ?_)
        refine lv_iload_n hx hb dX8_reach_32 rfl (lv_at hl 1 rfl) ?_
        refine lv_aload_n hx hb dX8_reach_33 rfl (lv_at hl 0 rfl) ?_
        refine cq_geti (ci := 8) (k := 3) (f := 27) hX hC rfl in_X8 (by decide) wd_180 (fun _ h9 => h9) (fun _ _ => rfl) dX8_reach_34 h (fun z12 h => ?_)
        obtain ⟨q13, e9, hh⟩ := h
        subst e9
        have h := hh
        clear hh
        refine cq_ist hX hC dX8_reach_37 h.1 h.2.1 h.2.2 (fun S14 H locs hC h => ?_)
        refine lv_aload_n hx hb dX8_reach_38 rfl (lv_at hl 0 rfl) ?_
        refine cq_getr (ci := 8) (k := 1) (f := 54) hX hC rfl in_X8 (by decide) wd_178 (fun _ h9 => h9) (fun _ _ => rfl) dX8_reach_39 h (fun z15 h => ?_)
        refine lv_aload_n hx hb dX8_reach_42 rfl (lv_at hl 0 rfl) ?_
        refine cq_geti (ci := 8) (k := 2) (f := 26) hX hC rfl in_X8 (by decide) wd_179 (fun _ h9 => h9) (fun _ _ => rfl) dX8_reach_43 h (fun z16 h => ?_)
        refine lv_iload_n hx hb dX8_reach_46 rfl (lv_at hl 1 rfl) ?_
        obtain ⟨q17, e9, hh⟩ := h
        subst e9
        have h := hh
        clear hh
        refine cq_ist hX hC dX8_reach_47 h.1 h.2.1 h.2.2 (fun S18 H locs hC h => ?_)
        refine lv_aload_n hx hb dX8_reach_48 rfl (lv_at hl 0 rfl) ?_
        refine lv_dup hx hb dX8_reach_49 rfl ?_
        refine cq_geti (ci := 8) (k := 2) (f := 26) hX hC rfl in_X8 (by decide) wd_179 (fun _ h9 => h9) (fun _ _ => rfl) dX8_reach_50 h (fun z19 h => ?_)
        refine lv_iconst (v := 1) hx hb dX8_reach_53 (by decide) ?_
        refine lq_iadd hx hb dX8_reach_54 h (fun z20 h => ?_)
        refine cq_puti (v := z20) (ci := 8) (k := 2) (f := 26) hX hC rfl in_X8 (by decide) wd_179 (fun _ h9 => h9) tyX8 tyX8_ok nmX8 rfl rfl rfl (fun _ _ => Nat.le_of_ble_eq_true rfl) (fun _ _ _ => rfl) dX8_reach_55 h.1 h.2 (fun S21 H locs hC h => ?_)
        exact hret _ _ _ _ _ hC h dX8_reach_58
def wp_X8_followFinish_82 (K : kS → Prop) (x0 : Nat) (x1 : Int32) (x3 : Nat) (x4 : Int32) (x5 : Int32) (S : kS) : Prop := ((x5 < 0 → K S) ∧ (¬ x5 < 0 → hasO S x3 7 ∧ wp_X7_is x3 x1 8 S (fun (S25 : kS) (r25 : Int32) => ((r25 = 0 → K S25) ∧ (¬ r25 = 0 → hasO S25 x3 7 ∧ wp_X7_continueTo x3 x4 x5 S25 (fun (S27 : kS) (r27 : Int32) => hasO S27 x0 8 ∧ wp_X8_reach x0 r27 S27 (fun (S28 : kS) => K S28)))))))
def wp_X8_followFinish (t0 : Nat) (a0 : Int32) (a1 : Int32) (S : kS) (K : kS → Prop) : Prop := hasO S t0 8 ∧ ∀ z1 : Option Nat, z1 = S.2.1 55 t0 → ∃ q2 : Nat, z1 = some q2 ∧ hasO S q2 5 ∧ ∀ z3 : Option Nat, z3 = S.2.1 31 q2 → ∃ q4 : Nat, z3 = some q4 ∧ hasO S q4 7 ∧ ∀ z5 : Option Nat, z5 = S.2.1 43 q4 → ∃ q6 : Nat, z5 = some q6 ∧ hasA S q6 460 0 ∧ inR a0 460 ∧ ∀ z7 : Int32, z7 = S.2.2.1 q6 (ix a0) → hasO S q4 7 ∧ ∀ z8 : Option Nat, z8 = S.2.1 45 q4 → ∃ q9 : Nat, z8 = some q9 ∧ hasA S q9 460 0 ∧ inR a0 460 ∧ ∀ z10 : Int32, z10 = S.2.2.1 q9 (ix a0) → hasO S q4 7 ∧ ∀ z11 : Option Nat, z11 = S.2.1 48 q4 → ∃ q12 : Nat, z11 = some q12 ∧ hasA S q12 460 0 ∧ inR a0 460 ∧ ∀ z13 : Int32, z13 = S.2.2.1 q12 (ix a0) → hasO S t0 8 ∧ wp_X8_reach t0 z13 S (fun (S14 : kS) => hasO S14 q4 7 ∧ wp_X7_failureTo q4 z7 a1 S14 (fun (S15 : kS) (r15 : Int32) => hasO S15 t0 8 ∧ wp_X8_reach t0 r15 S15 (fun (S16 : kS) => hasO S16 q4 7 ∧ wp_X7_cancelTo q4 z7 a1 S16 (fun (S17 : kS) (r17 : Int32) => hasO S17 t0 8 ∧ wp_X8_reach t0 r17 S17 (fun (S18 : kS) => ((z10 < 0 → wp_X8_followFinish_82 K t0 a0 q4 z7 z10 S18) ∧ (¬ z10 < 0 → hasO S18 q4 7 ∧ wp_X7_is q4 a0 4 S18 (fun (S20 : kS) (r20 : Int32) => ((r20 = 0 → wp_X8_followFinish_82 K t0 a0 q4 z7 z10 S20) ∧ (¬ r20 = 0 → hasO S20 q4 7 ∧ wp_X7_breakTo q4 z7 z10 S20 (fun (S22 : kS) (r22 : Int32) => hasO S22 t0 8 ∧ wp_X8_reach t0 r22 S22 (fun (S23 : kS) => wp_X8_followFinish_82 K t0 a0 q4 z7 z10 S23))))))))))))
theorem cw_X8_48 {R : Room} {s : State} {args : Array Value} {fr lo : Nat} (hts : ∀ w ∈ tb, w.before args s = true) (h1 : fr + 1 ≤ R.frames) (h2 : 8 + (2 + 11) + lo ≤ R.locals) : CallW R s args RX8 RX8 48 yX8_reach cX8_reach 2 none (.code yX8_reach cX8_reach 2 none :: tb) (mRm fr lo) 0 0 1 := cwV 1 hts (gd_V wd_802 wd_804 sl_X8_reach wd_8 wd_805) rfl rfl rfl (by decide +kernel) ⟨h1, h2⟩
theorem cw_X8_74 {R : Room} {s : State} {args : Array Value} {fr lo : Nat} (hts : ∀ w ∈ tb, w.before args s = true) (h1 : fr + 1 ≤ R.frames) (h2 : 8 + (6 + 11) + lo ≤ R.locals) : CallW R s args RX8 RX7 74 yX7_failureTo cX7_failureTo 6 (some .int) (.code yX7_failureTo cX7_failureTo 6 (some .int) :: tb) (mRm fr lo) 0 0 2 := cwV 2 hts (gd_V wd_822 wd_823 wd_824 wd_14 wd_825) rfl rfl rfl (by decide +kernel) ⟨h1, h2⟩
theorem cw_X8_68 {R : Room} {s : State} {args : Array Value} {fr lo : Nat} (hts : ∀ w ∈ tb, w.before args s = true) (h1 : fr + 1 ≤ R.frames) (h2 : 8 + (3 + 11) + lo ≤ R.locals) : CallW R s args RX8 RX7 68 yX7_cancelTo cX7_cancelTo 3 (some .int) (.code yX7_cancelTo cX7_cancelTo 3 (some .int) :: tb) (mRm fr lo) 0 0 2 := cwV 2 hts (gd_V wd_810 wd_811 wd_812 wd_14 wd_813) rfl rfl rfl (by decide +kernel) ⟨h1, h2⟩
theorem cw_X8_83 {R : Room} {s : State} {args : Array Value} {fr lo : Nat} (hts : ∀ w ∈ tb, w.before args s = true) (h1 : fr + 1 ≤ R.frames) (h2 : 8 + (3 + 11) + lo ≤ R.locals) : CallW R s args RX8 RX7 83 yX7_is cX7_is 3 (some .boolean) (.code yX7_is cX7_is 3 (some .boolean) :: tb) (mRm fr lo) 0 0 2 := cwV 2 hts (gd_V wd_834 wd_819 wd_820 wd_14 wd_821) rfl rfl rfl (by decide +kernel) ⟨h1, h2⟩
theorem cw_X8_77 {R : Room} {s : State} {args : Array Value} {fr lo : Nat} (hts : ∀ w ∈ tb, w.before args s = true) (h1 : fr + 1 ≤ R.frames) (h2 : 8 + (3 + 11) + lo ≤ R.locals) : CallW R s args RX8 RX7 77 yX7_breakTo cX7_breakTo 3 (some .int) (.code yX7_breakTo cX7_breakTo 3 (some .int) :: tb) (mRm fr lo) 0 0 2 := cwV 2 hts (gd_V wd_826 wd_827 wd_828 wd_14 wd_829) rfl rfl rfl (by decide +kernel) ⟨h1, h2⟩
theorem cw_X8_80 {R : Room} {s : State} {args : Array Value} {fr lo : Nat} (hts : ∀ w ∈ tb, w.before args s = true) (h1 : fr + 1 ≤ R.frames) (h2 : 8 + (3 + 11) + lo ≤ R.locals) : CallW R s args RX8 RX7 80 yX7_continueTo cX7_continueTo 3 (some .int) (.code yX7_continueTo cX7_continueTo 3 (some .int) :: tb) (mRm fr lo) 0 0 2 := cwV 2 hts (gd_V wd_830 wd_831 wd_832 wd_14 wd_833) rfl rfl rfl (by decide +kernel) ⟨h1, h2⟩
set_option maxHeartbeats 4000000 in
set_option maxRecDepth 100000 in
theorem kt_X8_followFinish (l : Launch) (S : kS) (t0 : Nat) (a0 : Int32) (a1 : Int32) (K : kS → Prop) (h : wp_X8_followFinish t0 a0 a1 S K) : kMv l yX8_followFinish cX8_followFinish 6 none 3 70 [.ref t0, .int a0, .int a1] S K := by
  refine kv_ofv (own := RX8) (by decide) rfl (Nat.le_of_ble_eq_true rfl) ?_
  intro E p e R s m args below meth c A ls Q hRf hRl hX hC hl hret
  have hx := hX.1.1
  have hb := hX.1.2.1
  have hown := hX.1.2.2.2.1
  have hts := hX.1.2.2.2.2
  have cut82 : ∀ (x0 : Nat) (x1 : Int32) (x3 : Nat) (x4 : Int32) (x5 : Int32) (S : kS) (H : Heap) (locs : List Loc) (ls : Array Slot), wp_X8_followFinish_82 K x0 x1 x3 x4 x5 S → cM E A s.heap S H locs → lv_has ls 6 [(0, .ref x0), (1, .int x1), (3, .ref x3), (4, .int x4), (5, .int x5)] → W p l e R s m args below meth c H locs 0 0 Q (F0 m 82 ls []) := by
    intro x0 x1 x3 x4 x5 S H locs ls h hC hl
    unfold wp_X8_followFinish_82 at h
    refine lv_iload hx hb dX8_followFinish_82 (lv_at hl 4 rfl) ?_
    refine lv_if_lt (tgt := 109) hx hb dX8_followFinish_84 (by decide) (fun c24 => ?_) (fun c24 => ?_)
    · have h := h.1 c24
      exact hret _ _ _ _ _ hC h dX8_followFinish_109
    · have h := h.2 c24
      refine lv_aload_n hx hb dX8_followFinish_87 rfl (lv_at hl 2 rfl) ?_
      refine lv_iload_n hx hb dX8_followFinish_88 rfl (lv_at hl 1 rfl) ?_
      refine lv_bipush (v := 8) hx hb dX8_followFinish_89 (by decide) ?_
      refine kv_calli [.int x1, .int 8] (rest := []) (ci := 7) rfl hX hC h.1 (kt_X7_is l S x3 x1 8 _ h.2 E _) (cw_X8_83 hts (by omega) (by omega)) rfl hl.1 (Nat.le_of_ble_eq_true rfl) ⟨Nat.zero_le _, Nat.zero_le _⟩ dX8_followFinish_91 (fun r25 S25 H locs hC h => ?_)
      refine lv_if_eq (tgt := 109) hx hb dX8_followFinish_94 (by decide) (fun c26 => ?_) (fun c26 => ?_)
      · have h := h.1 c26
        exact hret _ _ _ _ _ hC h dX8_followFinish_109
      · have h := h.2 c26
        refine lv_aload_n hx hb dX8_followFinish_97 rfl (lv_at hl 0 rfl) ?_
        refine lv_aload_n hx hb dX8_followFinish_98 rfl (lv_at hl 2 rfl) ?_
        refine lv_iload hx hb dX8_followFinish_99 (lv_at hl 3 rfl) ?_
        refine lv_iload hx hb dX8_followFinish_101 (lv_at hl 4 rfl) ?_
        refine kv_calli [.int x4, .int x5] (rest := [.ref x0]) (ci := 7) rfl hX hC h.1 (kt_X7_continueTo l S25 x3 x4 x5 _ h.2 E _) (cw_X8_80 hts (by omega) (by omega)) rfl hl.1 (Nat.le_of_ble_eq_true rfl) ⟨Nat.zero_le _, Nat.zero_le _⟩ dX8_followFinish_103 (fun r27 S27 H locs hC h => ?_)
        refine kv_callv [.int r27] (rest := []) (ci := 8) rfl hX hC h.1 (kt_X8_reach l S27 x0 r27 _ h.2 E _) (cw_X8_48 hts (by omega) (by omega)) rfl hl.1 (Nat.le_of_ble_eq_true rfl) ⟨Nat.zero_le _, Nat.zero_le _⟩ dX8_followFinish_106 (fun S28 H locs hC h => ?_)
        exact hret _ _ _ _ _ hC h dX8_followFinish_109
  have hl : lv_has ls 6 [(0, .ref t0), (1, .int a0), (2, .int a1)] := hl
  unfold wp_X8_followFinish at h
  refine lv_aload_n hx hb dX8_followFinish_0 rfl (lv_at hl 0 rfl) ?_
  refine cq_getr (ci := 8) (k := 4) (f := 55) hX hC rfl in_X8 (by decide) wd_181 (fun _ h9 => h9) (fun _ _ => rfl) dX8_followFinish_1 h (fun z1 h => ?_)
  obtain ⟨q2, e9, hh⟩ := h
  subst e9
  have h := hh
  clear hh
  refine cq_getr (ci := 5) (k := 4) (f := 31) hX hC rfl in_X5 (by decide) wd_411 (fun _ h9 => h9) (fun _ _ => rfl) dX8_followFinish_4 h (fun z3 h => ?_)
  refine lo_astore_n (lv' := [(3, va_rf z3), (0, .ref t0), (1, .int a0), (2, .int a1)]) hx hb dX8_followFinish_7 rfl hl (by decide) (by rcases z3 with _ | _ <;> rfl) (fun ls hl => ?_)
  refine lo_aload_n hx hb dX8_followFinish_8 rfl (lv_at hl 0 rfl) ?_
  obtain ⟨q4, e9, hh⟩ := h
  subst e9
  have h := hh
  clear hh
  refine cq_getr (ci := 7) (k := 1) (f := 43) hX hC rfl in_X7 (by decide) wd_343 (fun _ h9 => h9) (fun _ _ => rfl) dX8_followFinish_9 h (fun z5 h => ?_)
  refine lv_iload_n hx hb dX8_followFinish_12 rfl (lv_at hl 2 rfl) ?_
  obtain ⟨q6, e9, hh⟩ := h
  subst e9
  have h := hh
  clear hh
  refine cq_ild hX hC dX8_followFinish_13 h (fun z7 h => ?_)
  refine lv_istore (lv' := [(4, .int z7), (3, .ref q4), (0, .ref t0), (1, .int a0), (2, .int a1)]) hx hb dX8_followFinish_14 hl (by decide) rfl (fun ls hl => ?_)
  refine lv_aload_n hx hb dX8_followFinish_16 rfl (lv_at hl 1 rfl) ?_
  refine cq_getr (ci := 7) (k := 3) (f := 45) hX hC rfl in_X7 (by decide) wd_348 (fun _ h9 => h9) (fun _ _ => rfl) dX8_followFinish_17 h (fun z8 h => ?_)
  refine lv_iload_n hx hb dX8_followFinish_20 rfl (lv_at hl 3 rfl) ?_
  obtain ⟨q9, e9, hh⟩ := h
  subst e9
  have h := hh
  clear hh
  refine cq_ild hX hC dX8_followFinish_21 h (fun z10 h => ?_)
  refine lv_istore (lv' := [(5, .int z10), (4, .int z7), (3, .ref q4), (0, .ref t0), (1, .int a0), (2, .int a1)]) hx hb dX8_followFinish_22 hl (by decide) rfl (fun ls hl => ?_)
  refine lv_aload_n hx hb dX8_followFinish_24 rfl (lv_at hl 3 rfl) ?_
  refine lv_aload_n hx hb dX8_followFinish_25 rfl (lv_at hl 2 rfl) ?_
  refine cq_getr (ci := 7) (k := 6) (f := 48) hX hC rfl in_X7 (by decide) wd_357 (fun _ h9 => h9) (fun _ _ => rfl) dX8_followFinish_26 h (fun z11 h => ?_)
  refine lv_iload_n hx hb dX8_followFinish_29 rfl (lv_at hl 4 rfl) ?_
  obtain ⟨q12, e9, hh⟩ := h
  subst e9
  have h := hh
  clear hh
  refine cq_ild hX hC dX8_followFinish_30 h (fun z13 h => ?_)
  refine kv_callv [.int z13] (rest := []) (ci := 8) rfl hX hC h.1 (kt_X8_reach l S t0 z13 _ h.2 E _) (cw_X8_48 hts (by omega) (by omega)) rfl hl.1 (Nat.le_of_ble_eq_true rfl) ⟨Nat.zero_le _, Nat.zero_le _⟩ dX8_followFinish_31 (fun S14 H locs hC h => ?_)
  refine lv_aload_n hx hb dX8_followFinish_34 rfl (lv_at hl 3 rfl) ?_
  refine lv_aload_n hx hb dX8_followFinish_35 rfl (lv_at hl 2 rfl) ?_
  refine lv_iload hx hb dX8_followFinish_36 (lv_at hl 1 rfl) ?_
  refine lv_iload_n hx hb dX8_followFinish_38 rfl (lv_at hl 5 rfl) ?_
  refine kv_calli [.int z7, .int a1] (rest := [.ref t0]) (ci := 7) rfl hX hC h.1 (kt_X7_failureTo l S14 q4 z7 a1 _ h.2 E _) (cw_X8_74 hts (by omega) (by omega)) rfl hl.1 (Nat.le_of_ble_eq_true rfl) ⟨Nat.zero_le _, Nat.zero_le _⟩ dX8_followFinish_39 (fun r15 S15 H locs hC h => ?_)
  refine kv_callv [.int r15] (rest := []) (ci := 8) rfl hX hC h.1 (kt_X8_reach l S15 t0 r15 _ h.2 E _) (cw_X8_48 hts (by omega) (by omega)) rfl hl.1 (Nat.le_of_ble_eq_true rfl) ⟨Nat.zero_le _, Nat.zero_le _⟩ dX8_followFinish_42 (fun S16 H locs hC h => ?_)
  refine lv_aload_n hx hb dX8_followFinish_45 rfl (lv_at hl 3 rfl) ?_
  refine lv_aload_n hx hb dX8_followFinish_46 rfl (lv_at hl 2 rfl) ?_
  refine lv_iload hx hb dX8_followFinish_47 (lv_at hl 1 rfl) ?_
  refine lv_iload_n hx hb dX8_followFinish_49 rfl (lv_at hl 5 rfl) ?_
  refine kv_calli [.int z7, .int a1] (rest := [.ref t0]) (ci := 7) rfl hX hC h.1 (kt_X7_cancelTo l S16 q4 z7 a1 _ h.2 E _) (cw_X8_68 hts (by omega) (by omega)) rfl hl.1 (Nat.le_of_ble_eq_true rfl) ⟨Nat.zero_le _, Nat.zero_le _⟩ dX8_followFinish_50 (fun r17 S17 H locs hC h => ?_)
  refine kv_callv [.int r17] (rest := []) (ci := 8) rfl hX hC h.1 (kt_X8_reach l S17 t0 r17 _ h.2 E _) (cw_X8_48 hts (by omega) (by omega)) rfl hl.1 (Nat.le_of_ble_eq_true rfl) ⟨Nat.zero_le _, Nat.zero_le _⟩ dX8_followFinish_53 (fun S18 H locs hC h => ?_)
  refine lv_iload hx hb dX8_followFinish_56 (lv_at hl 0 rfl) ?_
  refine lv_if_lt (tgt := 82) hx hb dX8_followFinish_58 (by decide) (fun c19 => ?_) (fun c19 => ?_)
  · have h := h.1 c19
    exact cut82 t0 a0 q4 z7 z10 S18 _ _ _ h hC (lv_sub hl [3, 4, 2, 1, 0] rfl)
  · have h := h.2 c19
    refine lv_aload_n hx hb dX8_followFinish_61 rfl (lv_at hl 2 rfl) ?_
    refine lv_iload_n hx hb dX8_followFinish_62 rfl (lv_at hl 4 rfl) ?_
    refine lv_iconst (v := 4) hx hb dX8_followFinish_63 (by decide) ?_
    refine kv_calli [.int a0, .int 4] (rest := []) (ci := 7) rfl hX hC h.1 (kt_X7_is l S18 q4 a0 4 _ h.2 E _) (cw_X8_83 hts (by omega) (by omega)) rfl hl.1 (Nat.le_of_ble_eq_true rfl) ⟨Nat.zero_le _, Nat.zero_le _⟩ dX8_followFinish_64 (fun r20 S20 H locs hC h => ?_)
    refine lv_if_eq (tgt := 82) hx hb dX8_followFinish_67 (by decide) (fun c21 => ?_) (fun c21 => ?_)
    · have h := h.1 c21
      exact cut82 t0 a0 q4 z7 z10 S20 _ _ _ h hC (lv_sub hl [3, 4, 2, 1, 0] rfl)
    · have h := h.2 c21
      refine lv_aload_n hx hb dX8_followFinish_70 rfl (lv_at hl 3 rfl) ?_
      refine lv_aload_n hx hb dX8_followFinish_71 rfl (lv_at hl 2 rfl) ?_
      refine lv_iload hx hb dX8_followFinish_72 (lv_at hl 1 rfl) ?_
      refine lv_iload hx hb dX8_followFinish_74 (lv_at hl 0 rfl) ?_
      refine kv_calli [.int z7, .int z10] (rest := [.ref t0]) (ci := 7) rfl hX hC h.1 (kt_X7_breakTo l S20 q4 z7 z10 _ h.2 E _) (cw_X8_77 hts (by omega) (by omega)) rfl hl.1 (Nat.le_of_ble_eq_true rfl) ⟨Nat.zero_le _, Nat.zero_le _⟩ dX8_followFinish_76 (fun r22 S22 H locs hC h => ?_)
      refine kv_callv [.int r22] (rest := []) (ci := 8) rfl hX hC h.1 (kt_X8_reach l S22 t0 r22 _ h.2 E _) (cw_X8_48 hts (by omega) (by omega)) rfl hl.1 (Nat.le_of_ble_eq_true rfl) ⟨Nat.zero_le _, Nat.zero_le _⟩ dX8_followFinish_79 (fun S23 H locs hC h => ?_)
      exact cut82 t0 a0 q4 z7 z10 S23 _ _ _ h hC (lv_sub hl [3, 4, 2, 1, 0] rfl)
