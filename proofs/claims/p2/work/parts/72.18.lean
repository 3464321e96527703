theorem wd_2050 : (Jvm.Cond.methodLink "SleepersModel" (687 : Nat) ({ cls := "SleepersModel", name := "runs", desc := "(I)V" } : Jvm.MethodName)) ∈ tb := tb_at 2050 (by decide +kernel) (by decide +kernel)
theorem wd_2052 : (Jvm.Cond.instanceMethod ({ cls := "SleepersModel", name := "runs", desc := "(I)V" } : Jvm.MethodName)) ∈ tb := tb_at 2052 (by decide +kernel) (by decide +kernel)
theorem wd_2053 : (Jvm.Cond.code ({ cls := "SleepersModel", name := "runs", desc := "(I)V" } : Jvm.MethodName) prog_14_method_73_code (4 : Nat) (Option.none : Option Jvm.ClassFile.FieldType)) ∈ tb := tb_at 2053 (by decide +kernel) (by decide +kernel)
theorem wd_2155 : (Jvm.Cond.methodLink "SleepersModel" (690 : Nat) ({ cls := "SleepersModel", name := "due", desc := "(J)I" } : Jvm.MethodName)) ∈ tb := tb_at 2155 (by decide +kernel) (by decide +kernel)
theorem wd_2157 : (Jvm.Cond.instanceMethod ({ cls := "SleepersModel", name := "due", desc := "(J)I" } : Jvm.MethodName)) ∈ tb := tb_at 2157 (by decide +kernel) (by decide +kernel)
theorem wd_2158 : (Jvm.Cond.code ({ cls := "SleepersModel", name := "due", desc := "(J)I" } : Jvm.MethodName) prog_14_method_98_code (4 : Nat) (Option.some Jvm.ClassFile.FieldType.int)) ∈ tb := tb_at 2158 (by decide +kernel) (by decide +kernel)
theorem sl_X12_due : Cond.selects RX12 yX12_due yX12_due ∈ tb := sl_of (y := ⟨"SleepersModel", "due", "(J)I"⟩) (n := 128) (by decide +kernel) (by decide +kernel)
theorem sl_X12_runs : Cond.selects RX12 yX12_runs yX12_runs ∈ tb := sl_of (y := ⟨"SleepersModel", "runs", "(I)V"⟩) (n := 128) (by decide +kernel) (by decide +kernel)
theorem dX12_rounds_0 : decode cX12_rounds 0 = .ok (.aload_n 0, 1) := by decide +kernel
theorem dX12_rounds_1 : decode cX12_rounds 1 = .ok (.iconst 0, 1) := by decide +kernel
theorem dX12_rounds_2 : decode cX12_rounds 2 = .ok (.putfield 1, 3) := by decide +kernel
theorem dX12_rounds_5 : decode cX12_rounds 5 = .ok (.iload_n 1, 1) := by decide +kernel
theorem dX12_rounds_6 : decode cX12_rounds 6 = .ok (.ifCond .lt 10, 3) := by decide +kernel
theorem dX12_rounds_9 : decode cX12_rounds 9 = .ok (.iload_n 1, 1) := by decide +kernel
theorem dX12_rounds_10 : decode cX12_rounds 10 = .ok (.sipush 400, 3) := by decide +kernel
theorem dX12_rounds_13 : decode cX12_rounds 13 = .ok (.if_icmp .le 5, 3) := by decide +kernel
theorem dX12_rounds_16 : decode cX12_rounds 16 = .ok (.iconst (-1), 1) := by decide +kernel
theorem dX12_rounds_17 : decode cX12_rounds 17 = .ok (.ireturn, 1) := by decide +kernel
theorem dX12_rounds_18 : decode cX12_rounds 18 = .ok (.iconst 0, 1) := by decide +kernel
theorem dX12_rounds_19 : decode cX12_rounds 19 = .ok (.istore_n 2, 1) := by decide +kernel
theorem dX12_rounds_20 : decode cX12_rounds 20 = .ok (.iload_n 2, 1) := by decide +kernel
theorem dX12_rounds_21 : decode cX12_rounds 21 = .ok (.iload_n 1, 1) := by decide +kernel
theorem dX12_rounds_22 : decode cX12_rounds 22 = .ok (.if_icmp .ge 33, 3) := by decide +kernel
theorem dX12_rounds_25 : decode cX12_rounds 25 = .ok (.aload_n 0, 1) := by decide +kernel
theorem dX12_rounds_26 : decode cX12_rounds 26 = .ok (.getfield 545, 3) := by decide +kernel
theorem dX12_rounds_29 : decode cX12_rounds 29 = .ok (.ifCond .le 26, 3) := by decide +kernel
theorem dX12_rounds_32 : decode cX12_rounds 32 = .ok (.aload_n 0, 1) := by decide +kernel
theorem dX12_rounds_33 : decode cX12_rounds 33 = .ok (.getfield 252, 3) := by decide +kernel
theorem dX12_rounds_36 : decode cX12_rounds 36 = .ok (.iconst 0, 1) := by decide +kernel
theorem dX12_rounds_37 : decode cX12_rounds 37 = .ok (.iaload, 1) := by decide +kernel
theorem dX12_rounds_38 : decode cX12_rounds 38 = .ok (.istore_n 3, 1) := by decide +kernel
theorem dX12_rounds_39 : decode cX12_rounds 39 = .ok (.aload_n 0, 1) := by decide +kernel
theorem dX12_rounds_40 : decode cX12_rounds 40 = .ok (.iconst 0, 1) := by decide +kernel
theorem dX12_rounds_41 : decode cX12_rounds 41 = .ok (.invokevirtual 590, 3) := by decide +kernel
theorem dX12_rounds_44 : decode cX12_rounds 44 = .ok (.aload_n 0, 1) := by decide +kernel
theorem dX12_rounds_45 : decode cX12_rounds 45 = .ok (.iload_n 3, 1) := by decide +kernel
theorem dX12_rounds_46 : decode cX12_rounds 46 = .ok (.invokevirtual 687, 3) := by decide +kernel
theorem dX12_rounds_49 : decode cX12_rounds 49 = .ok (.iinc 2 1, 3) := by decide +kernel
theorem dX12_rounds_52 : decode cX12_rounds 52 = .ok (.goto (-32), 3) := by decide +kernel
theorem dX12_rounds_55 : decode cX12_rounds 55 = .ok (.iload_n 2, 1) := by decide +kernel
theorem dX12_rounds_56 : decode cX12_rounds 56 = .ok (.ireturn, 1) := by decide +kernel
theorem dX12_routine_0 : decode cX12_routine 0 = .ok (.aload_n 0, 1) := by decide +kernel
theorem dX12_routine_1 : decode cX12_routine 1 = .ok (.iload_n 1, 1) := by decide +kernel
theorem dX12_routine_2 : decode cX12_routine 2 = .ok (.ifCond .lt 29, 3) := by decide +kernel
theorem dX12_routine_5 : decode cX12_routine 5 = .ok (.iload_n 1, 1) := by decide +kernel
theorem dX12_routine_6 : decode cX12_routine 6 = .ok (.aload_n 0, 1) := by decide +kernel
theorem dX12_routine_7 : decode cX12_routine 7 = .ok (.getfield 43, 3) := by decide +kernel
theorem dX12_routine_10 : decode cX12_routine 10 = .ok (.aload_n 0, 1) := by decide +kernel
theorem dX12_routine_11 : decode cX12_routine 11 = .ok (.getfield 356, 3) := by decide +kernel
theorem dX12_routine_14 : decode cX12_routine 14 = .ok (.iaload, 1) := by decide +kernel
theorem dX12_routine_15 : decode cX12_routine 15 = .ok (.if_icmp .ge 16, 3) := by decide +kernel
theorem dX12_routine_18 : decode cX12_routine 18 = .ok (.iload_n 2, 1) := by decide +kernel
theorem dX12_routine_19 : decode cX12_routine 19 = .ok (.ifCond .lt 12, 3) := by decide +kernel
theorem dX12_routine_22 : decode cX12_routine 22 = .ok (.iload_n 2, 1) := by decide +kernel
theorem dX12_routine_23 : decode cX12_routine 23 = .ok (.iconst 2, 1) := by decide +kernel
theorem dX12_routine_24 : decode cX12_routine 24 = .ok (.if_icmp .gt 7, 3) := by decide +kernel
theorem dX12_routine_27 : decode cX12_routine 27 = .ok (.iconst 0, 1) := by decide +kernel
theorem dX12_routine_28 : decode cX12_routine 28 = .ok (.goto 4, 3) := by decide +kernel
theorem dX12_routine_31 : decode cX12_routine 31 = .ok (.iconst 1, 1) := by decide +kernel
theorem dX12_routine_32 : decode cX12_routine 32 = .ok (.putfield 1, 3) := by decide +kernel
theorem dX12_routine_35 : decode cX12_routine 35 = .ok (.aload_n 0, 1) := by decide +kernel
theorem dX12_routine_36 : decode cX12_routine 36 = .ok (.getfield 1, 3) := by decide +kernel
theorem dX12_routine_39 : decode cX12_routine 39 = .ok (.ifCond .le 5, 3) := by decide +kernel
theorem dX12_routine_42 : decode cX12_routine 42 = .ok (.iconst 0, 1) := by decide +kernel
theorem dX12_routine_43 : decode cX12_routine 43 = .ok (.ireturn, 1) := by decide +kernel
theorem dX12_routine_44 : decode cX12_routine 44 = .ok (.bipush 12, 2) := by decide +kernel
theorem dX12_routine_46 : decode cX12_routine 46 = .ok (.aload_n 0, 1) := by decide +kernel
theorem dX12_routine_47 : decode cX12_routine 47 = .ok (.getfield 356, 3) := by decide +kernel
theorem dX12_routine_50 : decode cX12_routine 50 = .ok (.imul, 1) := by decide +kernel
theorem dX12_routine_51 : decode cX12_routine 51 = .ok (.iload_n 1, 1) := by decide +kernel
theorem dX12_routine_52 : decode cX12_routine 52 = .ok (.iadd, 1) := by decide +kernel
theorem dX12_routine_53 : decode cX12_routine 53 = .ok (.istore_n 3, 1) := by decide +kernel
theorem dX12_routine_54 : decode cX12_routine 54 = .ok (.iload_n 2, 1) := by decide +kernel
theorem dX12_routine_55 : decode cX12_routine 55 = .ok (.ifCond .ne 12, 3) := by decide +kernel
theorem dX12_routine_58 : decode cX12_routine 58 = .ok (.aload_n 0, 1) := by decide +kernel
theorem dX12_routine_59 : decode cX12_routine 59 = .ok (.getfield 49, 3) := by decide +kernel
theorem dX12_routine_62 : decode cX12_routine 62 = .ok (.iload_n 3, 1) := by decide +kernel
theorem dX12_routine_63 : decode cX12_routine 63 = .ok (.iaload, 1) := by decide +kernel
theorem dX12_routine_64 : decode cX12_routine 64 = .ok (.goto 25, 3) := by decide +kernel
theorem dX12_routine_67 : decode cX12_routine 67 = .ok (.iload_n 2, 1) := by decide +kernel
theorem dX12_routine_68 : decode cX12_routine 68 = .ok (.iconst 1, 1) := by decide +kernel
theorem dX12_routine_69 : decode cX12_routine 69 = .ok (.if_icmp .ne 12, 3) := by decide +kernel
theorem dX12_routine_72 : decode cX12_routine 72 = .ok (.aload_n 0, 1) := by decide +kernel
theorem dX12_routine_73 : decode cX12_routine 73 = .ok (.getfield 52, 3) := by decide +kernel
theorem dX12_routine_76 : decode cX12_routine 76 = .ok (.iload_n 3, 1) := by decide +kernel
theorem dX12_routine_77 : decode cX12_routine 77 = .ok (.iaload, 1) := by decide +kernel
theorem dX12_routine_78 : decode cX12_routine 78 = .ok (.goto 11, 3) := by decide +kernel
theorem dX12_routine_81 : decode cX12_routine 81 = .ok (.aload_n 0, 1) := by decide +kernel
theorem dX12_routine_82 : decode cX12_routine 82 = .ok (.getfield 58, 3) := by decide +kernel
theorem dX12_routine_85 : decode cX12_routine 85 = .ok (.iload_n 3, 1) := by decide +kernel
theorem dX12_routine_86 : decode cX12_routine 86 = .ok (.iaload, 1) := by decide +kernel
theorem dX12_routine_87 : decode cX12_routine 87 = .ok (.iconst 1, 1) := by decide +kernel
theorem dX12_routine_88 : decode cX12_routine 88 = .ok (.iadd, 1) := by decide +kernel
theorem dX12_routine_89 : decode cX12_routine 89 = .ok (.ireturn, 1) := by decide +kernel
theorem dX12_row_0 : decode cX12_row 0 = .ok (.aload_n 0, 1) := by decide +kernel
theorem dX12_row_1 : decode cX12_row 1 = .ok (.iconst 0, 1) := by decide +kernel
theorem dX12_row_2 : decode cX12_row 2 = .ok (.putfield 1, 3) := by decide +kernel
theorem dX12_row_5 : decode cX12_row 5 = .ok (.iload_n 1, 1) := by decide +kernel
theorem dX12_row_6 : decode cX12_row 6 = .ok (.ifCond .lt 11, 3) := by decide +kernel
theorem dX12_row_9 : decode cX12_row 9 = .ok (.iload_n 1, 1) := by decide +kernel
theorem dX12_row_10 : decode cX12_row 10 = .ok (.aload_n 0, 1) := by decide +kernel
theorem dX12_row_11 : decode cX12_row 11 = .ok (.getfield 545, 3) := by decide +kernel
theorem dX12_row_14 : decode cX12_row 14 = .ok (.if_icmp .lt 7, 3) := by decide +kernel
theorem dX12_row_17 : decode cX12_row 17 = .ok (.iconst (-1), 1) := by decide +kernel
theorem dX12_row_18 : decode cX12_row 18 = .ok (.goto 9, 3) := by decide +kernel
theorem dX12_row_21 : decode cX12_row 21 = .ok (.aload_n 0, 1) := by decide +kernel
theorem dX12_row_22 : decode cX12_row 22 = .ok (.getfield 252, 3) := by decide +kernel
theorem dX12_row_25 : decode cX12_row 25 = .ok (.iload_n 1, 1) := by decide +kernel
theorem dX12_row_26 : decode cX12_row 26 = .ok (.iaload, 1) := by decide +kernel
theorem dX12_row_27 : decode cX12_row 27 = .ok (.ireturn, 1) := by decide +kernel
theorem dX12_stands_0 : decode cX12_stands 0 = .ok (.aload_n 0, 1) := by decide +kernel
theorem dX12_stands_1 : decode cX12_stands 1 = .ok (.iconst 0, 1) := by decide +kernel
theorem dX12_stands_2 : decode cX12_stands 2 = .ok (.putfield 1, 3) := by decide +kernel
theorem dX12_stands_5 : decode cX12_stands 5 = .ok (.iload_n 2, 1) := by decide +kernel
theorem dX12_stands_6 : decode cX12_stands 6 = .ok (.istore_n 3, 1) := by decide +kernel
theorem dX12_stands_7 : decode cX12_stands 7 = .ok (.iconst 0, 1) := by decide +kernel
theorem dX12_stands_8 : decode cX12_stands 8 = .ok (.istore 4, 2) := by decide +kernel
theorem dX12_stands_10 : decode cX12_stands 10 = .ok (.iload 4, 2) := by decide +kernel
theorem dX12_stands_12 : decode cX12_stands 12 = .ok (.aload_n 0, 1) := by decide +kernel
theorem dX12_stands_13 : decode cX12_stands 13 = .ok (.getfield 563, 3) := by decide +kernel
theorem dX12_stands_16 : decode cX12_stands 16 = .ok (.if_icmp .ge 59, 3) := by decide +kernel
theorem dX12_stands_19 : decode cX12_stands 19 = .ok (.iload_n 2, 1) := by decide +kernel
theorem dX12_stands_20 : decode cX12_stands 20 = .ok (.ifCond .lt 55, 3) := by decide +kernel
theorem dX12_stands_23 : decode cX12_stands 23 = .ok (.aload_n 0, 1) := by decide +kernel
theorem dX12_stands_24 : decode cX12_stands 24 = .ok (.getfield 295, 3) := by decide +kernel
theorem dX12_stands_27 : decode cX12_stands 27 = .ok (.iload 4, 2) := by decide +kernel
theorem dX12_stands_29 : decode cX12_stands 29 = .ok (.iaload, 1) := by decide +kernel
theorem dX12_stands_30 : decode cX12_stands 30 = .ok (.istore 5, 2) := by decide +kernel
theorem dX12_stands_32 : decode cX12_stands 32 = .ok (.aload_n 0, 1) := by decide +kernel
theorem dX12_stands_33 : decode cX12_stands 33 = .ok (.getfield 274, 3) := by decide +kernel
theorem dX12_stands_36 : decode cX12_stands 36 = .ok (.iload 5, 2) := by decide +kernel
theorem dX12_stands_38 : decode cX12_stands 38 = .ok (.iaload, 1) := by decide +kernel
theorem dX12_stands_39 : decode cX12_stands 39 = .ok (.iconst 3, 1) := by decide +kernel
theorem dX12_stands_40 : decode cX12_stands 40 = .ok (.if_icmp .ne 29, 3) := by decide +kernel
theorem dX12_stands_43 : decode cX12_stands 43 = .ok (.aload_n 0, 1) := by decide +kernel
theorem dX12_stands_44 : decode cX12_stands 44 = .ok (.getfield 286, 3) := by decide +kernel
theorem dX12_stands_47 : decode cX12_stands 47 = .ok (.iload 5, 2) := by decide +kernel
theorem dX12_stands_49 : decode cX12_stands 49 = .ok (.iaload, 1) := by decide +kernel
theorem dX12_stands_50 : decode cX12_stands 50 = .ok (.iload_n 1, 1) := by decide +kernel
theorem dX12_stands_51 : decode cX12_stands 51 = .ok (.if_icmp .ne 18, 3) := by decide +kernel
theorem dX12_stands_54 : decode cX12_stands 54 = .ok (.iload_n 3, 1) := by decide +kernel
theorem dX12_stands_55 : decode cX12_stands 55 = .ok (.ifCond .ne 11, 3) := by decide +kernel
theorem dX12_stands_58 : decode cX12_stands 58 = .ok (.aload_n 0, 1) := by decide +kernel
theorem dX12_stands_59 : decode cX12_stands 59 = .ok (.getfield 289, 3) := by decide +kernel
theorem dX12_stands_62 : decode cX12_stands 62 = .ok (.iload 5, 2) := by decide +kernel
theorem dX12_stands_64 : decode cX12_stands 64 = .ok (.iaload, 1) := by decide +kernel
theorem dX12_stands_65 : decode cX12_stands 65 = .ok (.ireturn, 1) := by decide +kernel
theorem dX12_stands_66 : decode cX12_stands 66 = .ok (.iinc 3 (-1), 3) := by decide +kernel
theorem dX12_stands_69 : decode cX12_stands 69 = .ok (.iinc 4 1, 3) := by decide +kernel
theorem dX12_stands_72 : decode cX12_stands 72 = .ok (.goto (-62), 3) := by decide +kernel
theorem dX12_stands_75 : decode cX12_stands 75 = .ok (.iconst (-1), 1) := by decide +kernel
theorem dX12_stands_76 : decode cX12_stands 76 = .ok (.ireturn, 1) := by decide +kernel
theorem dX12_task_0 : decode cX12_task 0 = .ok (.aload_n 0, 1) := by decide +kernel
theorem dX12_task_1 : decode cX12_task 1 = .ok (.aload_n 0, 1) := by decide +kernel
theorem dX12_task_2 : decode cX12_task 2 = .ok (.iload_n 1, 1) := by decide +kernel
theorem dX12_task_3 : decode cX12_task 3 = .ok (.invokevirtual 694, 3) := by decide +kernel
theorem dX12_task_6 : decode cX12_task 6 = .ok (.ifCond .eq 17, 3) := by decide +kernel
theorem dX12_task_9 : decode cX12_task 9 = .ok (.iload_n 2, 1) := by decide +kernel
theorem dX12_task_10 : decode cX12_task 10 = .ok (.ifCond .lt 13, 3) := by decide +kernel
theorem dX12_task_13 : decode cX12_task 13 = .ok (.iload_n 2, 1) := by decide +kernel
theorem dX12_task_14 : decode cX12_task 14 = .ok (.bipush 7, 2) := by decide +kernel
theorem dX12_task_16 : decode cX12_task 16 = .ok (.if_icmp .gt 7, 3) := by decide +kernel
theorem dX12_task_19 : decode cX12_task 19 = .ok (.iconst 0, 1) := by decide +kernel
theorem dX12_task_20 : decode cX12_task 20 = .ok (.goto 4, 3) := by decide +kernel
theorem dX12_task_23 : decode cX12_task 23 = .ok (.iconst 1, 1) := by decide +kernel
theorem dX12_task_24 : decode cX12_task 24 = .ok (.putfield 1, 3) := by decide +kernel
theorem dX12_task_27 : decode cX12_task 27 = .ok (.aload_n 0, 1) := by decide +kernel
theorem dX12_task_28 : decode cX12_task 28 = .ok (.getfield 1, 3) := by decide +kernel
theorem dX12_task_31 : decode cX12_task 31 = .ok (.ifCond .le 5, 3) := by decide +kernel
theorem dX12_task_34 : decode cX12_task 34 = .ok (.iconst 0, 1) := by decide +kernel
theorem dX12_task_35 : decode cX12_task 35 = .ok (.ireturn, 1) := by decide +kernel
theorem dX12_task_36 : decode cX12_task 36 = .ok (.iload_n 2, 1) := by decide +kernel
theorem dX12_task_37 : decode cX12_task 37 = .ok (.tableswitch 92 0 6 #[43, 50, 57, 64, 71, 78, 85], 43) := by decide +kernel
theorem dX12_task_80 : decode cX12_task 80 = .ok (.aload_n 0, 1) := by decide +kernel
theorem dX12_task_81 : decode cX12_task 81 = .ok (.getfield 195, 3) := by decide +kernel
theorem dX12_task_84 : decode cX12_task 84 = .ok (.iload_n 1, 1) := by decide +kernel
theorem dX12_task_85 : decode cX12_task 85 = .ok (.iaload, 1) := by decide +kernel
theorem dX12_task_86 : decode cX12_task 86 = .ok (.ireturn, 1) := by decide +kernel
theorem dX12_task_87 : decode cX12_task 87 = .ok (.aload_n 0, 1) := by decide +kernel
theorem dX12_task_88 : decode cX12_task 88 = .ok (.getfield 198, 3) := by decide +kernel
theorem dX12_task_91 : decode cX12_task 91 = .ok (.iload_n 1, 1) := by decide +kernel
theorem dX12_task_92 : decode cX12_task 92 = .ok (.iaload, 1) := by decide +kernel
theorem dX12_task_93 : decode cX12_task 93 = .ok (.ireturn, 1) := by decide +kernel
theorem dX12_task_94 : decode cX12_task 94 = .ok (.aload_n 0, 1) := by decide +kernel
theorem dX12_task_95 : decode cX12_task 95 = .ok (.getfield 201, 3) := by decide +kernel
theorem dX12_task_98 : decode cX12_task 98 = .ok (.iload_n 1, 1) := by decide +kernel
theorem dX12_task_99 : decode cX12_task 99 = .ok (.iaload, 1) := by decide +kernel
theorem dX12_task_100 : decode cX12_task 100 = .ok (.ireturn, 1) := by decide +kernel
theorem dX12_task_101 : decode cX12_task 101 = .ok (.aload_n 0, 1) := by decide +kernel
theorem dX12_task_102 : decode cX12_task 102 = .ok (.getfield 189, 3) := by decide +kernel
theorem dX12_task_105 : decode cX12_task 105 = .ok (.iload_n 1, 1) := by decide +kernel
theorem dX12_task_106 : decode cX12_task 106 = .ok (.iaload, 1) := by decide +kernel
theorem dX12_task_107 : decode cX12_task 107 = .ok (.ireturn, 1) := by decide +kernel
theorem dX12_task_108 : decode cX12_task 108 = .ok (.aload_n 0, 1) := by decide +kernel
theorem dX12_task_109 : decode cX12_task 109 = .ok (.getfield 186, 3) := by decide +kernel
theorem dX12_task_112 : decode cX12_task 112 = .ok (.iload_n 1, 1) := by decide +kernel
theorem dX12_task_113 : decode cX12_task 113 = .ok (.iaload, 1) := by decide +kernel
theorem dX12_task_114 : decode cX12_task 114 = .ok (.ireturn, 1) := by decide +kernel
theorem dX12_task_115 : decode cX12_task 115 = .ok (.aload_n 0, 1) := by decide +kernel
theorem dX12_task_116 : decode cX12_task 116 = .ok (.getfield 210, 3) := by decide +kernel
theorem dX12_task_119 : decode cX12_task 119 = .ok (.iload_n 1, 1) := by decide +kernel
theorem dX12_task_120 : decode cX12_task 120 = .ok (.iaload, 1) := by decide +kernel
theorem dX12_task_121 : decode cX12_task 121 = .ok (.ireturn, 1) := by decide +kernel
theorem dX12_task_122 : decode cX12_task 122 = .ok (.aload_n 0, 1) := by decide +kernel
theorem dX12_task_123 : decode cX12_task 123 = .ok (.getfield 213, 3) := by decide +kernel
theorem dX12_task_126 : decode cX12_task 126 = .ok (.iload_n 1, 1) := by decide +kernel
theorem dX12_task_127 : decode cX12_task 127 = .ok (.iaload, 1) := by decide +kernel
theorem dX12_task_128 : decode cX12_task 128 = .ok (.ireturn, 1) := by decide +kernel
theorem dX12_task_129 : decode cX12_task 129 = .ok (.aload_n 0, 1) := by decide +kernel
theorem dX12_task_130 : decode cX12_task 130 = .ok (.getfield 216, 3) := by decide +kernel
theorem dX12_task_133 : decode cX12_task 133 = .ok (.iload_n 1, 1) := by decide +kernel
theorem dX12_task_134 : decode cX12_task 134 = .ok (.baload, 1) := by decide +kernel
theorem dX12_task_135 : decode cX12_task 135 = .ok (.ifCond .eq 7, 3) := by decide +kernel
theorem dX12_task_138 : decode cX12_task 138 = .ok (.iconst 1, 1) := by decide +kernel
theorem dX12_task_139 : decode cX12_task 139 = .ok (.goto 4, 3) := by decide +kernel
theorem dX12_task_142 : decode cX12_task 142 = .ok (.iconst 0, 1) := by decide +kernel
theorem dX12_task_143 : decode cX12_task 143 = .ok (.ireturn, 1) := by decide +kernel
theorem dX12_tick_0 : decode cX12_tick 0 = .ok (.aload_n 0, 1) := by decide +kernel
theorem dX12_tick_1 : decode cX12_tick 1 = .ok (.iconst 0, 1) := by decide +kernel
theorem dX12_tick_2 : decode cX12_tick 2 = .ok (.putfield 1, 3) := by decide +kernel
theorem dX12_tick_5 : decode cX12_tick 5 = .ok (.iload_n 1, 1) := by decide +kernel
theorem dX12_tick_6 : decode cX12_tick 6 = .ok (.ifCond .lt 10, 3) := by decide +kernel
theorem dX12_tick_9 : decode cX12_tick 9 = .ok (.iload_n 1, 1) := by decide +kernel
theorem dX12_tick_10 : decode cX12_tick 10 = .ok (.sipush 10000, 3) := by decide +kernel
theorem dX12_tick_13 : decode cX12_tick 13 = .ok (.if_icmp .le 5, 3) := by decide +kernel
theorem dX12_tick_16 : decode cX12_tick 16 = .ok (.iconst (-1), 1) := by decide +kernel
theorem dX12_tick_17 : decode cX12_tick 17 = .ok (.ireturn, 1) := by decide +kernel
theorem dX12_tick_18 : decode cX12_tick 18 = .ok (.aload_n 0, 1) := by decide +kernel
theorem dX12_tick_19 : decode cX12_tick 19 = .ok (.getfield 548, 3) := by decide +kernel
theorem dX12_tick_22 : decode cX12_tick 22 = .ok (.iload_n 1, 1) := by decide +kernel
theorem dX12_tick_23 : decode cX12_tick 23 = .ok (.iadd, 1) := by decide +kernel
theorem dX12_tick_24 : decode cX12_tick 24 = .ok (.istore_n 2, 1) := by decide +kernel
theorem dX12_tick_25 : decode cX12_tick 25 = .ok (.aload_n 0, 1) := by decide +kernel
theorem dX12_tick_26 : decode cX12_tick 26 = .ok (.iload_n 2, 1) := by decide +kernel
theorem dX12_tick_27 : decode cX12_tick 27 = .ok (.i2l, 1) := by decide +kernel
theorem dX12_tick_28 : decode cX12_tick 28 = .ok (.invokevirtual 690, 3) := by decide +kernel
theorem dX12_tick_31 : decode cX12_tick 31 = .ok (.ifCond .lt 121, 3) := by decide +kernel
theorem dX12_tick_34 : decode cX12_tick 34 = .ok (.iload_n 2, 1) := by decide +kernel
theorem dX12_tick_35 : decode cX12_tick 35 = .ok (.i2l, 1) := by decide +kernel
theorem dX12_tick_36 : decode cX12_tick 36 = .ok (.lstore_n 3, 1) := by decide +kernel
theorem dX12_tick_37 : decode cX12_tick 37 = .ok (.iconst 0, 1) := by decide +kernel
theorem dX12_tick_38 : decode cX12_tick 38 = .ok (.istore 5, 2) := by decide +kernel
theorem dX12_tick_40 : decode cX12_tick 40 = .ok (.iload 5, 2) := by decide +kernel
theorem dX12_tick_42 : decode cX12_tick 42 = .ok (.aload_n 0, 1) := by decide +kernel
theorem dX12_tick_43 : decode cX12_tick 43 = .ok (.getfield 563, 3) := by decide +kernel
theorem dX12_tick_46 : decode cX12_tick 46 = .ok (.if_icmp .ge 53, 3) := by decide +kernel
theorem dX12_tick_49 : decode cX12_tick 49 = .ok (.aload_n 0, 1) := by decide +kernel
theorem dX12_tick_50 : decode cX12_tick 50 = .ok (.getfield 295, 3) := by decide +kernel
theorem dX12_tick_53 : decode cX12_tick 53 = .ok (.iload 5, 2) := by decide +kernel
theorem dX12_tick_55 : decode cX12_tick 55 = .ok (.iaload, 1) := by decide +kernel
theorem dX12_tick_56 : decode cX12_tick 56 = .ok (.istore 6, 2) := by decide +kernel
theorem dX12_tick_58 : decode cX12_tick 58 = .ok (.aload_n 0, 1) := by decide +kernel
theorem dX12_tick_59 : decode cX12_tick 59 = .ok (.getfield 274, 3) := by decide +kernel
theorem dX12_tick_62 : decode cX12_tick 62 = .ok (.iload 6, 2) := by decide +kernel
theorem dX12_tick_64 : decode cX12_tick 64 = .ok (.iaload, 1) := by decide +kernel
theorem dX12_tick_65 : decode cX12_tick 65 = .ok (.iconst 4, 1) := by decide +kernel
theorem dX12_tick_66 : decode cX12_tick 66 = .ok (.if_icmp .ne 25, 3) := by decide +kernel
theorem dX12_tick_69 : decode cX12_tick 69 = .ok (.aload_n 0, 1) := by decide +kernel
theorem dX12_tick_70 : decode cX12_tick 70 = .ok (.getfield 292, 3) := by decide +kernel
theorem dX12_tick_73 : decode cX12_tick 73 = .ok (.iload 6, 2) := by decide +kernel
theorem dX12_tick_75 : decode cX12_tick 75 = .ok (.laload, 1) := by decide +kernel
theorem dX12_tick_76 : decode cX12_tick 76 = .ok (.lload_n 3, 1) := by decide +kernel
theorem dX12_tick_77 : decode cX12_tick 77 = .ok (.lcmp, 1) := by decide +kernel
theorem dX12_tick_78 : decode cX12_tick 78 = .ok (.ifCond .ge 13, 3) := by decide +kernel
theorem dX12_tick_81 : decode cX12_tick 81 = .ok (.aload_n 0, 1) := by decide +kernel
theorem dX12_tick_82 : decode cX12_tick 82 = .ok (.getfield 292, 3) := by decide +kernel
theorem dX12_tick_85 : decode cX12_tick 85 = .ok (.iload 6, 2) := by decide +kernel
theorem dX12_tick_87 : decode cX12_tick 87 = .ok (.laload, 1) := by decide +kernel
theorem dX12_tick_88 : decode cX12_tick 88 = .ok (.goto 4, 3) := by decide +kernel
theorem dX12_tick_91 : decode cX12_tick 91 = .ok (.lload_n 3, 1) := by decide +kernel
theorem dX12_tick_92 : decode cX12_tick 92 = .ok (.lstore_n 3, 1) := by decide +kernel
theorem dX12_tick_93 : decode cX12_tick 93 = .ok (.iinc 5 1, 3) := by decide +kernel
theorem dX12_tick_96 : decode cX12_tick 96 = .ok (.goto (-56), 3) := by decide +kernel
theorem dX12_tick_99 : decode cX12_tick 99 = .ok (.aload_n 0, 1) := by decide +kernel
theorem dX12_tick_100 : decode cX12_tick 100 = .ok (.lload_n 3, 1) := by decide +kernel
theorem dX12_tick_101 : decode cX12_tick 101 = .ok (.l2i, 1) := by decide +kernel
theorem dX12_tick_102 : decode cX12_tick 102 = .ok (.putfield 548, 3) := by decide +kernel
theorem dX12_tick_105 : decode cX12_tick 105 = .ok (.aload_n 0, 1) := by decide +kernel
theorem dX12_tick_106 : decode cX12_tick 106 = .ok (.aload_n 0, 1) := by decide +kernel
theorem dX12_tick_107 : decode cX12_tick 107 = .ok (.getfield 548, 3) := by decide +kernel
theorem dX12_tick_110 : decode cX12_tick 110 = .ok (.i2l, 1) := by decide +kernel
theorem dX12_tick_111 : decode cX12_tick 111 = .ok (.invokevirtual 690, 3) := by decide +kernel
theorem dX12_tick_114 : decode cX12_tick 114 = .ok (.istore 5, 2) := by decide +kernel
theorem dX12_tick_116 : decode cX12_tick 116 = .ok (.iload 5, 2) := by decide +kernel
theorem dX12_tick_118 : decode cX12_tick 118 = .ok (.ifCond .lt 31, 3) := by decide +kernel
theorem dX12_tick_121 : decode cX12_tick 121 = .ok (.aload_n 0, 1) := by decide +kernel
theorem dX12_tick_122 : decode cX12_tick 122 = .ok (.iload 5, 2) := by decide +kernel
theorem dX12_tick_124 : decode cX12_tick 124 = .ok (.invokevirtual 587, 3) := by decide +kernel
theorem dX12_tick_127 : decode cX12_tick 127 = .ok (.aload_n 0, 1) := by decide +kernel
theorem dX12_tick_128 : decode cX12_tick 128 = .ok (.iload 5, 2) := by decide +kernel
theorem dX12_tick_130 : decode cX12_tick 130 = .ok (.iconst 1, 1) := by decide +kernel
theorem dX12_tick_131 : decode cX12_tick 131 = .ok (.iconst 0, 1) := by decide +kernel
theorem dX12_tick_132 : decode cX12_tick 132 = .ok (.invokevirtual 572, 3) := by decide +kernel
theorem dX12_tick_135 : decode cX12_tick 135 = .ok (.aload_n 0, 1) := by decide +kernel
theorem dX12_tick_136 : decode cX12_tick 136 = .ok (.aload_n 0, 1) := by decide +kernel
theorem dX12_tick_137 : decode cX12_tick 137 = .ok (.getfield 548, 3) := by decide +kernel
theorem dX12_tick_140 : decode cX12_tick 140 = .ok (.i2l, 1) := by decide +kernel
theorem dX12_tick_141 : decode cX12_tick 141 = .ok (.invokevirtual 690, 3) := by decide +kernel
theorem dX12_tick_144 : decode cX12_tick 144 = .ok (.istore 5, 2) := by decide +kernel
theorem dX12_tick_146 : decode cX12_tick 146 = .ok (.goto (-30), 3) := by decide +kernel
theorem dX12_tick_149 : decode cX12_tick 149 = .ok (.goto (-124), 3) := by decide +kernel
theorem dX12_tick_152 : decode cX12_tick 152 = .ok (.aload_n 0, 1) := by decide +kernel
theorem dX12_tick_153 : decode cX12_tick 153 = .ok (.iload_n 2, 1) := by decide +kernel
theorem dX12_tick_154 : decode cX12_tick 154 = .ok (.putfield 548, 3) := by decide +kernel
theorem dX12_tick_157 : decode cX12_tick 157 = .ok (.aload_n 0, 1) := by decide +kernel
theorem dX12_tick_158 : decode cX12_tick 158 = .ok (.getfield 548, 3) := by decide +kernel
theorem dX12_tick_161 : decode cX12_tick 161 = .ok (.ireturn, 1) := by decide +kernel
theorem dX12_turn_0 : decode cX12_turn 0 = .ok (.aload_n 0, 1) := by decide +kernel
theorem dX12_turn_1 : decode cX12_turn 1 = .ok (.iconst 0, 1) := by decide +kernel
theorem dX12_turn_2 : decode cX12_turn 2 = .ok (.putfield 1, 3) := by decide +kernel
theorem dX12_turn_5 : decode cX12_turn 5 = .ok (.iload_n 1, 1) := by decide +kernel
theorem dX12_turn_6 : decode cX12_turn 6 = .ok (.ifCond .lt 11, 3) := by decide +kernel
theorem dX12_turn_9 : decode cX12_turn 9 = .ok (.iload_n 1, 1) := by decide +kernel
theorem dX12_turn_10 : decode cX12_turn 10 = .ok (.aload_n 0, 1) := by decide +kernel
theorem dX12_turn_11 : decode cX12_turn 11 = .ok (.getfield 545, 3) := by decide +kernel
theorem dX12_turn_14 : decode cX12_turn 14 = .ok (.if_icmp .lt 5, 3) := by decide +kernel
theorem dX12_turn_17 : decode cX12_turn 17 = .ok (.iconst (-1), 1) := by decide +kernel
theorem dX12_turn_18 : decode cX12_turn 18 = .ok (.ireturn, 1) := by decide +kernel
theorem dX12_turn_19 : decode cX12_turn 19 = .ok (.aload_n 0, 1) := by decide +kernel
theorem dX12_turn_20 : decode cX12_turn 20 = .ok (.getfield 252, 3) := by decide +kernel
theorem dX12_turn_23 : decode cX12_turn 23 = .ok (.iload_n 1, 1) := by decide +kernel
theorem dX12_turn_24 : decode cX12_turn 24 = .ok (.iaload, 1) := by decide +kernel
theorem dX12_turn_25 : decode cX12_turn 25 = .ok (.istore_n 2, 1) := by decide +kernel
theorem dX12_turn_26 : decode cX12_turn 26 = .ok (.aload_n 0, 1) := by decide +kernel
theorem dX12_turn_27 : decode cX12_turn 27 = .ok (.iload_n 1, 1) := by decide +kernel
theorem dX12_turn_28 : decode cX12_turn 28 = .ok (.invokevirtual 590, 3) := by decide +kernel
theorem dX12_turn_31 : decode cX12_turn 31 = .ok (.aload_n 0, 1) := by decide +kernel
theorem dX12_turn_32 : decode cX12_turn 32 = .ok (.iload_n 2, 1) := by decide +kernel
theorem dX12_turn_33 : decode cX12_turn 33 = .ok (.invokevirtual 687, 3) := by decide +kernel
theorem dX12_turn_36 : decode cX12_turn 36 = .ok (.iload_n 2, 1) := by decide +kernel
theorem dX12_turn_37 : decode cX12_turn 37 = .ok (.ireturn, 1) := by decide +kernel
def wp_rounds_20 (K : mS → Int32 → Prop) (k20 : Int32 × Int32 × mS → Prop) (x1 : Int32) (x2 : Int32) (S : mS) : Prop := ((x1 ≤ x2 → K S x2) ∧ (¬ x1 ≤ x2 → (((S.1 23) ≤ 0 → K S x2) ∧ (¬ (S.1 23) ≤ 0 → inR 0 200 ∧ ∀ z6 : Int32, z6 = S.2.1 73 (ix 0) → wp_outOfRow 0 S (fun (S7 : mS) => wp_runs z6 S7 (fun (S8 : mS) => ∀ z9 : Int32, z9 = x2 + 1 → k20 (x1, z9, S8)))))))
def ls_rounds_20 (K : mS → Int32 → Prop) (k20 : Int32 × Int32 × mS → Prop) (u : Int32 × Int32 × mS) : Prop := wp_rounds_20 K k20 u.1 u.2.1 u.2.2
def wp_rounds (a0 : Int32) (S : mS) (K : mS → Int32 → Prop) : Prop := ∀ S1 : mS, S1 = sZ S 0 0 → ((a0 < 0 → K S1 (-1)) ∧ (¬ a0 < 0 → ((a0 ≤ 400 → (∃ n9, it (ls_rounds_20 K) n9 (a0, 0, S1))) ∧ (¬ a0 ≤ 400 → K S1 (-1)))))
theorem cw_X12_runs {R : Room} {s : State} {args : Array Value} {fr lo : Nat} (hts : ∀ w ∈ tb, w.before args s = true) (h1 : fr + 1 ≤ R.frames) (h2 : 8 + (4 + 11) + lo ≤ R.locals) : CallW R s args RX12 RX12 687 yX12_runs cX12_runs 4 none (.code yX12_runs cX12_runs 4 none :: tb) (mRm fr lo) 0 0 1 := cwV 1 hts (gd_V wd_2050 wd_2052 sl_X12_runs wd_15 wd_2053) rfl rfl rfl (by decide +kernel) ⟨h1, h2⟩
set_option maxHeartbeats 4000000 in
set_option maxRecDepth 100000 in
theorem ct_rounds (l : Launch) (S : mS) (a0 : Int32) (K : mS → Int32 → Prop) (h : wp_rounds a0 S K) : mMi l yX12_rounds cX12_rounds 4 (some .int) 702 16843 (fun E => [.int a0]) S K := by
  refine mv_ofi (by decide) rfl (fun _ => Nat.le_of_ble_eq_true rfl) ?_
  intro E p e R s m args below meth c A ls Q hRf hRl hX hC hl hret
  have hx := hX.1.1
  have hb := hX.1.2.1
  have hown := hX.1.2.2.2.1
  have hts := hX.1.2.2.2.2
  have cut20 : ∀ (n20 : Nat) (x1 : Int32) (x2 : Int32) (S : mS) (H : Heap) (locs : List Loc) (ls : Array Slot), it (ls_rounds_20 K) n20 (x1, x2, S) → mC E A s.heap S H locs → lv_has ls 4 [(0, .ref E.2.1), (1, .int x1), (2, .int x2)] → W p l e R s m args below meth c H locs 0 0 Q (F0 m 20 ls []) := by
    intro n20
    induction n20 with
    | zero => intro x1 x2 S H locs ls h hC hl; exact h.elim
    | succ n20 ih20 =>
      intro x1 x2 S H locs ls h hC hl
      have h : wp_rounds_20 K (it (ls_rounds_20 K) n20) x1 x2 S := h
      unfold wp_rounds_20 at h
      refine lv_iload_n hx hb dX12_rounds_20 rfl (lv_at hl 2 rfl) ?_
      refine lv_iload_n hx hb dX12_rounds_21 rfl (lv_at hl 1 rfl) ?_
      refine lv_icmp_ge (tgt := 55) hx hb dX12_rounds_22 (by decide) (fun c4 => ?_) (fun c4 => ?_)
      · have h := h.1 c4
        refine lv_iload_n hx hb dX12_rounds_55 rfl (lv_at hl 2 rfl) ?_
        exact hret _ _ _ _ _ _ hC h dX12_rounds_56
      · have h := h.2 c4
        refine lv_aload_n hx hb dX12_rounds_25 rfl (lv_at hl 0 rfl) ?_
        refine mv_get (v := .int (S.1 23)) hX hC 98 (Nat.le_of_ble_eq_true rfl) wd_1498 rfl dX12_rounds_26 ?_
        refine lv_if_le (tgt := 55) hx hb dX12_rounds_29 (by decide) (fun c5 => ?_) (fun c5 => ?_)
        · have h := h.1 c5
          refine lv_iload_n hx hb dX12_rounds_55 rfl (lv_at hl 2 rfl) ?_
          exact hret _ _ _ _ _ _ hC h dX12_rounds_56
        · have h := h.2 c5
          refine lv_aload_n hx hb dX12_rounds_32 rfl (lv_at hl 0 rfl) ?_
          refine mv_get (v := .ref (E.2.2.1 73)) hX hC 97 (Nat.le_of_ble_eq_true rfl) wd_1497 rfl dX12_rounds_33 ?_
          refine lv_iconst (v := 0) hx hb dX12_rounds_36 (by decide) ?_
          refine mq_ild (n := 200) hX hC 73 rfl rfl dX12_rounds_37 h (fun z6 h => ?_)
          refine lv_istore_n (lv' := [(3, .int z6), (0, .ref E.2.1), (1, .int x1), (2, .int x2)]) hx hb dX12_rounds_38 rfl hl (by decide) rfl (fun ls hl => ?_)
          refine lv_aload_n hx hb dX12_rounds_39 rfl (lv_at hl 1 rfl) ?_
          refine lv_iconst (v := 0) hx hb dX12_rounds_40 (by decide) ?_
          refine mv_callv [.int 0] (rest := []) hX hC (ct_outOfRow l S 0 _ h E _) (cw_X12_outOfRow hts (by omega) (by omega)) rfl hl.1 (Nat.le_of_ble_eq_true rfl) ⟨Nat.zero_le _, Nat.zero_le _⟩ dX12_rounds_41 (fun S7 H locs hC h => ?_)
          refine lv_aload_n hx hb dX12_rounds_44 rfl (lv_at hl 1 rfl) ?_
          refine lv_iload_n hx hb dX12_rounds_45 rfl (lv_at hl 0 rfl) ?_
          refine mv_callv [.int z6] (rest := []) hX hC (ct_runs l S7 z6 _ h E _) (cw_X12_runs hts (by omega) (by omega)) rfl hl.1 (Nat.le_of_ble_eq_true rfl) ⟨Nat.zero_le _, Nat.zero_le _⟩ dX12_rounds_46 (fun S8 H locs hC h => ?_)
          obtain ⟨z9, ez9⟩ : ∃ y : Int32, y = x2 + 1 := ⟨_, rfl⟩
          have h := h z9 ez9
          refine lv_iinc (v := z9) (lv' := [(2, .int z9), (3, .int z6), (0, .ref E.2.1), (1, .int x1)]) hx hb dX12_rounds_49 hl (k := 3) rfl (by rw [ez9]; rfl) (by decide) rfl (fun ls hl => ?_)
          refine lv_goto (tgt := 20) hx hb dX12_rounds_52 (by decide) ?_
          exact ih20 x1 z9 S8 _ _ _ h hC (lv_sub hl [2, 3, 0] rfl)
  have hl : lv_has ls 4 [(0, .ref E.2.1), (1, .int a0)] := hl
  unfold wp_rounds at h
  refine lv_aload_n hx hb dX12_rounds_0 rfl (lv_at hl 0 rfl) ?_
  refine lv_iconst (v := 0) hx hb dX12_rounds_1 (by decide) ?_
  refine mq_put (v := 0) hX hC 0 0 (Nat.le_of_ble_eq_true rfl) wd_1400 rfl rfl rfl mz_0 dX12_rounds_2 h (fun S1 H locs hC h => ?_)
  refine lv_iload_n hx hb dX12_rounds_5 rfl (lv_at hl 1 rfl) ?_
  refine lv_if_lt (tgt := 16) hx hb dX12_rounds_6 (by decide) (fun c2 => ?_) (fun c2 => ?_)
  · have h := h.1 c2
    refine lv_iconst (v := -1) hx hb dX12_rounds_16 (by decide) ?_
    exact hret _ _ _ _ _ _ hC h dX12_rounds_17
  · have h := h.2 c2
    refine lv_iload_n hx hb dX12_rounds_9 rfl (lv_at hl 1 rfl) ?_
    refine lv_sipush (v := 400) hx hb dX12_rounds_10 (by decide) ?_
    refine lv_icmp_le (tgt := 18) hx hb dX12_rounds_13 (by decide) (fun c3 => ?_) (fun c3 => ?_)
    · have h := h.1 c3
      refine lv_iconst (v := 0) hx hb dX12_rounds_18 (by decide) ?_
      refine lv_istore_n (lv' := [(2, .int 0), (0, .ref E.2.1), (1, .int a0)]) hx hb dX12_rounds_19 rfl hl (by decide) rfl (fun ls hl => ?_)
      obtain ⟨n9, h⟩ := h
      exact cut20 n9 a0 0 S1 _ _ _ h hC (lv_sub hl [1, 2, 0] rfl)
    · have h := h.2 c3
      refine lv_iconst (v := -1) hx hb dX12_rounds_16 (by decide) ?_
      exact hret _ _ _ _ _ _ hC h dX12_rounds_17
def wp_routine_32 (K : mS → Int32 → Prop) (x1 : Int32) (x2 : Int32) (y1 : Int32) (S : mS) : Prop := ∀ S6 : mS, S6 = sZ S 0 y1 → (((S6.1 0) ≤ 0 → ∀ z8 : Int32, z8 = 12 * (S6.1 5) → ∀ z9 : Int32, z9 = z8 + x1 → ((¬ x2 = 0 → ((¬ x2 = 1 → inR z9 24 ∧ ∀ z12 : Int32, z12 = S6.2.1 10 (ix z9) → ∀ z13 : Int32, z13 = z12 + 1 → K S6 z13) ∧ (x2 = 1 → inR z9 24 ∧ ∀ z14 : Int32, z14 = S6.2.1 8 (ix z9) → K S6 z14))) ∧ (x2 = 0 → inR z9 24 ∧ ∀ z15 : Int32, z15 = S6.2.1 7 (ix z9) → K S6 z15))) ∧ (¬ (S6.1 0) ≤ 0 → K S6 0))
def wp_routine_31 (K : mS → Int32 → Prop) (x1 : Int32) (x2 : Int32) (S : mS) : Prop := wp_routine_32 K x1 x2 1 S
def wp_routine (a0 : Int32) (a1 : Int32) (S : mS) (K : mS → Int32 → Prop) : Prop := ((a0 < 0 → wp_routine_31 K a0 a1 S) ∧ (¬ a0 < 0 → inR (S.1 5) 2 ∧ ∀ z2 : Int32, z2 = S.2.1 5 (ix (S.1 5)) → ((z2 ≤ a0 → wp_routine_31 K a0 a1 S) ∧ (¬ z2 ≤ a0 → ((a1 < 0 → wp_routine_31 K a0 a1 S) ∧ (¬ a1 < 0 → ((2 < a1 → wp_routine_31 K a0 a1 S) ∧ (¬ 2 < a1 → wp_routine_32 K a0 a1 0 S))))))))
set_option maxHeartbeats 4000000 in
set_option maxRecDepth 100000 in
theorem ct_routine (l : Launch) (S : mS) (a0 : Int32) (a1 : Int32) (K : mS → Int32 → Prop) (h : wp_routine a0 a1 S K) : mMi l yX12_routine cX12_routine 4 (some .int) 0 0 (fun E => [.int a0, .int a1]) S K := by
  refine mv_ofi (by decide) rfl (fun _ => Nat.le_of_ble_eq_true rfl) ?_
  intro E p e R s m args below meth c A ls Q hRf hRl hX hC hl hret
  have hx := hX.1.1
  have hb := hX.1.2.1
  have hown := hX.1.2.2.2.1
  have hts := hX.1.2.2.2.2
  have cut32 : ∀ (x1 : Int32) (x2 : Int32) (y1 : Int32) (S : mS) (H : Heap) (locs : List Loc) (ls : Array Slot), wp_routine_32 K x1 x2 y1 S → mC E A s.heap S H locs → lv_has ls 4 [(0, .ref E.2.1), (1, .int x1), (2, .int x2)] → W p l e R s m args below meth c H locs 0 0 Q (F0 m 32 ls [.int y1, .ref E.2.1]) := by
    intro x1 x2 y1 S H locs ls h hC hl
    unfold wp_routine_32 at h
    refine mq_put (v := y1) hX hC 0 0 (Nat.le_of_ble_eq_true rfl) wd_1400 rfl rfl rfl mz_0 dX12_routine_32 h (fun S6 H locs hC h => ?_)
    refine lv_aload_n hx hb dX12_routine_35 rfl (lv_at hl 0 rfl) ?_
    refine mv_get (v := .int (S6.1 0)) hX hC 0 (Nat.le_of_ble_eq_true rfl) wd_1400 rfl dX12_routine_36 ?_
    refine lv_if_le (tgt := 44) hx hb dX12_routine_39 (by decide) (fun c7 => ?_) (fun c7 => ?_)
    · have h := h.1 c7
      refine lv_bipush (v := 12) hx hb dX12_routine_44 (by decide) ?_
      refine lv_aload_n hx hb dX12_routine_46 rfl (lv_at hl 0 rfl) ?_
      refine mv_get (v := .int (S6.1 5)) hX hC 11 (Nat.le_of_ble_eq_true rfl) wd_1411 rfl dX12_routine_47 ?_
      refine lq_imul hx hb dX12_routine_50 h (fun z8 h => ?_)
      refine lv_iload_n hx hb dX12_routine_51 rfl (lv_at hl 1 rfl) ?_
      refine lq_iadd hx hb dX12_routine_52 h (fun z9 h => ?_)
      refine lv_istore_n (lv' := [(3, .int z9), (0, .ref E.2.1), (1, .int x1), (2, .int x2)]) hx hb dX12_routine_53 rfl hl (by decide) rfl (fun ls hl => ?_)
      refine lv_iload_n hx hb dX12_routine_54 rfl (lv_at hl 3 rfl) ?_
      refine lv_if_ne (tgt := 67) hx hb dX12_routine_55 (by decide) (fun c10 => ?_) (fun c10 => ?_)
      · have h := h.1 c10
        refine lv_iload_n hx hb dX12_routine_67 rfl (lv_at hl 3 rfl) ?_
        refine lv_iconst (v := 1) hx hb dX12_routine_68 (by decide) ?_
        refine lv_icmp_ne (tgt := 81) hx hb dX12_routine_69 (by decide) (fun c11 => ?_) (fun c11 => ?_)
        · have h := h.1 c11
          refine lv_aload_n hx hb dX12_routine_81 rfl (lv_at hl 1 rfl) ?_
          refine mv_get (v := .ref (E.2.2.1 10)) hX hC 18 (Nat.le_of_ble_eq_true rfl) wd_1418 rfl dX12_routine_82 ?_
          refine lv_iload_n hx hb dX12_routine_85 rfl (lv_at hl 0 rfl) ?_
          refine mq_ild (n := 24) hX hC 10 rfl rfl dX12_routine_86 h (fun z12 h => ?_)
          refine lv_iconst (v := 1) hx hb dX12_routine_87 (by decide) ?_
          refine lq_iadd hx hb dX12_routine_88 h (fun z13 h => ?_)
          exact hret _ _ _ _ _ _ hC h dX12_routine_89
        · have h := h.2 c11
          refine lv_aload_n hx hb dX12_routine_72 rfl (lv_at hl 1 rfl) ?_
          refine mv_get (v := .ref (E.2.2.1 8)) hX hC 16 (Nat.le_of_ble_eq_true rfl) wd_1416 rfl dX12_routine_73 ?_
          refine lv_iload_n hx hb dX12_routine_76 rfl (lv_at hl 0 rfl) ?_
          refine mq_ild (n := 24) hX hC 8 rfl rfl dX12_routine_77 h (fun z14 h => ?_)
          refine lv_goto (tgt := 89) hx hb dX12_routine_78 (by decide) ?_
          exact hret _ _ _ _ _ _ hC h dX12_routine_89
      · have h := h.2 c10
        refine lv_aload_n hx hb dX12_routine_58 rfl (lv_at hl 1 rfl) ?_
        refine mv_get (v := .ref (E.2.2.1 7)) hX hC 15 (Nat.le_of_ble_eq_true rfl) wd_1415 rfl dX12_routine_59 ?_
        refine lv_iload_n hx hb dX12_routine_62 rfl (lv_at hl 0 rfl) ?_
        refine mq_ild (n := 24) hX hC 7 rfl rfl dX12_routine_63 h (fun z15 h => ?_)
        refine lv_goto (tgt := 89) hx hb dX12_routine_64 (by decide) ?_
        exact hret _ _ _ _ _ _ hC h dX12_routine_89
    · have h := h.2 c7
      refine lv_iconst (v := 0) hx hb dX12_routine_42 (by decide) ?_
      exact hret _ _ _ _ _ _ hC h dX12_routine_43
  have cut31 : ∀ (x1 : Int32) (x2 : Int32) (S : mS) (H : Heap) (locs : List Loc) (ls : Array Slot), wp_routine_31 K x1 x2 S → mC E A s.heap S H locs → lv_has ls 4 [(0, .ref E.2.1), (1, .int x1), (2, .int x2)] → W p l e R s m args below meth c H locs 0 0 Q (F0 m 31 ls [.ref E.2.1]) := by
    intro x1 x2 S H locs ls h hC hl
    unfold wp_routine_31 at h
    refine lv_iconst (v := 1) hx hb dX12_routine_31 (by decide) ?_
    exact cut32 x1 x2 1 S _ _ _ h hC (lv_sub hl [0, 1, 2] rfl)
  have hl : lv_has ls 4 [(0, .ref E.2.1), (1, .int a0), (2, .int a1)] := hl
  unfold wp_routine at h
  refine lv_aload_n hx hb dX12_routine_0 rfl (lv_at hl 0 rfl) ?_
  refine lv_iload_n hx hb dX12_routine_1 rfl (lv_at hl 1 rfl) ?_
  refine lv_if_lt (tgt := 31) hx hb dX12_routine_2 (by decide) (fun c1 => ?_) (fun c1 => ?_)
  · have h := h.1 c1
    exact cut31 a0 a1 S _ _ _ h hC (lv_sub hl [0, 1, 2] rfl)
  · have h := h.2 c1
    refine lv_iload_n hx hb dX12_routine_5 rfl (lv_at hl 1 rfl) ?_
    refine lv_aload_n hx hb dX12_routine_6 rfl (lv_at hl 0 rfl) ?_
    refine mv_get (v := .ref (E.2.2.1 5)) hX hC 13 (Nat.le_of_ble_eq_true rfl) wd_1413 rfl dX12_routine_7 ?_
    refine lv_aload_n hx hb dX12_routine_10 rfl (lv_at hl 0 rfl) ?_
    refine mv_get (v := .int (S.1 5)) hX hC 11 (Nat.le_of_ble_eq_true rfl) wd_1411 rfl dX12_routine_11 ?_
    refine mq_ild (n := 2) hX hC 5 rfl rfl dX12_routine_14 h (fun z2 h => ?_)
    refine lv_icmp_ge (tgt := 31) hx hb dX12_routine_15 (by decide) (fun c3 => ?_) (fun c3 => ?_)
    · have h := h.1 c3
      exact cut31 a0 a1 S _ _ _ h hC (lv_sub hl [0, 1, 2] rfl)
    · have h := h.2 c3
      refine lv_iload_n hx hb dX12_routine_18 rfl (lv_at hl 2 rfl) ?_
      refine lv_if_lt (tgt := 31) hx hb dX12_routine_19 (by decide) (fun c4 => ?_) (fun c4 => ?_)
      · have h := h.1 c4
        exact cut31 a0 a1 S _ _ _ h hC (lv_sub hl [0, 1, 2] rfl)
      · have h := h.2 c4
        refine lv_iload_n hx hb dX12_routine_22 rfl (lv_at hl 2 rfl) ?_
        refine lv_iconst (v := 2) hx hb dX12_routine_23 (by decide) ?_
        refine lv_icmp_gt (tgt := 31) hx hb dX12_routine_24 (by decide) (fun c5 => ?_) (fun c5 => ?_)
        · have h := h.1 c5
          exact cut31 a0 a1 S _ _ _ h hC (lv_sub hl [0, 1, 2] rfl)
        · have h := h.2 c5
          refine lv_iconst (v := 0) hx hb dX12_routine_27 (by decide) ?_
          refine lv_goto (tgt := 32) hx hb dX12_routine_28 (by decide) ?_
          exact cut32 a0 a1 0 S _ _ _ h hC (lv_sub hl [0, 1, 2] rfl)
def wp_row (a0 : Int32) (S : mS) (K : mS → Int32 → Prop) : Prop := ∀ S1 : mS, S1 = sZ S 0 0 → ((a0 < 0 → K S1 (-1)) ∧ (¬ a0 < 0 → ((a0 < (S1.1 23) → inR a0 200 ∧ ∀ z4 : Int32, z4 = S1.2.1 73 (ix a0) → K S1 z4) ∧ (¬ a0 < (S1.1 23) → K S1 (-1)))))
set_option maxHeartbeats 4000000 in
set_option maxRecDepth 100000 in
theorem ct_row (l : Launch) (S : mS) (a0 : Int32) (K : mS → Int32 → Prop) (h : wp_row a0 S K) : mMi l yX12_row cX12_row 2 (some .int) 0 0 (fun E => [.int a0]) S K := by
  refine mv_ofi (by decide) rfl (fun _ => Nat.le_of_ble_eq_true rfl) ?_
  intro E p e R s m args below meth c A ls Q hRf hRl hX hC hl hret
  have hx := hX.1.1
  have hb := hX.1.2.1
  have hown := hX.1.2.2.2.1
  have hts := hX.1.2.2.2.2
  have hl : lv_has ls 2 [(0, .ref E.2.1), (1, .int a0)] := hl
  unfold wp_row at h
  refine lv_aload_n hx hb dX12_row_0 rfl (lv_at hl 0 rfl) ?_
  refine lv_iconst (v := 0) hx hb dX12_row_1 (by decide) ?_
  refine mq_put (v := 0) hX hC 0 0 (Nat.le_of_ble_eq_true rfl) wd_1400 rfl rfl rfl mz_0 dX12_row_2 h (fun S1 H locs hC h => ?_)
  refine lv_iload_n hx hb dX12_row_5 rfl (lv_at hl 1 rfl) ?_
  refine lv_if_lt (tgt := 17) hx hb dX12_row_6 (by decide) (fun c2 => ?_) (fun c2 => ?_)
  · have h := h.1 c2
    refine lv_iconst (v := -1) hx hb dX12_row_17 (by decide) ?_
    refine lv_goto (tgt := 27) hx hb dX12_row_18 (by decide) ?_
    exact hret _ _ _ _ _ _ hC h dX12_row_27
  · have h := h.2 c2
    refine lv_iload_n hx hb dX12_row_9 rfl (lv_at hl 1 rfl) ?_
    refine lv_aload_n hx hb dX12_row_10 rfl (lv_at hl 0 rfl) ?_
    refine mv_get (v := .int (S1.1 23)) hX hC 98 (Nat.le_of_ble_eq_true rfl) wd_1498 rfl dX12_row_11 ?_
    refine lv_icmp_lt (tgt := 21) hx hb dX12_row_14 (by decide) (fun c3 => ?_) (fun c3 => ?_)
    · have h := h.1 c3
      refine lv_aload_n hx hb dX12_row_21 rfl (lv_at hl 0 rfl) ?_
      refine mv_get (v := .ref (E.2.2.1 73)) hX hC 97 (Nat.le_of_ble_eq_true rfl) wd_1497 rfl dX12_row_22 ?_
      refine lv_iload_n hx hb dX12_row_25 rfl (lv_at hl 1 rfl) ?_
      refine mq_ild (n := 200) hX hC 73 rfl rfl dX12_row_26 h (fun z4 h => ?_)
      exact hret _ _ _ _ _ _ hC h dX12_row_27
    · have h := h.2 c3
      refine lv_iconst (v := -1) hx hb dX12_row_17 (by decide) ?_
      refine lv_goto (tgt := 27) hx hb dX12_row_18 (by decide) ?_
      exact hret _ _ _ _ _ _ hC h dX12_row_27
def wp_stands_69 (K : mS → Int32 → Prop) (k10 : Int32 × Int32 × Int32 × Int32 × mS → Prop) (x1 : Int32) (x2 : Int32) (x3 : Int32) (x4 : Int32) (S : mS) : Prop := ∀ z12 : Int32, z12 = x4 + 1 → k10 (x1, x2, x3, z12, S)
def wp_stands_10 (K : mS → Int32 → Prop) (k10 : Int32 × Int32 × Int32 × Int32 × mS → Prop) (x1 : Int32) (x2 : Int32) (x3 : Int32) (x4 : Int32) (S : mS) : Prop := (((S.1 30) ≤ x4 → K S (-1)) ∧ (¬ (S.1 30) ≤ x4 → ((x2 < 0 → K S (-1)) ∧ (¬ x2 < 0 → inR x4 100300 ∧ ∀ z4 : Int32, z4 = S.2.1 87 (ix x4) → inR z4 100300 ∧ ∀ z5 : Int32, z5 = S.2.1 80 (ix z4) → ((¬ z5 = 3 → wp_stands_69 K k10 x1 x2 x3 x4 S) ∧ (z5 = 3 → inR z4 100300 ∧ ∀ z7 : Int32, z7 = S.2.1 84 (ix z4) → ((¬ z7 = x1 → wp_stands_69 K k10 x1 x2 x3 x4 S) ∧ (z7 = x1 → ((¬ x3 = 0 → ∀ z10 : Int32, z10 = x3 + (-1) → wp_stands_69 K k10 x1 x2 z10 x4 S) ∧ (x3 = 0 → inR z4 100300 ∧ ∀ z11 : Int32, z11 = S.2.1 85 (ix z4) → K S z11))))))))))
def ls_stands_10 (K : mS → Int32 → Prop) (k10 : Int32 × Int32 × Int32 × Int32 × mS → Prop) (u : Int32 × Int32 × Int32 × Int32 × mS) : Prop := wp_stands_10 K k10 u.1 u.2.1 u.2.2.1 u.2.2.2.1 u.2.2.2.2
def wp_stands (a0 : Int32) (a1 : Int32) (S : mS) (K : mS → Int32 → Prop) : Prop := ∀ S1 : mS, S1 = sZ S 0 0 → (∃ n9, it (ls_stands_10 K) n9 (a0, a1, a1, 0, S1))
set_option maxHeartbeats 4000000 in
set_option maxRecDepth 100000 in
theorem ct_stands (l : Launch) (S : mS) (a0 : Int32) (a1 : Int32) (K : mS → Int32 → Prop) (h : wp_stands a0 a1 S K) : mMi l yX12_stands cX12_stands 6 (some .int) 0 0 (fun E => [.int a0, .int a1]) S K := by
  refine mv_ofi (by decide) rfl (fun _ => Nat.le_of_ble_eq_true rfl) ?_
  intro E p e R s m args below meth c A ls Q hRf hRl hX hC hl hret
  have hx := hX.1.1
  have hb := hX.1.2.1
  have hown := hX.1.2.2.2.1
  have hts := hX.1.2.2.2.2
  have cut10 : ∀ (n10 : Nat) (x1 : Int32) (x2 : Int32) (x3 : Int32) (x4 : Int32) (S : mS) (H : Heap) (locs : List Loc) (ls : Array Slot), it (ls_stands_10 K) n10 (x1, x2, x3, x4, S) → mC E A s.heap S H locs → lv_has ls 6 [(0, .ref E.2.1), (1, .int x1), (2, .int x2), (3, .int x3), (4, .int x4)] → W p l e R s m args below meth c H locs 0 0 Q (F0 m 10 ls []) := by
    intro n10
    induction n10 with
    | zero => intro x1 x2 x3 x4 S H locs ls h hC hl; exact h.elim
    | succ n10 ih10 =>
      have cut69 : ∀ (x1 : Int32) (x2 : Int32) (x3 : Int32) (x4 : Int32) (S : mS) (H : Heap) (locs : List Loc) (ls : Array Slot), wp_stands_69 K (it (ls_stands_10 K) n10) x1 x2 x3 x4 S → mC E A s.heap S H locs → lv_has ls 6 [(0, .ref E.2.1), (1, .int x1), (2, .int x2), (3, .int x3), (4, .int x4)] → W p l e R s m args below meth c H locs 0 0 Q (F0 m 69 ls []) := by
        intro x1 x2 x3 x4 S H locs ls h hC hl
        unfold wp_stands_69 at h
        obtain ⟨z12, ez12⟩ : ∃ y : Int32, y = x4 + 1 := ⟨_, rfl⟩
        have h := h z12 ez12
        refine lv_iinc (v := z12) (lv' := [(4, .int z12), (0, .ref E.2.1), (1, .int x1), (2, .int x2), (3, .int x3)]) hx hb dX12_stands_69 hl (k := 4) rfl (by rw [ez12]; rfl) (by decide) rfl (fun ls hl => ?_)
        refine lv_goto (tgt := 10) hx hb dX12_stands_72 (by decide) ?_
        exact ih10 x1 x2 x3 z12 S _ _ _ h hC (lv_sub hl [1, 2, 3, 4, 0] rfl)
      intro x1 x2 x3 x4 S H locs ls h hC hl
      have h : wp_stands_10 K (it (ls_stands_10 K) n10) x1 x2 x3 x4 S := h
      unfold wp_stands_10 at h
      refine lv_iload hx hb dX12_stands_10 (lv_at hl 4 rfl) ?_
      refine lv_aload_n hx hb dX12_stands_12 rfl (lv_at hl 0 rfl) ?_
      refine mv_get (v := .int (S.1 30)) hX hC 119 (Nat.le_of_ble_eq_true rfl) wd_1519 rfl dX12_stands_13 ?_
      refine lv_icmp_ge (tgt := 75) hx hb dX12_stands_16 (by decide) (fun c2 => ?_) (fun c2 => ?_)
      · have h := h.1 c2
        refine lv_iconst (v := -1) hx hb dX12_stands_75 (by decide) ?_
        exact hret _ _ _ _ _ _ hC h dX12_stands_76
      · have h := h.2 c2
        refine lv_iload_n hx hb dX12_stands_19 rfl (lv_at hl 2 rfl) ?_
        refine lv_if_lt (tgt := 75) hx hb dX12_stands_20 (by decide) (fun c3 => ?_) (fun c3 => ?_)
        · have h := h.1 c3
          refine lv_iconst (v := -1) hx hb dX12_stands_75 (by decide) ?_
          exact hret _ _ _ _ _ _ hC h dX12_stands_76
        · have h := h.2 c3
          refine lv_aload_n hx hb dX12_stands_23 rfl (lv_at hl 0 rfl) ?_
          refine mv_get (v := .ref (E.2.2.1 87)) hX hC 118 (Nat.le_of_ble_eq_true rfl) wd_1518 rfl dX12_stands_24 ?_
          refine lv_iload hx hb dX12_stands_27 (lv_at hl 4 rfl) ?_
          refine mq_ild (n := 100300) hX hC 87 rfl rfl dX12_stands_29 h (fun z4 h => ?_)
          refine lv_istore (lv' := [(5, .int z4), (0, .ref E.2.1), (1, .int x1), (2, .int x2), (3, .int x3), (4, .int x4)]) hx hb dX12_stands_30 hl (by decide) rfl (fun ls hl => ?_)
          refine lv_aload_n hx hb dX12_stands_32 rfl (lv_at hl 1 rfl) ?_
          refine mv_get (v := .ref (E.2.2.1 80)) hX hC 111 (Nat.le_of_ble_eq_true rfl) wd_1511 rfl dX12_stands_33 ?_
          refine lv_iload hx hb dX12_stands_36 (lv_at hl 0 rfl) ?_
          refine mq_ild (n := 100300) hX hC 80 rfl rfl dX12_stands_38 h (fun z5 h => ?_)
          refine lv_iconst (v := 3) hx hb dX12_stands_39 (by decide) ?_
          refine lv_icmp_ne (tgt := 69) hx hb dX12_stands_40 (by decide) (fun c6 => ?_) (fun c6 => ?_)
          · have h := h.1 c6
            exact cut69 x1 x2 x3 x4 S _ _ _ h hC (lv_sub hl [1, 2, 3, 4, 5] rfl)
          · have h := h.2 c6
            refine lv_aload_n hx hb dX12_stands_43 rfl (lv_at hl 1 rfl) ?_
            refine mv_get (v := .ref (E.2.2.1 84)) hX hC 115 (Nat.le_of_ble_eq_true rfl) wd_1515 rfl dX12_stands_44 ?_
            refine lv_iload hx hb dX12_stands_47 (lv_at hl 0 rfl) ?_
            refine mq_ild (n := 100300) hX hC 84 rfl rfl dX12_stands_49 h (fun z7 h => ?_)
            refine lv_iload_n hx hb dX12_stands_50 rfl (lv_at hl 2 rfl) ?_
            refine lv_icmp_ne (tgt := 69) hx hb dX12_stands_51 (by decide) (fun c8 => ?_) (fun c8 => ?_)
            · have h := h.1 c8
              exact cut69 x1 x2 x3 x4 S _ _ _ h hC (lv_sub hl [1, 2, 3, 4, 5] rfl)
            · have h := h.2 c8
              refine lv_iload_n hx hb dX12_stands_54 rfl (lv_at hl 4 rfl) ?_
              refine lv_if_ne (tgt := 66) hx hb dX12_stands_55 (by decide) (fun c9 => ?_) (fun c9 => ?_)
              · have h := h.1 c9
                obtain ⟨z10, ez10⟩ : ∃ y : Int32, y = x3 + (-1) := ⟨_, rfl⟩
                have h := h z10 ez10
                refine lv_iinc (v := z10) (lv' := [(3, .int z10), (5, .int z4), (0, .ref E.2.1), (1, .int x1), (2, .int x2), (4, .int x4)]) hx hb dX12_stands_66 hl (k := 4) rfl (by rw [ez10]; rfl) (by decide) rfl (fun ls hl => ?_)
                exact cut69 x1 x2 z10 x4 S _ _ _ h hC (lv_sub hl [2, 3, 4, 0, 5] rfl)
              · have h := h.2 c9
                refine lv_aload_n hx hb dX12_stands_58 rfl (lv_at hl 1 rfl) ?_
                refine mv_get (v := .ref (E.2.2.1 85)) hX hC 116 (Nat.le_of_ble_eq_true rfl) wd_1516 rfl dX12_stands_59 ?_
                refine lv_iload hx hb dX12_stands_62 (lv_at hl 0 rfl) ?_
                refine mq_ild (n := 100300) hX hC 85 rfl rfl dX12_stands_64 h (fun z11 h => ?_)
                exact hret _ _ _ _ _ _ hC h dX12_stands_65
  have hl : lv_has ls 6 [(0, .ref E.2.1), (1, .int a0), (2, .int a1)] := hl
  unfold wp_stands at h
  refine lv_aload_n hx hb dX12_stands_0 rfl (lv_at hl 0 rfl) ?_
  refine lv_iconst (v := 0) hx hb dX12_stands_1 (by decide) ?_
  refine mq_put (v := 0) hX hC 0 0 (Nat.le_of_ble_eq_true rfl) wd_1400 rfl rfl rfl mz_0 dX12_stands_2 h (fun S1 H locs hC h => ?_)
  refine lv_iload_n hx hb dX12_stands_5 rfl (lv_at hl 2 rfl) ?_
  refine lv_istore_n (lv' := [(3, .int a1), (0, .ref E.2.1), (1, .int a0), (2, .int a1)]) hx hb dX12_stands_6 rfl hl (by decide) rfl (fun ls hl => ?_)
  refine lv_iconst (v := 0) hx hb dX12_stands_7 (by decide) ?_
  refine lv_istore (lv' := [(4, .int 0), (3, .int a1), (0, .ref E.2.1), (1, .int a0), (2, .int a1)]) hx hb dX12_stands_8 hl (by decide) rfl (fun ls hl => ?_)
  obtain ⟨n9, h⟩ := h
  exact cut10 n9 a0 a1 a1 0 S1 _ _ _ h hC (lv_sub hl [2, 3, 4, 1, 0] rfl)
def wp_task_24 (K : mS → Int32 → Prop) (x1 : Int32) (x2 : Int32) (y1 : Int32) (S : mS) : Prop := ∀ S5 : mS, S5 = sZ S 0 y1 → (((S5.1 0) ≤ 0 → ((x2 = 0 → inR x1 200 ∧ ∀ z8 : Int32, z8 = S5.2.1 54 (ix x1) → K S5 z8) ∧ (¬ x2 = 0 → ((x2 = 1 → inR x1 200 ∧ ∀ z10 : Int32, z10 = S5.2.1 55 (ix x1) → K S5 z10) ∧ (¬ x2 = 1 → ((x2 = 2 → inR x1 200 ∧ ∀ z12 : Int32, z12 = S5.2.1 56 (ix x1) → K S5 z12) ∧ (¬ x2 = 2 → ((x2 = 3 → inR x1 200 ∧ ∀ z14 : Int32, z14 = S5.2.1 52 (ix x1) → K S5 z14) ∧ (¬ x2 = 3 → ((x2 = 4 → inR x1 200 ∧ ∀ z16 : Int32, z16 = S5.2.1 51 (ix x1) → K S5 z16) ∧ (¬ x2 = 4 → ((x2 = 5 → inR x1 200 ∧ ∀ z18 : Int32, z18 = S5.2.1 59 (ix x1) → K S5 z18) ∧ (¬ x2 = 5 → ((x2 = 6 → inR x1 200 ∧ ∀ z20 : Int32, z20 = S5.2.1 60 (ix x1) → K S5 z20) ∧ (¬ x2 = 6 → inR x1 200 ∧ ∀ z21 : Int32, z21 = S5.2.1 61 (ix x1) → ((z21 = 0 → K S5 0) ∧ (¬ z21 = 0 → K S5 1))))))))))))))))) ∧ (¬ (S5.1 0) ≤ 0 → K S5 0))
def wp_task_23 (K : mS → Int32 → Prop) (x1 : Int32) (x2 : Int32) (S : mS) : Prop := wp_task_24 K x1 x2 1 S
def wp_task (a0 : Int32) (a1 : Int32) (S : mS) (K : mS → Int32 → Prop) : Prop := wp_isTask a0 S (fun (S1 : mS) (r1 : Int32) => ((r1 = 0 → wp_task_23 K a0 a1 S1) ∧ (¬ r1 = 0 → ((a1 < 0 → wp_task_23 K a0 a1 S1) ∧ (¬ a1 < 0 → ((7 < a1 → wp_task_23 K a0 a1 S1) ∧ (¬ 7 < a1 → wp_task_24 K a0 a1 0 S1)))))))
set_option maxHeartbeats 4000000 in
set_option maxRecDepth 100000 in
theorem ct_task (l : Launch) (S : mS) (a0 : Int32) (a1 : Int32) (K : mS → Int32 → Prop) (h : wp_task a0 a1 S K) : mMi l yX12_task cX12_task 3 (some .int) 1 21 (fun E => [.int a0, .int a1]) S K := by
  refine mv_ofi (by decide) rfl (fun _ => Nat.le_of_ble_eq_true rfl) ?_
  intro E p e R s m args below meth c A ls Q hRf hRl hX hC hl hret
  have hx := hX.1.1
  have hb := hX.1.2.1
  have hown := hX.1.2.2.2.1
  have hts := hX.1.2.2.2.2
  have cut24 : ∀ (x1 : Int32) (x2 : Int32) (y1 : Int32) (S : mS) (H : Heap) (locs : List Loc) (ls : Array Slot), wp_task_24 K x1 x2 y1 S → mC E A s.heap S H locs → lv_has ls 3 [(0, .ref E.2.1), (1, .int x1), (2, .int x2)] → W p l e R s m args below meth c H locs 0 0 Q (F0 m 24 ls [.int y1, .ref E.2.1]) := by
    intro x1 x2 y1 S H locs ls h hC hl
    unfold wp_task_24 at h
    refine mq_put (v := y1) hX hC 0 0 (Nat.le_of_ble_eq_true rfl) wd_1400 rfl rfl rfl mz_0 dX12_task_24 h (fun S5 H locs hC h => ?_)
    refine lv_aload_n hx hb dX12_task_27 rfl (lv_at hl 0 rfl) ?_
    refine mv_get (v := .int (S5.1 0)) hX hC 0 (Nat.le_of_ble_eq_true rfl) wd_1400 rfl dX12_task_28 ?_
    refine lv_if_le (tgt := 36) hx hb dX12_task_31 (by decide) (fun c6 => ?_) (fun c6 => ?_)
    · have h := h.1 c6
      refine lv_iload_n hx hb dX12_task_36 rfl (lv_at hl 2 rfl) ?_
      rcases Decidable.em (x2 = 0) with c7 | c7
      · have h := h.1 c7
        refine lv_tableIn (tgt := 80) hx hb dX12_task_37 (by rw [c7]; decide) (by rw [c7]; decide) (by rw [c7]; rfl) (by decide) ?_
        refine lv_aload_n hx hb dX12_task_80 rfl (lv_at hl 0 rfl) ?_
        refine mv_get (v := .ref (E.2.2.1 54)) hX hC 78 (Nat.le_of_ble_eq_true rfl) wd_1478 rfl dX12_task_81 ?_
        refine lv_iload_n hx hb dX12_task_84 rfl (lv_at hl 1 rfl) ?_
        refine mq_ild (n := 200) hX hC 54 rfl rfl dX12_task_85 h (fun z8 h => ?_)
        exact hret _ _ _ _ _ _ hC h dX12_task_86
      have h := h.2 c7
      rcases Decidable.em (x2 = 1) with c9 | c9
      · have h := h.1 c9
        refine lv_tableIn (tgt := 87) hx hb dX12_task_37 (by rw [c9]; decide) (by rw [c9]; decide) (by rw [c9]; rfl) (by decide) ?_
        refine lv_aload_n hx hb dX12_task_87 rfl (lv_at hl 0 rfl) ?_
        refine mv_get (v := .ref (E.2.2.1 55)) hX hC 79 (Nat.le_of_ble_eq_true rfl) wd_1479 rfl dX12_task_88 ?_
        refine lv_iload_n hx hb dX12_task_91 rfl (lv_at hl 1 rfl) ?_
        refine mq_ild (n := 200) hX hC 55 rfl rfl dX12_task_92 h (fun z10 h => ?_)
        exact hret _ _ _ _ _ _ hC h dX12_task_93
      have h := h.2 c9
      rcases Decidable.em (x2 = 2) with c11 | c11
      · have h := h.1 c11
        refine lv_tableIn (tgt := 94) hx hb dX12_task_37 (by rw [c11]; decide) (by rw [c11]; decide) (by rw [c11]; rfl) (by decide) ?_
        refine lv_aload_n hx hb dX12_task_94 rfl (lv_at hl 0 rfl) ?_
        refine mv_get (v := .ref (E.2.2.1 56)) hX hC 80 (Nat.le_of_ble_eq_true rfl) wd_1480 rfl dX12_task_95 ?_
        refine lv_iload_n hx hb dX12_task_98 rfl (lv_at hl 1 rfl) ?_
        refine mq_ild (n := 200) hX hC 56 rfl rfl dX12_task_99 h (fun z12 h => ?_)
        exact hret _ _ _ _ _ _ hC h dX12_task_100
      have h := h.2 c11
      rcases Decidable.em (x2 = 3) with c13 | c13
      · have h := h.1 c13
        refine lv_tableIn (tgt := 101) hx hb dX12_task_37 (by rw [c13]; decide) (by rw [c13]; decide) (by rw [c13]; rfl) (by decide) ?_
        refine lv_aload_n hx hb dX12_task_101 rfl (lv_at hl 0 rfl) ?_
        refine mv_get (v := .ref (E.2.2.1 52)) hX hC 76 (Nat.le_of_ble_eq_true rfl) wd_1476 rfl dX12_task_102 ?_
        refine lv_iload_n hx hb dX12_task_105 rfl (lv_at hl 1 rfl) ?_
        refine mq_ild (n := 200) hX hC 52 rfl rfl dX12_task_106 h (fun z14 h => ?_)
        exact hret _ _ _ _ _ _ hC h dX12_task_107
      have h := h.2 c13
      rcases Decidable.em (x2 = 4) with c15 | c15
      · have h := h.1 c15
        refine lv_tableIn (tgt := 108) hx hb dX12_task_37 (by rw [c15]; decide) (by rw [c15]; decide) (by rw [c15]; rfl) (by decide) ?_
        refine lv_aload_n hx hb dX12_task_108 rfl (lv_at hl 0 rfl) ?_
        refine mv_get (v := .ref (E.2.2.1 51)) hX hC 75 (Nat.le_of_ble_eq_true rfl) wd_1475 rfl dX12_task_109 ?_
        refine lv_iload_n hx hb dX12_task_112 rfl (lv_at hl 1 rfl) ?_
        refine mq_ild (n := 200) hX hC 51 rfl rfl dX12_task_113 h (fun z16 h => ?_)
        exact hret _ _ _ _ _ _ hC h dX12_task_114
      have h := h.2 c15
      rcases Decidable.em (x2 = 5) with c17 | c17
      · have h := h.1 c17
        refine lv_tableIn (tgt := 115) hx hb dX12_task_37 (by rw [c17]; decide) (by rw [c17]; decide) (by rw [c17]; rfl) (by decide) ?_
        refine lv_aload_n hx hb dX12_task_115 rfl (lv_at hl 0 rfl) ?_
        refine mv_get (v := .ref (E.2.2.1 59)) hX hC 83 (Nat.le_of_ble_eq_true rfl) wd_1483 rfl dX12_task_116 ?_
        refine lv_iload_n hx hb dX12_task_119 rfl (lv_at hl 1 rfl) ?_
        refine mq_ild (n := 200) hX hC 59 rfl rfl dX12_task_120 h (fun z18 h => ?_)
        exact hret _ _ _ _ _ _ hC h dX12_task_121
      have h := h.2 c17
      rcases Decidable.em (x2 = 6) with c19 | c19
      · have h := h.1 c19
        refine lv_tableIn (tgt := 122) hx hb dX12_task_37 (by rw [c19]; decide) (by rw [c19]; decide) (by rw [c19]; rfl) (by decide) ?_
        refine lv_aload_n hx hb dX12_task_122 rfl (lv_at hl 0 rfl) ?_
        refine mv_get (v := .ref (E.2.2.1 60)) hX hC 84 (Nat.le_of_ble_eq_true rfl) wd_1484 rfl dX12_task_123 ?_
        refine lv_iload_n hx hb dX12_task_126 rfl (lv_at hl 1 rfl) ?_
        refine mq_ild (n := 200) hX hC 60 rfl rfl dX12_task_127 h (fun z20 h => ?_)
        exact hret _ _ _ _ _ _ hC h dX12_task_128
      have h := h.2 c19
      refine lv_tableOut (tgt := 129) hx hb dX12_task_37 (by have nc7 := lv_neT c7 (show (0 : Int32).toInt = 0 by decide); have nc9 := lv_neT c9 (show (1 : Int32).toInt = 1 by decide); have nc11 := lv_neT c11 (show (2 : Int32).toInt = 2 by decide); have nc13 := lv_neT c13 (show (3 : Int32).toInt = 3 by decide); have nc15 := lv_neT c15 (show (4 : Int32).toInt = 4 by decide); have nc17 := lv_neT c17 (show (5 : Int32).toInt = 5 by decide); have nc19 := lv_neT c19 (show (6 : Int32).toInt = 6 by decide); omega) (by decide) ?_
      refine lv_aload_n hx hb dX12_task_129 rfl (lv_at hl 0 rfl) ?_
      refine mv_get (v := .ref (E.2.2.1 61)) hX hC 85 (Nat.le_of_ble_eq_true rfl) wd_1485 rfl dX12_task_130 ?_
      refine lv_iload_n hx hb dX12_task_133 rfl (lv_at hl 1 rfl) ?_
      refine mq_zld (n := 200) hX hC 61 rfl rfl dX12_task_134 h (fun z21 h => ?_)
      refine lv_if_eq (tgt := 142) hx hb dX12_task_135 (by decide) (fun c22 => ?_) (fun c22 => ?_)
      · have h := h.1 c22
        refine lv_iconst (v := 0) hx hb dX12_task_142 (by decide) ?_
        exact hret _ _ _ _ _ _ hC h dX12_task_143
      · have h := h.2 c22
        refine lv_iconst (v := 1) hx hb dX12_task_138 (by decide) ?_
        refine lv_goto (tgt := 143) hx hb dX12_task_139 (by decide) ?_
        exact hret _ _ _ _ _ _ hC h dX12_task_143
    · have h := h.2 c6
      refine lv_iconst (v := 0) hx hb dX12_task_34 (by decide) ?_
      exact hret _ _ _ _ _ _ hC h dX12_task_35
  have cut23 : ∀ (x1 : Int32) (x2 : Int32) (S : mS) (H : Heap) (locs : List Loc) (ls : Array Slot), wp_task_23 K x1 x2 S → mC E A s.heap S H locs → lv_has ls 3 [(0, .ref E.2.1), (1, .int x1), (2, .int x2)] → W p l e R s m args below meth c H locs 0 0 Q (F0 m 23 ls [.ref E.2.1]) := by
    intro x1 x2 S H locs ls h hC hl
    unfold wp_task_23 at h
    refine lv_iconst (v := 1) hx hb dX12_task_23 (by decide) ?_
    exact cut24 x1 x2 1 S _ _ _ h hC (lv_sub hl [0, 1, 2] rfl)
  have hl : lv_has ls 3 [(0, .ref E.2.1), (1, .int a0), (2, .int a1)] := hl
  unfold wp_task at h
  refine lv_aload_n hx hb dX12_task_0 rfl (lv_at hl 0 rfl) ?_
  refine lv_aload_n hx hb dX12_task_1 rfl (lv_at hl 0 rfl) ?_
  refine lv_iload_n hx hb dX12_task_2 rfl (lv_at hl 1 rfl) ?_
  refine mv_calli [.int a0] (rest := [.ref E.2.1]) hX hC (ct_isTask l S a0 _ h E _) (cw_X12_isTask hts (by omega) (by omega)) rfl hl.1 (Nat.le_of_ble_eq_true rfl) ⟨Nat.zero_le _, Nat.zero_le _⟩ dX12_task_3 (fun r1 S1 H locs hC h => ?_)
  refine lv_if_eq (tgt := 23) hx hb dX12_task_6 (by decide) (fun c2 => ?_) (fun c2 => ?_)
  · have h := h.1 c2
    exact cut23 a0 a1 S1 _ _ _ h hC (lv_sub hl [0, 1, 2] rfl)
  · have h := h.2 c2
    refine lv_iload_n hx hb dX12_task_9 rfl (lv_at hl 2 rfl) ?_
    refine lv_if_lt (tgt := 23) hx hb dX12_task_10 (by decide) (fun c3 => ?_) (fun c3 => ?_)
    · have h := h.1 c3
      exact cut23 a0 a1 S1 _ _ _ h hC (lv_sub hl [0, 1, 2] rfl)
    · have h := h.2 c3
      refine lv_iload_n hx hb dX12_task_13 rfl (lv_at hl 2 rfl) ?_
      refine lv_bipush (v := 7) hx hb dX12_task_14 (by decide) ?_
      refine lv_icmp_gt (tgt := 23) hx hb dX12_task_16 (by decide) (fun c4 => ?_) (fun c4 => ?_)
      · have h := h.1 c4
        exact cut23 a0 a1 S1 _ _ _ h hC (lv_sub hl [0, 1, 2] rfl)
      · have h := h.2 c4
        refine lv_iconst (v := 0) hx hb dX12_task_19 (by decide) ?_
        refine lv_goto (tgt := 24) hx hb dX12_task_20 (by decide) ?_
        exact cut24 a0 a1 0 S1 _ _ _ h hC (lv_sub hl [0, 1, 2] rfl)
def wp_tick_116 (K : mS → Int32 → Prop) (k25 : Int32 × mS → Prop) (k116 : Int32 × Int32 × mS → Prop) (x2 : Int32) (x5 : Int32) (S : mS) : Prop := ((x5 < 0 → k25 (x2, S)) ∧ (¬ x5 < 0 → wp_standsNoMore x5 S (fun (S24 : mS) => wq_decides x5 1 0 S24 (fun (S25 : mS) => ∀ z26 : Int64, z26 = Int32.toInt64 (S25.1 24) → wp_due z26 S25 (fun (S27 : mS) (r27 : Int32) => k116 (x2, r27, S27))))))
def ls_tick_116 (K : mS → Int32 → Prop) (k25 : Int32 × mS → Prop) (k116 : Int32 × Int32 × mS → Prop) (u : Int32 × Int32 × mS) : Prop := wp_tick_116 K k25 k116 u.1 u.2.1 u.2.2
def wp_tick_92 (K : mS → Int32 → Prop) (k25 : Int32 × mS → Prop) (k40 : Int32 × Int64 × Int32 × mS → Prop) (x2 : Int32) (x5 : Int32) (y0 : Int64) (S : mS) : Prop := ∀ z22 : Int32, z22 = x5 + 1 → k40 (x2, y0, z22, S)
def wp_tick_91 (K : mS → Int32 → Prop) (k25 : Int32 × mS → Prop) (k40 : Int32 × Int64 × Int32 × mS → Prop) (x2 : Int32) (x3 : Int64) (x5 : Int32) (S : mS) : Prop := wp_tick_92 K k25 k40 x2 x5 x3 S
def wp_tick_40 (K : mS → Int32 → Prop) (k25 : Int32 × mS → Prop) (k40 : Int32 × Int64 × Int32 × mS → Prop) (x2 : Int32) (x3 : Int64) (x5 : Int32) (S : mS) : Prop := (((S.1 30) ≤ x5 → ∀ z11 : Int32, z11 = Int64.toInt32 x3 → ∀ S12 : mS, S12 = sZ S 24 z11 → ∀ z13 : Int64, z13 = Int32.toInt64 (S12.1 24) → wp_due z13 S12 (fun (S14 : mS) (r14 : Int32) => (∃ n9, it (ls_tick_116 K k25) n9 (x2, r14, S14)))) ∧ (¬ (S.1 30) ≤ x5 → inR x5 100300 ∧ ∀ z15 : Int32, z15 = S.2.1 87 (ix x5) → inR z15 100300 ∧ ∀ z16 : Int32, z16 = S.2.1 80 (ix z15) → ((¬ z16 = 4 → wp_tick_91 K k25 k40 x2 x3 x5 S) ∧ (z16 = 4 → inR z15 100300 ∧ ∀ z18 : Int64, z18 = S.2.2 86 (ix z15) → ∀ z19 : Int32, z19 = lg_cmp z18 x3 → ((0 ≤ z19 → wp_tick_91 K k25 k40 x2 x3 x5 S) ∧ (¬ 0 ≤ z19 → inR z15 100300 ∧ ∀ z21 : Int64, z21 = S.2.2 86 (ix z15) → wp_tick_92 K k25 k40 x2 x5 z21 S))))))
def ls_tick_40 (K : mS → Int32 → Prop) (k25 : Int32 × mS → Prop) (k40 : Int32 × Int64 × Int32 × mS → Prop) (u : Int32 × Int64 × Int32 × mS) : Prop := wp_tick_40 K k25 k40 u.1 u.2.1 u.2.2.1 u.2.2.2
def wp_tick_25 (K : mS → Int32 → Prop) (k25 : Int32 × mS → Prop) (x2 : Int32) (S : mS) : Prop := ∀ z5 : Int64, z5 = Int32.toInt64 x2 → wp_due z5 S (fun (S6 : mS) (r6 : Int32) => ((r6 < 0 → ∀ S8 : mS, S8 = sZ S6 24 x2 → K S8 (S8.1 24)) ∧ (¬ r6 < 0 → ∀ z9 : Int64, z9 = Int32.toInt64 x2 → (∃ n9, it (ls_tick_40 K k25) n9 (x2, z9, 0, S6)))))
def ls_tick_25 (K : mS → Int32 → Prop) (k25 : Int32 × mS → Prop) (u : Int32 × mS) : Prop := wp_tick_25 K k25 u.1 u.2
def wp_tick (a0 : Int32) (S : mS) (K : mS → Int32 → Prop) : Prop := ∀ S1 : mS, S1 = sZ S 0 0 → ((a0 < 0 → K S1 (-1)) ∧ (¬ a0 < 0 → ((a0 ≤ 10000 → ∀ z4 : Int32, z4 = (S1.1 24) + a0 → (∃ n9, it (ls_tick_25 K) n9 (z4, S1))) ∧ (¬ a0 ≤ 10000 → K S1 (-1)))))
theorem cw_X12_due {R : Room} {s : State} {args : Array Value} {fr lo : Nat} (hts : ∀ w ∈ tb, w.before args s = true) (h1 : fr + 1 ≤ R.frames) (h2 : 8 + (4 + 11) + lo ≤ R.locals) : CallW R s args RX12 RX12 690 yX12_due cX12_due 4 (some .int) (.code yX12_due cX12_due 4 (some .int) :: tb) (mRm fr lo) 0 0 1 := cwV 1 hts (gd_V wd_2155 wd_2157 sl_X12_due wd_15 wd_2158) rfl rfl rfl (by decide +kernel) ⟨h1, h2⟩
set_option maxHeartbeats 4000000 in
set_option maxRecDepth 100000 in
theorem ct_tick (l : Launch) (S : mS) (a0 : Int32) (K : mS → Int32 → Prop) (h : wp_tick a0 S K) : mMi l yX12_tick cX12_tick 7 (some .int) 694 16657 (fun E => [.int a0]) S K := by
  refine mv_ofi (by decide) rfl (fun _ => Nat.le_of_ble_eq_true rfl) ?_
  intro E p e R s m args below meth c A ls Q hRf hRl hX hC hl hret
  have hx := hX.1.1
  have hb := hX.1.2.1
  have hown := hX.1.2.2.2.1
  have hts := hX.1.2.2.2.2
  have cut25 : ∀ (n25 : Nat) (x2 : Int32) (S : mS) (H : Heap) (locs : List Loc) (ls : Array Slot), it (ls_tick_25 K) n25 (x2, S) → mC E A s.heap S H locs → lv_has ls 7 [(0, .ref E.2.1), (2, .int x2)] → W p l e R s m args below meth c H locs 0 0 Q (F0 m 25 ls []) := by
    intro n25
    induction n25 with
    | zero => intro x2 S H locs ls h hC hl; exact h.elim
    | succ n25 ih25 =>
      have cut116 : ∀ (n116 : Nat) (x2 : Int32) (x5 : Int32) (S : mS) (H : Heap) (locs : List Loc) (ls : Array Slot), it (ls_tick_116 K (it (ls_tick_25 K) n25)) n116 (x2, x5, S) → mC E A s.heap S H locs → lv_has ls 7 [(0, .ref E.2.1), (2, .int x2), (5, .int x5)] → W p l e R s m args below meth c H locs 0 0 Q (F0 m 116 ls []) := by
        intro n116
        induction n116 with
        | zero => intro x2 x5 S H locs ls h hC hl; exact h.elim
        | succ n116 ih116 =>
          intro x2 x5 S H locs ls h hC hl
          have h : wp_tick_116 K (it (ls_tick_25 K) n25) (it (ls_tick_116 K (it (ls_tick_25 K) n25)) n116) x2 x5 S := h
          unfold wp_tick_116 at h
          refine lv_iload hx hb dX12_tick_116 (lv_at hl 2 rfl) ?_
          refine lv_if_lt (tgt := 149) hx hb dX12_tick_118 (by decide) (fun c23 => ?_) (fun c23 => ?_)
          · have h := h.1 c23
            refine lv_goto (tgt := 25) hx hb dX12_tick_149 (by decide) ?_
            exact ih25 x2 S _ _ _ h hC (lv_sub hl [0, 1] rfl)
          · have h := h.2 c23
            refine lv_aload_n hx hb dX12_tick_121 rfl (lv_at hl 0 rfl) ?_
            refine lv_iload hx hb dX12_tick_122 (lv_at hl 2 rfl) ?_
            refine mv_callv [.int x5] (rest := []) hX hC (ct_standsNoMore l S x5 _ h E _) (cw_X12_standsNoMore hts (by omega) (by omega)) rfl hl.1 (Nat.le_of_ble_eq_true rfl) ⟨Nat.zero_le _, Nat.zero_le _⟩ dX12_tick_124 (fun S24 H locs hC h => ?_)
            refine lv_aload_n hx hb dX12_tick_127 rfl (lv_at hl 0 rfl) ?_
            refine lv_iload hx hb dX12_tick_128 (lv_at hl 2 rfl) ?_
            refine lv_iconst (v := 1) hx hb dX12_tick_130 (by decide) ?_
            refine lv_iconst (v := 0) hx hb dX12_tick_131 (by decide) ?_
            refine mv_callv [.int x5, .int 1, .int 0] (rest := []) hX hC (ct_decides l S24 x5 1 0 _ h E _) (cw_X12_decides hts (by omega) (by omega)) rfl hl.1 (Nat.le_of_ble_eq_true rfl) ⟨Nat.zero_le _, Nat.zero_le _⟩ dX12_tick_132 (fun S25 H locs hC h => ?_)
            refine lv_aload_n hx hb dX12_tick_135 rfl (lv_at hl 0 rfl) ?_
            refine lv_aload_n hx hb dX12_tick_136 rfl (lv_at hl 0 rfl) ?_
            refine mv_get (v := .int (S25.1 24)) hX hC 99 (Nat.le_of_ble_eq_true rfl) wd_1499 rfl dX12_tick_137 ?_
            refine lq_i2l hx hb dX12_tick_140 h (fun z26 h => ?_)
            refine mv_calli [.long z26] (rest := []) hX hC (ct_due l S25 z26 _ h E _) (cw_X12_due hts (by omega) (by omega)) rfl hl.1 (Nat.le_of_ble_eq_true rfl) ⟨Nat.zero_le _, Nat.zero_le _⟩ dX12_tick_141 (fun r27 S27 H locs hC h => ?_)
            refine lv_istore (lv' := [(5, .int r27), (0, .ref E.2.1), (2, .int x2)]) hx hb dX12_tick_144 hl (by decide) rfl (fun ls hl => ?_)
            refine lv_goto (tgt := 116) hx hb dX12_tick_146 (by decide) ?_
            exact ih116 x2 r27 S27 _ _ _ h hC (lv_sub hl [1, 2, 0] rfl)
      have cut40 : ∀ (n40 : Nat) (x2 : Int32) (x3 : Int64) (x5 : Int32) (S : mS) (H : Heap) (locs : List Loc) (ls : Array Slot), it (ls_tick_40 K (it (ls_tick_25 K) n25)) n40 (x2, x3, x5, S) → mC E A s.heap S H locs → lv_has ls 7 [(0, .ref E.2.1), (2, .int x2), (3, .long x3), (5, .int x5)] → W p l e R s m args below meth c H locs 0 0 Q (F0 m 40 ls []) := by
        intro n40
        induction n40 with
        | zero => intro x2 x3 x5 S H locs ls h hC hl; exact h.elim
        | succ n40 ih40 =>
          have cut92 : ∀ (x2 : Int32) (x5 : Int32) (y0 : Int64) (S : mS) (H : Heap) (locs : List Loc) (ls : Array Slot), wp_tick_92 K (it (ls_tick_25 K) n25) (it (ls_tick_40 K (it (ls_tick_25 K) n25)) n40) x2 x5 y0 S → mC E A s.heap S H locs → lv_has ls 7 [(0, .ref E.2.1), (2, .int x2), (5, .int x5)] → W p l e R s m args below meth c H locs 0 0 Q (F0 m 92 ls [.long y0]) := by
            intro x2 x5 y0 S H locs ls h hC hl
            unfold wp_tick_92 at h
            refine lv_lstore_n (lv' := [(3, .long y0), (0, .ref E.2.1), (2, .int x2), (5, .int x5)]) hx hb dX12_tick_92 rfl hl (by decide) rfl (fun ls hl => ?_)
            obtain ⟨z22, ez22⟩ : ∃ y : Int32, y = x5 + 1 := ⟨_, rfl⟩
            have h := h z22 ez22
            refine lv_iinc (v := z22) (lv' := [(5, .int z22), (3, .long y0), (0, .ref E.2.1), (2, .int x2)]) hx hb dX12_tick_93 hl (k := 3) rfl (by rw [ez22]; rfl) (by decide) rfl (fun ls hl => ?_)
            refine lv_goto (tgt := 40) hx hb dX12_tick_96 (by decide) ?_
            exact ih40 x2 y0 z22 S _ _ _ h hC (lv_sub hl [2, 3, 1, 0] rfl)
          have cut91 : ∀ (x2 : Int32) (x3 : Int64) (x5 : Int32) (S : mS) (H : Heap) (locs : List Loc) (ls : Array Slot), wp_tick_91 K (it (ls_tick_25 K) n25) (it (ls_tick_40 K (it (ls_tick_25 K) n25)) n40) x2 x3 x5 S → mC E A s.heap S H locs → lv_has ls 7 [(0, .ref E.2.1), (2, .int x2), (3, .long x3), (5, .int x5)] → W p l e R s m args below meth c H locs 0 0 Q (F0 m 91 ls []) := by
            intro x2 x3 x5 S H locs ls h hC hl
            unfold wp_tick_91 at h
            refine lv_lload_n hx hb dX12_tick_91 rfl (lv_at hl 2 rfl) ?_
            exact cut92 x2 x5 x3 S _ _ _ h hC (lv_sub hl [0, 1, 3] rfl)
          intro x2 x3 x5 S H locs ls h hC hl
          have h : wp_tick_40 K (it (ls_tick_25 K) n25) (it (ls_tick_40 K (it (ls_tick_25 K) n25)) n40) x2 x3 x5 S := h
          unfold wp_tick_40 at h
          refine lv_iload hx hb dX12_tick_40 (lv_at hl 3 rfl) ?_
          refine lv_aload_n hx hb dX12_tick_42 rfl (lv_at hl 0 rfl) ?_
          refine mv_get (v := .int (S.1 30)) hX hC 119 (Nat.le_of_ble_eq_true rfl) wd_1519 rfl dX12_tick_43 ?_
          refine lv_icmp_ge (tgt := 99) hx hb dX12_tick_46 (by decide) (fun c10 => ?_) (fun c10 => ?_)
          · have h := h.1 c10
            refine lv_aload_n hx hb dX12_tick_99 rfl (lv_at hl 0 rfl) ?_
            refine lv_lload_n hx hb dX12_tick_100 rfl (lv_at hl 2 rfl) ?_
            refine lq_l2i hx hb dX12_tick_101 h (fun z11 h => ?_)
            refine mq_put (v := z11) hX hC 99 24 (Nat.le_of_ble_eq_true rfl) wd_1499 rfl rfl rfl mz_24 dX12_tick_102 h (fun S12 H locs hC h => ?_)
            refine lv_aload_n hx hb dX12_tick_105 rfl (lv_at hl 0 rfl) ?_
            refine lv_aload_n hx hb dX12_tick_106 rfl (lv_at hl 0 rfl) ?_
            refine mv_get (v := .int (S12.1 24)) hX hC 99 (Nat.le_of_ble_eq_true rfl) wd_1499 rfl dX12_tick_107 ?_
            refine lq_i2l hx hb dX12_tick_110 h (fun z13 h => ?_)
            refine mv_calli [.long z13] (rest := []) hX hC (ct_due l S12 z13 _ h E _) (cw_X12_due hts (by omega) (by omega)) rfl hl.1 (Nat.le_of_ble_eq_true rfl) ⟨Nat.zero_le _, Nat.zero_le _⟩ dX12_tick_111 (fun r14 S14 H locs hC h => ?_)
            refine lv_istore (lv' := [(5, .int r14), (0, .ref E.2.1), (2, .int x2), (3, .long x3)]) hx hb dX12_tick_114 hl (by decide) rfl (fun ls hl => ?_)
            obtain ⟨n9, h⟩ := h
            exact cut116 n9 x2 r14 S14 _ _ _ h hC (lv_sub hl [1, 2, 0] rfl)
          · have h := h.2 c10
            refine lv_aload_n hx hb dX12_tick_49 rfl (lv_at hl 0 rfl) ?_
            refine mv_get (v := .ref (E.2.2.1 87)) hX hC 118 (Nat.le_of_ble_eq_true rfl) wd_1518 rfl dX12_tick_50 ?_
            refine lv_iload hx hb dX12_tick_53 (lv_at hl 3 rfl) ?_
            refine mq_ild (n := 100300) hX hC 87 rfl rfl dX12_tick_55 h (fun z15 h => ?_)
            refine lv_istore (lv' := [(6, .int z15), (0, .ref E.2.1), (2, .int x2), (3, .long x3), (5, .int x5)]) hx hb dX12_tick_56 hl (by decide) rfl (fun ls hl => ?_)
            refine lv_aload_n hx hb dX12_tick_58 rfl (lv_at hl 1 rfl) ?_
            refine mv_get (v := .ref (E.2.2.1 80)) hX hC 111 (Nat.le_of_ble_eq_true rfl) wd_1511 rfl dX12_tick_59 ?_
            refine lv_iload hx hb dX12_tick_62 (lv_at hl 0 rfl) ?_
            refine mq_ild (n := 100300) hX hC 80 rfl rfl dX12_tick_64 h (fun z16 h => ?_)
            refine lv_iconst (v := 4) hx hb dX12_tick_65 (by decide) ?_
            refine lv_icmp_ne (tgt := 91) hx hb dX12_tick_66 (by decide) (fun c17 => ?_) (fun c17 => ?_)
            · have h := h.1 c17
              exact cut91 x2 x3 x5 S _ _ _ h hC (lv_sub hl [1, 2, 3, 4] rfl)
            · have h := h.2 c17
              refine lv_aload_n hx hb dX12_tick_69 rfl (lv_at hl 1 rfl) ?_
              refine mv_get (v := .ref (E.2.2.1 86)) hX hC 117 (Nat.le_of_ble_eq_true rfl) wd_1517 rfl dX12_tick_70 ?_
              refine lv_iload hx hb dX12_tick_73 (lv_at hl 0 rfl) ?_
              refine mq_lld (n := 100300) hX hC 86 rfl rfl dX12_tick_75 h (fun z18 h => ?_)
              refine lv_lload_n hx hb dX12_tick_76 rfl (lv_at hl 3 rfl) ?_
              refine lq_lcmp hx hb dX12_tick_77 h (fun z19 h => ?_)
              refine lv_if_ge (tgt := 91) hx hb dX12_tick_78 (by decide) (fun c20 => ?_) (fun c20 => ?_)
              · have h := h.1 c20
                exact cut91 x2 x3 x5 S _ _ _ h hC (lv_sub hl [1, 2, 3, 4] rfl)
              · have h := h.2 c20
                refine lv_aload_n hx hb dX12_tick_81 rfl (lv_at hl 1 rfl) ?_
                refine mv_get (v := .ref (E.2.2.1 86)) hX hC 117 (Nat.le_of_ble_eq_true rfl) wd_1517 rfl dX12_tick_82 ?_
                refine lv_iload hx hb dX12_tick_85 (lv_at hl 0 rfl) ?_
                refine mq_lld (n := 100300) hX hC 86 rfl rfl dX12_tick_87 h (fun z21 h => ?_)
                refine lv_goto (tgt := 92) hx hb dX12_tick_88 (by decide) ?_
                exact cut92 x2 x5 z21 S _ _ _ h hC (lv_sub hl [1, 2, 4] rfl)
      intro x2 S H locs ls h hC hl
      have h : wp_tick_25 K (it (ls_tick_25 K) n25) x2 S := h
      unfold wp_tick_25 at h
      refine lv_aload_n hx hb dX12_tick_25 rfl (lv_at hl 0 rfl) ?_
      refine lv_iload_n hx hb dX12_tick_26 rfl (lv_at hl 1 rfl) ?_
      refine lq_i2l hx hb dX12_tick_27 h (fun z5 h => ?_)
      refine mv_calli [.long z5] (rest := []) hX hC (ct_due l S z5 _ h E _) (cw_X12_due hts (by omega) (by omega)) rfl hl.1 (Nat.le_of_ble_eq_true rfl) ⟨Nat.zero_le _, Nat.zero_le _⟩ dX12_tick_28 (fun r6 S6 H locs hC h => ?_)
      refine lv_if_lt (tgt := 152) hx hb dX12_tick_31 (by decide) (fun c7 => ?_) (fun c7 => ?_)
      · have h := h.1 c7
        refine lv_aload_n hx hb dX12_tick_152 rfl (lv_at hl 0 rfl) ?_
        refine lv_iload_n hx hb dX12_tick_153 rfl (lv_at hl 1 rfl) ?_
        refine mq_put (v := x2) hX hC 99 24 (Nat.le_of_ble_eq_true rfl) wd_1499 rfl rfl rfl mz_24 dX12_tick_154 h (fun S8 H locs hC h => ?_)
        refine lv_aload_n hx hb dX12_tick_157 rfl (lv_at hl 0 rfl) ?_
        refine mv_get (v := .int (S8.1 24)) hX hC 99 (Nat.le_of_ble_eq_true rfl) wd_1499 rfl dX12_tick_158 ?_
        exact hret _ _ _ _ _ _ hC h dX12_tick_161
      · have h := h.2 c7
        refine lv_iload_n hx hb dX12_tick_34 rfl (lv_at hl 1 rfl) ?_
        refine lq_i2l hx hb dX12_tick_35 h (fun z9 h => ?_)
        refine lv_lstore_n (lv' := [(3, .long z9), (0, .ref E.2.1), (2, .int x2)]) hx hb dX12_tick_36 rfl hl (by decide) rfl (fun ls hl => ?_)
        refine lv_iconst (v := 0) hx hb dX12_tick_37 (by decide) ?_
        refine lv_istore (lv' := [(5, .int 0), (3, .long z9), (0, .ref E.2.1), (2, .int x2)]) hx hb dX12_tick_38 hl (by decide) rfl (fun ls hl => ?_)
        obtain ⟨n9, h⟩ := h
        exact cut40 n9 x2 z9 0 S6 _ _ _ h hC (lv_sub hl [2, 3, 1, 0] rfl)
  have hl : lv_has ls 7 [(0, .ref E.2.1), (1, .int a0)] := hl
  unfold wp_tick at h
  refine lv_aload_n hx hb dX12_tick_0 rfl (lv_at hl 0 rfl) ?_
  refine lv_iconst (v := 0) hx hb dX12_tick_1 (by decide) ?_
  refine mq_put (v := 0) hX hC 0 0 (Nat.le_of_ble_eq_true rfl) wd_1400 rfl rfl rfl mz_0 dX12_tick_2 h (fun S1 H locs hC h => ?_)
  refine lv_iload_n hx hb dX12_tick_5 rfl (lv_at hl 1 rfl) ?_
  refine lv_if_lt (tgt := 16) hx hb dX12_tick_6 (by decide) (fun c2 => ?_) (fun c2 => ?_)
  · have h := h.1 c2
    refine lv_iconst (v := -1) hx hb dX12_tick_16 (by decide) ?_
    exact hret _ _ _ _ _ _ hC h dX12_tick_17
  · have h := h.2 c2
    refine lv_iload_n hx hb dX12_tick_9 rfl (lv_at hl 1 rfl) ?_
    refine lv_sipush (v := 10000) hx hb dX12_tick_10 (by decide) ?_
    refine lv_icmp_le (tgt := 18) hx hb dX12_tick_13 (by decide) (fun c3 => ?_) (fun c3 => ?_)
    · have h := h.1 c3
      refine lv_aload_n hx hb dX12_tick_18 rfl (lv_at hl 0 rfl) ?_
      refine mv_get (v := .int (S1.1 24)) hX hC 99 (Nat.le_of_ble_eq_true rfl) wd_1499 rfl dX12_tick_19 ?_
      refine lv_iload_n hx hb dX12_tick_22 rfl (lv_at hl 1 rfl) ?_
      refine lq_iadd hx hb dX12_tick_23 h (fun z4 h => ?_)
      refine lv_istore_n (lv' := [(2, .int z4), (0, .ref E.2.1), (1, .int a0)]) hx hb dX12_tick_24 rfl hl (by decide) rfl (fun ls hl => ?_)
      obtain ⟨n9, h⟩ := h
      exact cut25 n9 z4 S1 _ _ _ h hC (lv_sub hl [1, 0] rfl)
    · have h := h.2 c3
      refine lv_iconst (v := -1) hx hb dX12_tick_16 (by decide) ?_
      exact hret _ _ _ _ _ _ hC h dX12_tick_17
def wp_turn (a0 : Int32) (S : mS) (K : mS → Int32 → Prop) : Prop := ∀ S1 : mS, S1 = sZ S 0 0 → ((a0 < 0 → K S1 (-1)) ∧ (¬ a0 < 0 → ((a0 < (S1.1 23) → inR a0 200 ∧ ∀ z4 : Int32, z4 = S1.2.1 73 (ix a0) → wp_outOfRow a0 S1 (fun (S5 : mS) => wp_runs z4 S5 (fun (S6 : mS) => K S6 z4))) ∧ (¬ a0 < (S1.1 23) → K S1 (-1)))))
set_option maxHeartbeats 4000000 in
set_option maxRecDepth 100000 in
theorem ct_turn (l : Launch) (S : mS) (a0 : Int32) (K : mS → Int32 → Prop) (h : wp_turn a0 S K) : mMi l yX12_turn cX12_turn 3 (some .int) 702 16843 (fun E => [.int a0]) S K := by
  refine mv_ofi (by decide) rfl (fun _ => Nat.le_of_ble_eq_true rfl) ?_
  intro E p e R s m args below meth c A ls Q hRf hRl hX hC hl hret
  have hx := hX.1.1
  have hb := hX.1.2.1
  have hown := hX.1.2.2.2.1
  have hts := hX.1.2.2.2.2
  have hl : lv_has ls 3 [(0, .ref E.2.1), (1, .int a0)] := hl
  unfold wp_turn at h
  refine lv_aload_n hx hb dX12_turn_0 rfl (lv_at hl 0 rfl) ?_
  refine lv_iconst (v := 0) hx hb dX12_turn_1 (by decide) ?_
  refine mq_put (v := 0) hX hC 0 0 (Nat.le_of_ble_eq_true rfl) wd_1400 rfl rfl rfl mz_0 dX12_turn_2 h (fun S1 H locs hC h => ?_)
  refine lv_iload_n hx hb dX12_turn_5 rfl (lv_at hl 1 rfl) ?_
  refine lv_if_lt (tgt := 17) hx hb dX12_turn_6 (by decide) (fun c2 => ?_) (fun c2 => ?_)
  · have h := h.1 c2
    refine lv_iconst (v := -1) hx hb dX12_turn_17 (by decide) ?_
    exact hret _ _ _ _ _ _ hC h dX12_turn_18
  · have h := h.2 c2
    refine lv_iload_n hx hb dX12_turn_9 rfl (lv_at hl 1 rfl) ?_
    refine lv_aload_n hx hb dX12_turn_10 rfl (lv_at hl 0 rfl) ?_
    refine mv_get (v := .int (S1.1 23)) hX hC 98 (Nat.le_of_ble_eq_true rfl) wd_1498 rfl dX12_turn_11 ?_
    refine lv_icmp_lt (tgt := 19) hx hb dX12_turn_14 (by decide) (fun c3 => ?_) (fun c3 => ?_)
    · have h := h.1 c3
      refine lv_aload_n hx hb dX12_turn_19 rfl (lv_at hl 0 rfl) ?_
      refine mv_get (v := .ref (E.2.2.1 73)) hX hC 97 (Nat.le_of_ble_eq_true rfl) wd_1497 rfl dX12_turn_20 ?_
      refine lv_iload_n hx hb dX12_turn_23 rfl (lv_at hl 1 rfl) ?_
      refine mq_ild (n := 200) hX hC 73 rfl rfl dX12_turn_24 h (fun z4 h => ?_)
      refine lv_istore_n (lv' := [(2, .int z4), (0, .ref E.2.1), (1, .int a0)]) hx hb dX12_turn_25 rfl hl (by decide) rfl (fun ls hl => ?_)
      refine lv_aload_n hx hb dX12_turn_26 rfl (lv_at hl 1 rfl) ?_
      refine lv_iload_n hx hb dX12_turn_27 rfl (lv_at hl 2 rfl) ?_
      refine mv_callv [.int a0] (rest := []) hX hC (ct_outOfRow l S1 a0 _ h E _) (cw_X12_outOfRow hts (by omega) (by omega)) rfl hl.1 (Nat.le_of_ble_eq_true rfl) ⟨Nat.zero_le _, Nat.zero_le _⟩ dX12_turn_28 (fun S5 H locs hC h => ?_)
      refine lv_aload_n hx hb dX12_turn_31 rfl (lv_at hl 1 rfl) ?_
      refine lv_iload_n hx hb dX12_turn_32 rfl (lv_at hl 0 rfl) ?_
      refine mv_callv [.int z4] (rest := []) hX hC (ct_runs l S5 z4 _ h E _) (cw_X12_runs hts (by omega) (by omega)) rfl hl.1 (Nat.le_of_ble_eq_true rfl) ⟨Nat.zero_le _, Nat.zero_le _⟩ dX12_turn_33 (fun S6 H locs hC h => ?_)
      refine lv_iload_n hx hb dX12_turn_36 rfl (lv_at hl 0 rfl) ?_
      exact hret _ _ _ _ _ _ hC h dX12_turn_37
    · have h := h.2 c3
      refine lv_iconst (v := -1) hx hb dX12_turn_17 (by decide) ?_
      exact hret _ _ _ _ _ _ hC h dX12_turn_18
