theorem wd_1510 : (Jvm.Cond.fieldLink "SleepersModel" (560 : Nat) "SleepersModel" "nodes" "I") ∈ tb := tb_at 1510 (by decide +kernel) (by decide +kernel)
theorem wd_1521 : (Jvm.Cond.fieldLink "SleepersModel" (603 : Nat) "SleepersModel" "top" "I") ∈ tb := tb_at 1521 (by decide +kernel) (by decide +kernel)
theorem wd_1524 : (Jvm.Cond.fieldLink "SleepersModel" (606 : Nat) "SleepersModel" "isBeginning" "Z") ∈ tb := tb_at 1524 (by decide +kernel) (by decide +kernel)
theorem wd_1525 : (Jvm.Cond.fieldLink "SleepersModel" (657 : Nat) "SleepersModel" "root" "I") ∈ tb := tb_at 1525 (by decide +kernel) (by decide +kernel)
theorem wd_1526 : (Jvm.Cond.fieldLink "SleepersModel" (669 : Nat) "SleepersModel" "up" "I") ∈ tb := tb_at 1526 (by decide +kernel) (by decide +kernel)
theorem wd_1527 : (Jvm.Cond.fieldLink "SleepersModel" (660 : Nat) "SleepersModel" "behindWait" "I") ∈ tb := tb_at 1527 (by decide +kernel) (by decide +kernel)
theorem wd_2054 : (Jvm.Cond.methodLink "SleepersModel" (612 : Nat) ({ cls := "SleepersModel", name := "raise", desc := "(I)V" } : Jvm.MethodName)) ∈ tb := tb_at 2054 (by decide +kernel) (by decide +kernel)
theorem wd_2056 : (Jvm.Cond.instanceMethod ({ cls := "SleepersModel", name := "raise", desc := "(I)V" } : Jvm.MethodName)) ∈ tb := tb_at 2056 (by decide +kernel) (by decide +kernel)
theorem wd_2057 : (Jvm.Cond.code ({ cls := "SleepersModel", name := "raise", desc := "(I)V" } : Jvm.MethodName) prog_14_method_86_code (4 : Nat) (Option.none : Option Jvm.ClassFile.FieldType)) ∈ tb := tb_at 2057 (by decide +kernel) (by decide +kernel)
theorem wd_2062 : (Jvm.Cond.methodLink "SleepersModel" (615 : Nat) ({ cls := "SleepersModel", name := "raiseCancel", desc := "()V" } : Jvm.MethodName)) ∈ tb := tb_at 2062 (by decide +kernel) (by decide +kernel)
theorem wd_2064 : (Jvm.Cond.instanceMethod ({ cls := "SleepersModel", name := "raiseCancel", desc := "()V" } : Jvm.MethodName)) ∈ tb := tb_at 2064 (by decide +kernel) (by decide +kernel)
theorem wd_2065 : (Jvm.Cond.code ({ cls := "SleepersModel", name := "raiseCancel", desc := "()V" } : Jvm.MethodName) prog_14_method_87_code (2 : Nat) (Option.none : Option Jvm.ClassFile.FieldType)) ∈ tb := tb_at 2065 (by decide +kernel) (by decide +kernel)
theorem wd_2111 : (Jvm.Cond.methodLink "SleepersModel" (672 : Nat) ({ cls := "SleepersModel", name := "newNode", desc := "(III)I" } : Jvm.MethodName)) ∈ tb := tb_at 2111 (by decide +kernel) (by decide +kernel)
theorem wd_2113 : (Jvm.Cond.instanceMethod ({ cls := "SleepersModel", name := "newNode", desc := "(III)I" } : Jvm.MethodName)) ∈ tb := tb_at 2113 (by decide +kernel) (by decide +kernel)
theorem wd_2114 : (Jvm.Cond.code ({ cls := "SleepersModel", name := "newNode", desc := "(III)I" } : Jvm.MethodName) prog_14_method_88_code (5 : Nat) (Option.some Jvm.ClassFile.FieldType.int)) ∈ tb := tb_at 2114 (by decide +kernel) (by decide +kernel)
theorem wd_2123 : (Jvm.Cond.methodLink "SleepersModel" (654 : Nat) ({ cls := "SleepersModel", name := "failure", desc := "(I)V" } : Jvm.MethodName)) ∈ tb := tb_at 2123 (by decide +kernel) (by decide +kernel)
theorem wd_2125 : (Jvm.Cond.instanceMethod ({ cls := "SleepersModel", name := "failure", desc := "(I)V" } : Jvm.MethodName)) ∈ tb := tb_at 2125 (by decide +kernel) (by decide +kernel)
theorem wd_2126 : (Jvm.Cond.code ({ cls := "SleepersModel", name := "failure", desc := "(I)V" } : Jvm.MethodName) prog_14_method_79_code (2 : Nat) (Option.none : Option Jvm.ClassFile.FieldType)) ∈ tb := tb_at 2126 (by decide +kernel) (by decide +kernel)
theorem wd_2127 : (Jvm.Cond.methodLink "SleepersModel" (663 : Nat) ({ cls := "SleepersModel", name := "stops", desc := "(I)V" } : Jvm.MethodName)) ∈ tb := tb_at 2127 (by decide +kernel) (by decide +kernel)
theorem wd_2129 : (Jvm.Cond.instanceMethod ({ cls := "SleepersModel", name := "stops", desc := "(I)V" } : Jvm.MethodName)) ∈ tb := tb_at 2129 (by decide +kernel) (by decide +kernel)
theorem wd_2130 : (Jvm.Cond.code ({ cls := "SleepersModel", name := "stops", desc := "(I)V" } : Jvm.MethodName) prog_14_method_94_code (2 : Nat) (Option.none : Option Jvm.ClassFile.FieldType)) ∈ tb := tb_at 2130 (by decide +kernel) (by decide +kernel)
theorem sl_X12_failure : Cond.selects RX12 yX12_failure yX12_failure ∈ tb := sl_of (y := ⟨"SleepersModel", "failure", "(I)V"⟩) (n := 128) (by decide +kernel) (by decide +kernel)
theorem sl_X12_newNode : Cond.selects RX12 yX12_newNode yX12_newNode ∈ tb := sl_of (y := ⟨"SleepersModel", "newNode", "(III)I"⟩) (n := 128) (by decide +kernel) (by decide +kernel)
theorem sl_X12_raise : Cond.selects RX12 yX12_raise yX12_raise ∈ tb := sl_of (y := ⟨"SleepersModel", "raise", "(I)V"⟩) (n := 128) (by decide +kernel) (by decide +kernel)
theorem sl_X12_raiseCancel : Cond.selects RX12 yX12_raiseCancel yX12_raiseCancel ∈ tb := sl_of (y := ⟨"SleepersModel", "raiseCancel", "()V"⟩) (n := 128) (by decide +kernel) (by decide +kernel)
theorem sl_X12_stops : Cond.selects RX12 yX12_stops yX12_stops ∈ tb := sl_of (y := ⟨"SleepersModel", "stops", "(I)V"⟩) (n := 128) (by decide +kernel) (by decide +kernel)
theorem dX12_childNode_0 : decode cX12_childNode 0 = .ok (.aload_n 0, 1) := by decide +kernel
theorem dX12_childNode_1 : decode cX12_childNode 1 = .ok (.dup, 1) := by decide +kernel
theorem dX12_childNode_2 : decode cX12_childNode 2 = .ok (.getfield 603, 3) := by decide +kernel
theorem dX12_childNode_5 : decode cX12_childNode 5 = .ok (.iload_n 2, 1) := by decide +kernel
theorem dX12_childNode_6 : decode cX12_childNode 6 = .ok (.isub, 1) := by decide +kernel
theorem dX12_childNode_7 : decode cX12_childNode 7 = .ok (.putfield 603, 3) := by decide +kernel
theorem dX12_childNode_10 : decode cX12_childNode 10 = .ok (.aload_n 0, 1) := by decide +kernel
theorem dX12_childNode_11 : decode cX12_childNode 11 = .ok (.getfield 542, 3) := by decide +kernel
theorem dX12_childNode_14 : decode cX12_childNode 14 = .ok (.sipush 200, 3) := by decide +kernel
theorem dX12_childNode_17 : decode cX12_childNode 17 = .ok (.if_icmp .ne 10, 3) := by decide +kernel
theorem dX12_childNode_20 : decode cX12_childNode 20 = .ok (.aload_n 0, 1) := by decide +kernel
theorem dX12_childNode_21 : decode cX12_childNode 21 = .ok (.bipush 23, 2) := by decide +kernel
theorem dX12_childNode_23 : decode cX12_childNode 23 = .ok (.invokevirtual 654, 3) := by decide +kernel
theorem dX12_childNode_26 : decode cX12_childNode 26 = .ok (.return_, 1) := by decide +kernel
theorem dX12_childNode_27 : decode cX12_childNode 27 = .ok (.aload_n 0, 1) := by decide +kernel
theorem dX12_childNode_28 : decode cX12_childNode 28 = .ok (.bipush 6, 2) := by decide +kernel
theorem dX12_childNode_30 : decode cX12_childNode 30 = .ok (.iconst 0, 1) := by decide +kernel
theorem dX12_childNode_31 : decode cX12_childNode 31 = .ok (.aload_n 0, 1) := by decide +kernel
theorem dX12_childNode_32 : decode cX12_childNode 32 = .ok (.getfield 542, 3) := by decide +kernel
theorem dX12_childNode_35 : decode cX12_childNode 35 = .ok (.invokevirtual 672, 3) := by decide +kernel
theorem dX12_childNode_38 : decode cX12_childNode 38 = .ok (.istore_n 3, 1) := by decide +kernel
theorem dX12_childNode_39 : decode cX12_childNode 39 = .ok (.aload_n 0, 1) := by decide +kernel
theorem dX12_childNode_40 : decode cX12_childNode 40 = .ok (.iload_n 1, 1) := by decide +kernel
theorem dX12_childNode_41 : decode cX12_childNode 41 = .ok (.aload_n 0, 1) := by decide +kernel
theorem dX12_childNode_42 : decode cX12_childNode 42 = .ok (.getfield 600, 3) := by decide +kernel
theorem dX12_childNode_45 : decode cX12_childNode 45 = .ok (.iload_n 3, 1) := by decide +kernel
theorem dX12_childNode_46 : decode cX12_childNode 46 = .ok (.invokevirtual 569, 3) := by decide +kernel
theorem dX12_childNode_49 : decode cX12_childNode 49 = .ok (.istore 4, 2) := by decide +kernel
theorem dX12_childNode_51 : decode cX12_childNode 51 = .ok (.iconst 0, 1) := by decide +kernel
theorem dX12_childNode_52 : decode cX12_childNode 52 = .ok (.istore 5, 2) := by decide +kernel
theorem dX12_childNode_54 : decode cX12_childNode 54 = .ok (.iload 5, 2) := by decide +kernel
theorem dX12_childNode_56 : decode cX12_childNode 56 = .ok (.iload_n 2, 1) := by decide +kernel
theorem dX12_childNode_57 : decode cX12_childNode 57 = .ok (.if_icmp .ge 34, 3) := by decide +kernel
theorem dX12_childNode_60 : decode cX12_childNode 60 = .ok (.aload_n 0, 1) := by decide +kernel
theorem dX12_childNode_61 : decode cX12_childNode 61 = .ok (.getfield 207, 3) := by decide +kernel
theorem dX12_childNode_64 : decode cX12_childNode 64 = .ok (.bipush 12, 2) := by decide +kernel
theorem dX12_childNode_66 : decode cX12_childNode 66 = .ok (.iload 4, 2) := by decide +kernel
theorem dX12_childNode_68 : decode cX12_childNode 68 = .ok (.imul, 1) := by decide +kernel
theorem dX12_childNode_69 : decode cX12_childNode 69 = .ok (.iload 5, 2) := by decide +kernel
theorem dX12_childNode_71 : decode cX12_childNode 71 = .ok (.iadd, 1) := by decide +kernel
theorem dX12_childNode_72 : decode cX12_childNode 72 = .ok (.aload_n 0, 1) := by decide +kernel
theorem dX12_childNode_73 : decode cX12_childNode 73 = .ok (.getfield 298, 3) := by decide +kernel
theorem dX12_childNode_76 : decode cX12_childNode 76 = .ok (.aload_n 0, 1) := by decide +kernel
theorem dX12_childNode_77 : decode cX12_childNode 77 = .ok (.getfield 603, 3) := by decide +kernel
theorem dX12_childNode_80 : decode cX12_childNode 80 = .ok (.iload 5, 2) := by decide +kernel
theorem dX12_childNode_82 : decode cX12_childNode 82 = .ok (.iadd, 1) := by decide +kernel
theorem dX12_childNode_83 : decode cX12_childNode 83 = .ok (.iaload, 1) := by decide +kernel
theorem dX12_childNode_84 : decode cX12_childNode 84 = .ok (.iastore, 1) := by decide +kernel
theorem dX12_childNode_85 : decode cX12_childNode 85 = .ok (.iinc 5 1, 3) := by decide +kernel
theorem dX12_childNode_88 : decode cX12_childNode 88 = .ok (.goto (-34), 3) := by decide +kernel
theorem dX12_childNode_91 : decode cX12_childNode 91 = .ok (.aload_n 0, 1) := by decide +kernel
theorem dX12_childNode_92 : decode cX12_childNode 92 = .ok (.getfield 234, 3) := by decide +kernel
theorem dX12_childNode_95 : decode cX12_childNode 95 = .ok (.aload_n 0, 1) := by decide +kernel
theorem dX12_childNode_96 : decode cX12_childNode 96 = .ok (.getfield 600, 3) := by decide +kernel
theorem dX12_childNode_99 : decode cX12_childNode 99 = .ok (.dup2, 1) := by decide +kernel
theorem dX12_childNode_100 : decode cX12_childNode 100 = .ok (.iaload, 1) := by decide +kernel
theorem dX12_childNode_101 : decode cX12_childNode 101 = .ok (.iconst 1, 1) := by decide +kernel
theorem dX12_childNode_102 : decode cX12_childNode 102 = .ok (.iadd, 1) := by decide +kernel
theorem dX12_childNode_103 : decode cX12_childNode 103 = .ok (.iastore, 1) := by decide +kernel
theorem dX12_childNode_104 : decode cX12_childNode 104 = .ok (.return_, 1) := by decide +kernel
theorem dX12_failure_0 : decode cX12_failure 0 = .ok (.aload_n 0, 1) := by decide +kernel
theorem dX12_failure_1 : decode cX12_failure 1 = .ok (.getfield 606, 3) := by decide +kernel
theorem dX12_failure_4 : decode cX12_failure 4 = .ok (.ifCond .ne 9, 3) := by decide +kernel
theorem dX12_failure_7 : decode cX12_failure 7 = .ok (.aload_n 0, 1) := by decide +kernel
theorem dX12_failure_8 : decode cX12_failure 8 = .ok (.iload_n 1, 1) := by decide +kernel
theorem dX12_failure_9 : decode cX12_failure 9 = .ok (.invokevirtual 612, 3) := by decide +kernel
theorem dX12_failure_12 : decode cX12_failure 12 = .ok (.return_, 1) := by decide +kernel
theorem dX12_failure_13 : decode cX12_failure 13 = .ok (.aload_n 0, 1) := by decide +kernel
theorem dX12_failure_14 : decode cX12_failure 14 = .ok (.aload_n 0, 1) := by decide +kernel
theorem dX12_failure_15 : decode cX12_failure 15 = .ok (.getfield 657, 3) := by decide +kernel
theorem dX12_failure_18 : decode cX12_failure 18 = .ok (.aload_n 0, 1) := by decide +kernel
theorem dX12_failure_19 : decode cX12_failure 19 = .ok (.getfield 560, 3) := by decide +kernel
theorem dX12_failure_22 : decode cX12_failure 22 = .ok (.invokevirtual 581, 3) := by decide +kernel
theorem dX12_failure_25 : decode cX12_failure 25 = .ok (.aload_n 0, 1) := by decide +kernel
theorem dX12_failure_26 : decode cX12_failure 26 = .ok (.getfield 219, 3) := by decide +kernel
theorem dX12_failure_29 : decode cX12_failure 29 = .ok (.aload_n 0, 1) := by decide +kernel
theorem dX12_failure_30 : decode cX12_failure 30 = .ok (.getfield 600, 3) := by decide +kernel
theorem dX12_failure_33 : decode cX12_failure 33 = .ok (.iconst 2, 1) := by decide +kernel
theorem dX12_failure_34 : decode cX12_failure 34 = .ok (.iastore, 1) := by decide +kernel
theorem dX12_failure_35 : decode cX12_failure 35 = .ok (.aload_n 0, 1) := by decide +kernel
theorem dX12_failure_36 : decode cX12_failure 36 = .ok (.getfield 222, 3) := by decide +kernel
theorem dX12_failure_39 : decode cX12_failure 39 = .ok (.aload_n 0, 1) := by decide +kernel
theorem dX12_failure_40 : decode cX12_failure 40 = .ok (.getfield 600, 3) := by decide +kernel
theorem dX12_failure_43 : decode cX12_failure 43 = .ok (.iload_n 1, 1) := by decide +kernel
theorem dX12_failure_44 : decode cX12_failure 44 = .ok (.iastore, 1) := by decide +kernel
theorem dX12_failure_45 : decode cX12_failure 45 = .ok (.aload_n 0, 1) := by decide +kernel
theorem dX12_failure_46 : decode cX12_failure 46 = .ok (.aload_n 0, 1) := by decide +kernel
theorem dX12_failure_47 : decode cX12_failure 47 = .ok (.getfield 660, 3) := by decide +kernel
theorem dX12_failure_50 : decode cX12_failure 50 = .ok (.putfield 609, 3) := by decide +kernel
theorem dX12_failure_53 : decode cX12_failure 53 = .ok (.aload_n 0, 1) := by decide +kernel
theorem dX12_failure_54 : decode cX12_failure 54 = .ok (.iconst (-1), 1) := by decide +kernel
theorem dX12_failure_55 : decode cX12_failure 55 = .ok (.invokevirtual 663, 3) := by decide +kernel
theorem dX12_failure_58 : decode cX12_failure 58 = .ok (.return_, 1) := by decide +kernel
theorem dX12_newNode_0 : decode cX12_newNode 0 = .ok (.aload_n 0, 1) := by decide +kernel
theorem dX12_newNode_1 : decode cX12_newNode 1 = .ok (.getfield 560, 3) := by decide +kernel
theorem dX12_newNode_4 : decode cX12_newNode 4 = .ok (.istore 4, 2) := by decide +kernel
theorem dX12_newNode_6 : decode cX12_newNode 6 = .ok (.aload_n 0, 1) := by decide +kernel
theorem dX12_newNode_7 : decode cX12_newNode 7 = .ok (.dup, 1) := by decide +kernel
theorem dX12_newNode_8 : decode cX12_newNode 8 = .ok (.getfield 560, 3) := by decide +kernel
theorem dX12_newNode_11 : decode cX12_newNode 11 = .ok (.iconst 1, 1) := by decide +kernel
theorem dX12_newNode_12 : decode cX12_newNode 12 = .ok (.iadd, 1) := by decide +kernel
theorem dX12_newNode_13 : decode cX12_newNode 13 = .ok (.putfield 560, 3) := by decide +kernel
theorem dX12_newNode_16 : decode cX12_newNode 16 = .ok (.aload_n 0, 1) := by decide +kernel
theorem dX12_newNode_17 : decode cX12_newNode 17 = .ok (.getfield 274, 3) := by decide +kernel
theorem dX12_newNode_20 : decode cX12_newNode 20 = .ok (.iload 4, 2) := by decide +kernel
theorem dX12_newNode_22 : decode cX12_newNode 22 = .ok (.iload_n 1, 1) := by decide +kernel
theorem dX12_newNode_23 : decode cX12_newNode 23 = .ok (.iastore, 1) := by decide +kernel
theorem dX12_newNode_24 : decode cX12_newNode 24 = .ok (.aload_n 0, 1) := by decide +kernel
theorem dX12_newNode_25 : decode cX12_newNode 25 = .ok (.getfield 277, 3) := by decide +kernel
theorem dX12_newNode_28 : decode cX12_newNode 28 = .ok (.iload 4, 2) := by decide +kernel
theorem dX12_newNode_30 : decode cX12_newNode 30 = .ok (.aload_n 0, 1) := by decide +kernel
theorem dX12_newNode_31 : decode cX12_newNode 31 = .ok (.getfield 669, 3) := by decide +kernel
theorem dX12_newNode_34 : decode cX12_newNode 34 = .ok (.iastore, 1) := by decide +kernel
theorem dX12_newNode_35 : decode cX12_newNode 35 = .ok (.aload_n 0, 1) := by decide +kernel
theorem dX12_newNode_36 : decode cX12_newNode 36 = .ok (.getfield 280, 3) := by decide +kernel
theorem dX12_newNode_39 : decode cX12_newNode 39 = .ok (.iload 4, 2) := by decide +kernel
theorem dX12_newNode_41 : decode cX12_newNode 41 = .ok (.iload_n 1, 1) := by decide +kernel
theorem dX12_newNode_42 : decode cX12_newNode 42 = .ok (.iconst 3, 1) := by decide +kernel
theorem dX12_newNode_43 : decode cX12_newNode 43 = .ok (.if_icmp .ge 7, 3) := by decide +kernel
theorem dX12_newNode_46 : decode cX12_newNode 46 = .ok (.iconst 0, 1) := by decide +kernel
theorem dX12_newNode_47 : decode cX12_newNode 47 = .ok (.goto 7, 3) := by decide +kernel
theorem dX12_newNode_50 : decode cX12_newNode 50 = .ok (.iload 4, 2) := by decide +kernel
theorem dX12_newNode_52 : decode cX12_newNode 52 = .ok (.iconst 1, 1) := by decide +kernel
theorem dX12_newNode_53 : decode cX12_newNode 53 = .ok (.iadd, 1) := by decide +kernel
theorem dX12_newNode_54 : decode cX12_newNode 54 = .ok (.iastore, 1) := by decide +kernel
theorem dX12_newNode_55 : decode cX12_newNode 55 = .ok (.aload_n 0, 1) := by decide +kernel
theorem dX12_newNode_56 : decode cX12_newNode 56 = .ok (.getfield 283, 3) := by decide +kernel
theorem dX12_newNode_59 : decode cX12_newNode 59 = .ok (.iload 4, 2) := by decide +kernel
theorem dX12_newNode_61 : decode cX12_newNode 61 = .ok (.iload_n 2, 1) := by decide +kernel
theorem dX12_newNode_62 : decode cX12_newNode 62 = .ok (.iastore, 1) := by decide +kernel
theorem dX12_newNode_63 : decode cX12_newNode 63 = .ok (.aload_n 0, 1) := by decide +kernel
theorem dX12_newNode_64 : decode cX12_newNode 64 = .ok (.getfield 286, 3) := by decide +kernel
theorem dX12_newNode_67 : decode cX12_newNode 67 = .ok (.iload 4, 2) := by decide +kernel
theorem dX12_newNode_69 : decode cX12_newNode 69 = .ok (.iload_n 3, 1) := by decide +kernel
theorem dX12_newNode_70 : decode cX12_newNode 70 = .ok (.iastore, 1) := by decide +kernel
theorem dX12_newNode_71 : decode cX12_newNode 71 = .ok (.aload_n 0, 1) := by decide +kernel
theorem dX12_newNode_72 : decode cX12_newNode 72 = .ok (.getfield 289, 3) := by decide +kernel
theorem dX12_newNode_75 : decode cX12_newNode 75 = .ok (.iload 4, 2) := by decide +kernel
theorem dX12_newNode_77 : decode cX12_newNode 77 = .ok (.aload_n 0, 1) := by decide +kernel
theorem dX12_newNode_78 : decode cX12_newNode 78 = .ok (.getfield 600, 3) := by decide +kernel
theorem dX12_newNode_81 : decode cX12_newNode 81 = .ok (.iastore, 1) := by decide +kernel
theorem dX12_newNode_82 : decode cX12_newNode 82 = .ok (.iload_n 2, 1) := by decide +kernel
theorem dX12_newNode_83 : decode cX12_newNode 83 = .ok (.ifCond .ne 34, 3) := by decide +kernel
theorem dX12_newNode_86 : decode cX12_newNode 86 = .ok (.iload_n 1, 1) := by decide +kernel
theorem dX12_newNode_87 : decode cX12_newNode 87 = .ok (.iconst 3, 1) := by decide +kernel
theorem dX12_newNode_88 : decode cX12_newNode 88 = .ok (.if_icmp .eq 8, 3) := by decide +kernel
theorem dX12_newNode_91 : decode cX12_newNode 91 = .ok (.iload_n 1, 1) := by decide +kernel
theorem dX12_newNode_92 : decode cX12_newNode 92 = .ok (.iconst 4, 1) := by decide +kernel
theorem dX12_newNode_93 : decode cX12_newNode 93 = .ok (.if_icmp .ne 24, 3) := by decide +kernel
theorem dX12_newNode_96 : decode cX12_newNode 96 = .ok (.aload_n 0, 1) := by decide +kernel
theorem dX12_newNode_97 : decode cX12_newNode 97 = .ok (.getfield 295, 3) := by decide +kernel
theorem dX12_newNode_100 : decode cX12_newNode 100 = .ok (.aload_n 0, 1) := by decide +kernel
theorem dX12_newNode_101 : decode cX12_newNode 101 = .ok (.getfield 563, 3) := by decide +kernel
theorem dX12_newNode_104 : decode cX12_newNode 104 = .ok (.iload 4, 2) := by decide +kernel
theorem dX12_newNode_106 : decode cX12_newNode 106 = .ok (.iastore, 1) := by decide +kernel
theorem dX12_newNode_107 : decode cX12_newNode 107 = .ok (.aload_n 0, 1) := by decide +kernel
theorem dX12_newNode_108 : decode cX12_newNode 108 = .ok (.dup, 1) := by decide +kernel
theorem dX12_newNode_109 : decode cX12_newNode 109 = .ok (.getfield 563, 3) := by decide +kernel
theorem dX12_newNode_112 : decode cX12_newNode 112 = .ok (.iconst 1, 1) := by decide +kernel
theorem dX12_newNode_113 : decode cX12_newNode 113 = .ok (.iadd, 1) := by decide +kernel
theorem dX12_newNode_114 : decode cX12_newNode 114 = .ok (.putfield 563, 3) := by decide +kernel
theorem dX12_newNode_117 : decode cX12_newNode 117 = .ok (.iload 4, 2) := by decide +kernel
theorem dX12_newNode_119 : decode cX12_newNode 119 = .ok (.ireturn, 1) := by decide +kernel
theorem dX12_raise_0 : decode cX12_raise 0 = .ok (.aload_n 0, 1) := by decide +kernel
theorem dX12_raise_1 : decode cX12_raise 1 = .ok (.getfield 237, 3) := by decide +kernel
theorem dX12_raise_4 : decode cX12_raise 4 = .ok (.aload_n 0, 1) := by decide +kernel
theorem dX12_raise_5 : decode cX12_raise 5 = .ok (.getfield 600, 3) := by decide +kernel
theorem dX12_raise_8 : decode cX12_raise 8 = .ok (.iaload, 1) := by decide +kernel
theorem dX12_raise_9 : decode cX12_raise 9 = .ok (.ifCond .le 154, 3) := by decide +kernel
theorem dX12_raise_12 : decode cX12_raise 12 = .ok (.bipush 11, 2) := by decide +kernel
theorem dX12_raise_14 : decode cX12_raise 14 = .ok (.aload_n 0, 1) := by decide +kernel
theorem dX12_raise_15 : decode cX12_raise 15 = .ok (.getfield 600, 3) := by decide +kernel
theorem dX12_raise_18 : decode cX12_raise 18 = .ok (.imul, 1) := by decide +kernel
theorem dX12_raise_19 : decode cX12_raise 19 = .ok (.aload_n 0, 1) := by decide +kernel
theorem dX12_raise_20 : decode cX12_raise 20 = .ok (.getfield 237, 3) := by decide +kernel
theorem dX12_raise_23 : decode cX12_raise 23 = .ok (.aload_n 0, 1) := by decide +kernel
theorem dX12_raise_24 : decode cX12_raise 24 = .ok (.getfield 600, 3) := by decide +kernel
theorem dX12_raise_27 : decode cX12_raise 27 = .ok (.iaload, 1) := by decide +kernel
theorem dX12_raise_28 : decode cX12_raise 28 = .ok (.iadd, 1) := by decide +kernel
theorem dX12_raise_29 : decode cX12_raise 29 = .ok (.iconst 1, 1) := by decide +kernel
theorem dX12_raise_30 : decode cX12_raise 30 = .ok (.isub, 1) := by decide +kernel
theorem dX12_raise_31 : decode cX12_raise 31 = .ok (.istore_n 2, 1) := by decide +kernel
theorem dX12_raise_32 : decode cX12_raise 32 = .ok (.aload_n 0, 1) := by decide +kernel
theorem dX12_raise_33 : decode cX12_raise 33 = .ok (.getfield 240, 3) := by decide +kernel
theorem dX12_raise_36 : decode cX12_raise 36 = .ok (.iload_n 2, 1) := by decide +kernel
theorem dX12_raise_37 : decode cX12_raise 37 = .ok (.iaload, 1) := by decide +kernel
theorem dX12_raise_38 : decode cX12_raise 38 = .ok (.istore_n 3, 1) := by decide +kernel
theorem dX12_raise_39 : decode cX12_raise 39 = .ok (.aload_n 0, 1) := by decide +kernel
theorem dX12_raise_40 : decode cX12_raise 40 = .ok (.getfield 243, 3) := by decide +kernel
theorem dX12_raise_43 : decode cX12_raise 43 = .ok (.iload_n 2, 1) := by decide +kernel
theorem dX12_raise_44 : decode cX12_raise 44 = .ok (.iaload, 1) := by decide +kernel
theorem dX12_raise_45 : decode cX12_raise 45 = .ok (.ifCond .ne 50, 3) := by decide +kernel
theorem dX12_raise_48 : decode cX12_raise 48 = .ok (.aload_n 0, 1) := by decide +kernel
theorem dX12_raise_49 : decode cX12_raise 49 = .ok (.getfield 112, 3) := by decide +kernel
theorem dX12_raise_52 : decode cX12_raise 52 = .ok (.iload_n 3, 1) := by decide +kernel
theorem dX12_raise_53 : decode cX12_raise 53 = .ok (.baload, 1) := by decide +kernel
theorem dX12_raise_54 : decode cX12_raise 54 = .ok (.ifCond .eq 41, 3) := by decide +kernel
theorem dX12_raise_57 : decode cX12_raise 57 = .ok (.aload_n 0, 1) := by decide +kernel
theorem dX12_raise_58 : decode cX12_raise 58 = .ok (.getfield 243, 3) := by decide +kernel
theorem dX12_raise_61 : decode cX12_raise 61 = .ok (.iload_n 2, 1) := by decide +kernel
theorem dX12_raise_62 : decode cX12_raise 62 = .ok (.iconst 1, 1) := by decide +kernel
theorem dX12_raise_63 : decode cX12_raise 63 = .ok (.iastore, 1) := by decide +kernel
theorem dX12_raise_64 : decode cX12_raise 64 = .ok (.aload_n 0, 1) := by decide +kernel
theorem dX12_raise_65 : decode cX12_raise 65 = .ok (.getfield 207, 3) := by decide +kernel
theorem dX12_raise_68 : decode cX12_raise 68 = .ok (.bipush 12, 2) := by decide +kernel
theorem dX12_raise_70 : decode cX12_raise 70 = .ok (.aload_n 0, 1) := by decide +kernel
theorem dX12_raise_71 : decode cX12_raise 71 = .ok (.getfield 600, 3) := by decide +kernel
theorem dX12_raise_74 : decode cX12_raise 74 = .ok (.imul, 1) := by decide +kernel
theorem dX12_raise_75 : decode cX12_raise 75 = .ok (.aload_n 0, 1) := by decide +kernel
theorem dX12_raise_76 : decode cX12_raise 76 = .ok (.getfield 122, 3) := by decide +kernel
theorem dX12_raise_79 : decode cX12_raise 79 = .ok (.iload_n 3, 1) := by decide +kernel
theorem dX12_raise_80 : decode cX12_raise 80 = .ok (.iaload, 1) := by decide +kernel
theorem dX12_raise_81 : decode cX12_raise 81 = .ok (.iadd, 1) := by decide +kernel
theorem dX12_raise_82 : decode cX12_raise 82 = .ok (.iload_n 1, 1) := by decide +kernel
theorem dX12_raise_83 : decode cX12_raise 83 = .ok (.iastore, 1) := by decide +kernel
theorem dX12_raise_84 : decode cX12_raise 84 = .ok (.aload_n 0, 1) := by decide +kernel
theorem dX12_raise_85 : decode cX12_raise 85 = .ok (.aload_n 0, 1) := by decide +kernel
theorem dX12_raise_86 : decode cX12_raise 86 = .ok (.getfield 119, 3) := by decide +kernel
theorem dX12_raise_89 : decode cX12_raise 89 = .ok (.iload_n 3, 1) := by decide +kernel
theorem dX12_raise_90 : decode cX12_raise 90 = .ok (.iaload, 1) := by decide +kernel
theorem dX12_raise_91 : decode cX12_raise 91 = .ok (.putfield 609, 3) := by decide +kernel
theorem dX12_raise_94 : decode cX12_raise 94 = .ok (.return_, 1) := by decide +kernel
theorem dX12_raise_95 : decode cX12_raise 95 = .ok (.aload_n 0, 1) := by decide +kernel
theorem dX12_raise_96 : decode cX12_raise 96 = .ok (.getfield 243, 3) := by decide +kernel
theorem dX12_raise_99 : decode cX12_raise 99 = .ok (.iload_n 2, 1) := by decide +kernel
theorem dX12_raise_100 : decode cX12_raise 100 = .ok (.iaload, 1) := by decide +kernel
theorem dX12_raise_101 : decode cX12_raise 101 = .ok (.iconst 2, 1) := by decide +kernel
theorem dX12_raise_102 : decode cX12_raise 102 = .ok (.if_icmp .ge 20, 3) := by decide +kernel
theorem dX12_raise_105 : decode cX12_raise 105 = .ok (.aload_n 0, 1) := by decide +kernel
theorem dX12_raise_106 : decode cX12_raise 106 = .ok (.getfield 116, 3) := by decide +kernel
theorem dX12_raise_109 : decode cX12_raise 109 = .ok (.iload_n 3, 1) := by decide +kernel
theorem dX12_raise_110 : decode cX12_raise 110 = .ok (.baload, 1) := by decide +kernel
theorem dX12_raise_111 : decode cX12_raise 111 = .ok (.ifCond .eq 11, 3) := by decide +kernel
theorem dX12_raise_114 : decode cX12_raise 114 = .ok (.aload_n 0, 1) := by decide +kernel
theorem dX12_raise_115 : decode cX12_raise 115 = .ok (.iload_n 2, 1) := by decide +kernel
theorem dX12_raise_116 : decode cX12_raise 116 = .ok (.iconst 1, 1) := by decide +kernel
theorem dX12_raise_117 : decode cX12_raise 117 = .ok (.iload_n 1, 1) := by decide +kernel
theorem dX12_raise_118 : decode cX12_raise 118 = .ok (.invokevirtual 666, 3) := by decide +kernel
theorem dX12_raise_121 : decode cX12_raise 121 = .ok (.return_, 1) := by decide +kernel
theorem dX12_raise_122 : decode cX12_raise 122 = .ok (.aload_n 0, 1) := by decide +kernel
theorem dX12_raise_123 : decode cX12_raise 123 = .ok (.getfield 237, 3) := by decide +kernel
theorem dX12_raise_126 : decode cX12_raise 126 = .ok (.aload_n 0, 1) := by decide +kernel
theorem dX12_raise_127 : decode cX12_raise 127 = .ok (.getfield 600, 3) := by decide +kernel
theorem dX12_raise_130 : decode cX12_raise 130 = .ok (.dup2, 1) := by decide +kernel
theorem dX12_raise_131 : decode cX12_raise 131 = .ok (.iaload, 1) := by decide +kernel
theorem dX12_raise_132 : decode cX12_raise 132 = .ok (.iconst 1, 1) := by decide +kernel
theorem dX12_raise_133 : decode cX12_raise 133 = .ok (.isub, 1) := by decide +kernel
theorem dX12_raise_134 : decode cX12_raise 134 = .ok (.iastore, 1) := by decide +kernel
theorem dX12_raise_135 : decode cX12_raise 135 = .ok (.aload_n 0, 1) := by decide +kernel
theorem dX12_raise_136 : decode cX12_raise 136 = .ok (.getfield 243, 3) := by decide +kernel
theorem dX12_raise_139 : decode cX12_raise 139 = .ok (.iload_n 2, 1) := by decide +kernel
theorem dX12_raise_140 : decode cX12_raise 140 = .ok (.iaload, 1) := by decide +kernel
theorem dX12_raise_141 : decode cX12_raise 141 = .ok (.iconst 2, 1) := by decide +kernel
theorem dX12_raise_142 : decode cX12_raise 142 = .ok (.if_icmp .ne 18, 3) := by decide +kernel
theorem dX12_raise_145 : decode cX12_raise 145 = .ok (.aload_n 0, 1) := by decide +kernel
theorem dX12_raise_146 : decode cX12_raise 146 = .ok (.getfield 246, 3) := by decide +kernel
theorem dX12_raise_149 : decode cX12_raise 149 = .ok (.iload_n 2, 1) := by decide +kernel
theorem dX12_raise_150 : decode cX12_raise 150 = .ok (.iaload, 1) := by decide +kernel
theorem dX12_raise_151 : decode cX12_raise 151 = .ok (.iconst 2, 1) := by decide +kernel
theorem dX12_raise_152 : decode cX12_raise 152 = .ok (.if_icmp .ne 8, 3) := by decide +kernel
theorem dX12_raise_155 : decode cX12_raise 155 = .ok (.aload_n 0, 1) := by decide +kernel
theorem dX12_raise_156 : decode cX12_raise 156 = .ok (.invokevirtual 615, 3) := by decide +kernel
theorem dX12_raise_159 : decode cX12_raise 159 = .ok (.return_, 1) := by decide +kernel
theorem dX12_raise_160 : decode cX12_raise 160 = .ok (.goto (-160), 3) := by decide +kernel
theorem dX12_raise_163 : decode cX12_raise 163 = .ok (.aload_n 0, 1) := by decide +kernel
theorem dX12_raise_164 : decode cX12_raise 164 = .ok (.aload_n 0, 1) := by decide +kernel
theorem dX12_raise_165 : decode cX12_raise 165 = .ok (.getfield 600, 3) := by decide +kernel
theorem dX12_raise_168 : decode cX12_raise 168 = .ok (.iload_n 1, 1) := by decide +kernel
theorem dX12_raise_169 : decode cX12_raise 169 = .ok (.iconst 0, 1) := by decide +kernel
theorem dX12_raise_170 : decode cX12_raise 170 = .ok (.invokevirtual 593, 3) := by decide +kernel
theorem dX12_raise_173 : decode cX12_raise 173 = .ok (.return_, 1) := by decide +kernel
theorem dX12_stops_0 : decode cX12_stops 0 = .ok (.aload_n 0, 1) := by decide +kernel
theorem dX12_stops_1 : decode cX12_stops 1 = .ok (.iconst 0, 1) := by decide +kernel
theorem dX12_stops_2 : decode cX12_stops 2 = .ok (.putfield 606, 3) := by decide +kernel
theorem dX12_stops_5 : decode cX12_stops 5 = .ok (.aload_n 0, 1) := by decide +kernel
theorem dX12_stops_6 : decode cX12_stops 6 = .ok (.getfield 204, 3) := by decide +kernel
theorem dX12_stops_9 : decode cX12_stops 9 = .ok (.aload_n 0, 1) := by decide +kernel
theorem dX12_stops_10 : decode cX12_stops 10 = .ok (.getfield 600, 3) := by decide +kernel
theorem dX12_stops_13 : decode cX12_stops 13 = .ok (.aload_n 0, 1) := by decide +kernel
theorem dX12_stops_14 : decode cX12_stops 14 = .ok (.getfield 609, 3) := by decide +kernel
theorem dX12_stops_17 : decode cX12_stops 17 = .ok (.iastore, 1) := by decide +kernel
theorem dX12_stops_18 : decode cX12_stops 18 = .ok (.aload_n 0, 1) := by decide +kernel
theorem dX12_stops_19 : decode cX12_stops 19 = .ok (.getfield 228, 3) := by decide +kernel
theorem dX12_stops_22 : decode cX12_stops 22 = .ok (.aload_n 0, 1) := by decide +kernel
theorem dX12_stops_23 : decode cX12_stops 23 = .ok (.getfield 600, 3) := by decide +kernel
theorem dX12_stops_26 : decode cX12_stops 26 = .ok (.aload_n 0, 1) := by decide +kernel
theorem dX12_stops_27 : decode cX12_stops 27 = .ok (.getfield 657, 3) := by decide +kernel
theorem dX12_stops_30 : decode cX12_stops 30 = .ok (.iastore, 1) := by decide +kernel
theorem dX12_stops_31 : decode cX12_stops 31 = .ok (.aload_n 0, 1) := by decide +kernel
theorem dX12_stops_32 : decode cX12_stops 32 = .ok (.getfield 231, 3) := by decide +kernel
theorem dX12_stops_35 : decode cX12_stops 35 = .ok (.aload_n 0, 1) := by decide +kernel
theorem dX12_stops_36 : decode cX12_stops 36 = .ok (.getfield 600, 3) := by decide +kernel
theorem dX12_stops_39 : decode cX12_stops 39 = .ok (.aload_n 0, 1) := by decide +kernel
theorem dX12_stops_40 : decode cX12_stops 40 = .ok (.getfield 560, 3) := by decide +kernel
theorem dX12_stops_43 : decode cX12_stops 43 = .ok (.iastore, 1) := by decide +kernel
theorem dX12_stops_44 : decode cX12_stops 44 = .ok (.iload_n 1, 1) := by decide +kernel
theorem dX12_stops_45 : decode cX12_stops 45 = .ok (.ifCond .lt 54, 3) := by decide +kernel
theorem dX12_stops_48 : decode cX12_stops 48 = .ok (.aload_n 0, 1) := by decide +kernel
theorem dX12_stops_49 : decode cX12_stops 49 = .ok (.getfield 219, 3) := by decide +kernel
theorem dX12_stops_52 : decode cX12_stops 52 = .ok (.aload_n 0, 1) := by decide +kernel
theorem dX12_stops_53 : decode cX12_stops 53 = .ok (.getfield 600, 3) := by decide +kernel
theorem dX12_stops_56 : decode cX12_stops 56 = .ok (.iaload, 1) := by decide +kernel
theorem dX12_stops_57 : decode cX12_stops 57 = .ok (.ifCond .ne 42, 3) := by decide +kernel
theorem dX12_stops_60 : decode cX12_stops 60 = .ok (.aload_n 0, 1) := by decide +kernel
theorem dX12_stops_61 : decode cX12_stops 61 = .ok (.getfield 283, 3) := by decide +kernel
theorem dX12_stops_64 : decode cX12_stops 64 = .ok (.iload_n 1, 1) := by decide +kernel
theorem dX12_stops_65 : decode cX12_stops 65 = .ok (.iaload, 1) := by decide +kernel
theorem dX12_stops_66 : decode cX12_stops 66 = .ok (.ifCond .le 33, 3) := by decide +kernel
theorem dX12_stops_69 : decode cX12_stops 69 = .ok (.aload_n 0, 1) := by decide +kernel
theorem dX12_stops_70 : decode cX12_stops 70 = .ok (.getfield 219, 3) := by decide +kernel
theorem dX12_stops_73 : decode cX12_stops 73 = .ok (.aload_n 0, 1) := by decide +kernel
theorem dX12_stops_74 : decode cX12_stops 74 = .ok (.getfield 600, 3) := by decide +kernel
theorem dX12_stops_77 : decode cX12_stops 77 = .ok (.aload_n 0, 1) := by decide +kernel
theorem dX12_stops_78 : decode cX12_stops 78 = .ok (.getfield 283, 3) := by decide +kernel
theorem dX12_stops_81 : decode cX12_stops 81 = .ok (.iload_n 1, 1) := by decide +kernel
theorem dX12_stops_82 : decode cX12_stops 82 = .ok (.iaload, 1) := by decide +kernel
theorem dX12_stops_83 : decode cX12_stops 83 = .ok (.iastore, 1) := by decide +kernel
theorem dX12_stops_84 : decode cX12_stops 84 = .ok (.aload_n 0, 1) := by decide +kernel
theorem dX12_stops_85 : decode cX12_stops 85 = .ok (.getfield 222, 3) := by decide +kernel
theorem dX12_stops_88 : decode cX12_stops 88 = .ok (.aload_n 0, 1) := by decide +kernel
theorem dX12_stops_89 : decode cX12_stops 89 = .ok (.getfield 600, 3) := by decide +kernel
theorem dX12_stops_92 : decode cX12_stops 92 = .ok (.aload_n 0, 1) := by decide +kernel
theorem dX12_stops_93 : decode cX12_stops 93 = .ok (.getfield 286, 3) := by decide +kernel
theorem dX12_stops_96 : decode cX12_stops 96 = .ok (.iload_n 1, 1) := by decide +kernel
theorem dX12_stops_97 : decode cX12_stops 97 = .ok (.iaload, 1) := by decide +kernel
theorem dX12_stops_98 : decode cX12_stops 98 = .ok (.iastore, 1) := by decide +kernel
theorem dX12_stops_99 : decode cX12_stops 99 = .ok (.aload_n 0, 1) := by decide +kernel
theorem dX12_stops_100 : decode cX12_stops 100 = .ok (.getfield 219, 3) := by decide +kernel
theorem dX12_stops_103 : decode cX12_stops 103 = .ok (.aload_n 0, 1) := by decide +kernel
theorem dX12_stops_104 : decode cX12_stops 104 = .ok (.getfield 600, 3) := by decide +kernel
theorem dX12_stops_107 : decode cX12_stops 107 = .ok (.iaload, 1) := by decide +kernel
theorem dX12_stops_108 : decode cX12_stops 108 = .ok (.ifCond .ne 16, 3) := by decide +kernel
theorem dX12_stops_111 : decode cX12_stops 111 = .ok (.aload_n 0, 1) := by decide +kernel
theorem dX12_stops_112 : decode cX12_stops 112 = .ok (.getfield 195, 3) := by decide +kernel
theorem dX12_stops_115 : decode cX12_stops 115 = .ok (.aload_n 0, 1) := by decide +kernel
theorem dX12_stops_116 : decode cX12_stops 116 = .ok (.getfield 600, 3) := by decide +kernel
theorem dX12_stops_119 : decode cX12_stops 119 = .ok (.iconst 1, 1) := by decide +kernel
theorem dX12_stops_120 : decode cX12_stops 120 = .ok (.iastore, 1) := by decide +kernel
theorem dX12_stops_121 : decode cX12_stops 121 = .ok (.goto 36, 3) := by decide +kernel
theorem dX12_stops_124 : decode cX12_stops 124 = .ok (.aload_n 0, 1) := by decide +kernel
theorem dX12_stops_125 : decode cX12_stops 125 = .ok (.getfield 234, 3) := by decide +kernel
theorem dX12_stops_128 : decode cX12_stops 128 = .ok (.aload_n 0, 1) := by decide +kernel
theorem dX12_stops_129 : decode cX12_stops 129 = .ok (.getfield 600, 3) := by decide +kernel
theorem dX12_stops_132 : decode cX12_stops 132 = .ok (.iaload, 1) := by decide +kernel
theorem dX12_stops_133 : decode cX12_stops 133 = .ok (.ifCond .le 16, 3) := by decide +kernel
theorem dX12_stops_136 : decode cX12_stops 136 = .ok (.aload_n 0, 1) := by decide +kernel
theorem dX12_stops_137 : decode cX12_stops 137 = .ok (.getfield 195, 3) := by decide +kernel
theorem dX12_stops_140 : decode cX12_stops 140 = .ok (.aload_n 0, 1) := by decide +kernel
theorem dX12_stops_141 : decode cX12_stops 141 = .ok (.getfield 600, 3) := by decide +kernel
theorem dX12_stops_144 : decode cX12_stops 144 = .ok (.iconst 2, 1) := by decide +kernel
theorem dX12_stops_145 : decode cX12_stops 145 = .ok (.iastore, 1) := by decide +kernel
theorem dX12_stops_146 : decode cX12_stops 146 = .ok (.goto 11, 3) := by decide +kernel
theorem dX12_stops_149 : decode cX12_stops 149 = .ok (.aload_n 0, 1) := by decide +kernel
theorem dX12_stops_150 : decode cX12_stops 150 = .ok (.aload_n 0, 1) := by decide +kernel
theorem dX12_stops_151 : decode cX12_stops 151 = .ok (.getfield 600, 3) := by decide +kernel
theorem dX12_stops_154 : decode cX12_stops 154 = .ok (.invokevirtual 566, 3) := by decide +kernel
theorem dX12_stops_157 : decode cX12_stops 157 = .ok (.return_, 1) := by decide +kernel
def wp_raise_160 (K : mS → Prop) (k0 : Int32 × mS → Prop) (x1 : Int32) (S : mS) : Prop := k0 (x1, S)
def wp_raise_122 (K : mS → Prop) (k0 : Int32 × mS → Prop) (x1 : Int32) (x2 : Int32) (S : mS) : Prop := inR (S.1 33) 200 ∧ ∀ z25 : Int32, z25 = S.2.1 68 (ix (S.1 33)) → ∀ z26 : Int32, z26 = z25 - 1 → inR (S.1 33) 200 ∧ ∀ S27 : mS, S27 = sF S 68 (ix (S.1 33)) z26 → inR x2 2200 ∧ ∀ z28 : Int32, z28 = S27.2.1 70 (ix x2) → ((¬ z28 = 2 → wp_raise_160 K k0 x1 S27) ∧ (z28 = 2 → inR x2 2200 ∧ ∀ z30 : Int32, z30 = S27.2.1 71 (ix x2) → ((¬ z30 = 2 → wp_raise_160 K k0 x1 S27) ∧ (z30 = 2 → wp_raiseCancel S27 (fun (S32 : mS) => K S32)))))
def wp_raise_95 (K : mS → Prop) (k0 : Int32 × mS → Prop) (x1 : Int32) (x2 : Int32) (x3 : Int32) (S : mS) : Prop := inR x2 2200 ∧ ∀ z20 : Int32, z20 = S.2.1 70 (ix x2) → ((2 ≤ z20 → wp_raise_122 K k0 x1 x2 S) ∧ (¬ 2 ≤ z20 → inR x3 1000 ∧ ∀ z22 : Int32, z22 = S.2.1 29 (ix x3) → ((z22 = 0 → wp_raise_122 K k0 x1 x2 S) ∧ (¬ z22 = 0 → wp_toFinish x2 1 x1 S (fun (S24 : mS) => K S24)))))
def wp_raise_0 (K : mS → Prop) (k0 : Int32 × mS → Prop) (x1 : Int32) (S : mS) : Prop := inR (S.1 33) 200 ∧ ∀ z1 : Int32, z1 = S.2.1 68 (ix (S.1 33)) → ((z1 ≤ 0 → wq_ends (S.1 33) x1 0 S (fun (S3 : mS) => K S3)) ∧ (¬ z1 ≤ 0 → ∀ z4 : Int32, z4 = 11 * (S.1 33) → inR (S.1 33) 200 ∧ ∀ z5 : Int32, z5 = S.2.1 68 (ix (S.1 33)) → ∀ z6 : Int32, z6 = z4 + z5 → ∀ z7 : Int32, z7 = z6 - 1 → inR z7 2200 ∧ ∀ z8 : Int32, z8 = S.2.1 69 (ix z7) → inR z7 2200 ∧ ∀ z9 : Int32, z9 = S.2.1 70 (ix z7) → ((¬ z9 = 0 → wp_raise_95 K k0 x1 z7 z8 S) ∧ (z9 = 0 → inR z8 1000 ∧ ∀ z11 : Int32, z11 = S.2.1 28 (ix z8) → ((z11 = 0 → wp_raise_95 K k0 x1 z7 z8 S) ∧ (¬ z11 = 0 → inR z7 2200 ∧ ∀ S13 : mS, S13 = sF S 70 (ix z7) 1 → ∀ z14 : Int32, z14 = 12 * (S13.1 33) → inR z8 1000 ∧ ∀ z15 : Int32, z15 = S13.2.1 31 (ix z8) → ∀ z16 : Int32, z16 = z14 + z15 → inR z16 2400 ∧ ∀ S17 : mS, S17 = sF S13 58 (ix z16) x1 → inR z8 1000 ∧ ∀ z18 : Int32, z18 = S17.2.1 30 (ix z8) → ∀ S19 : mS, S19 = sZ S17 32 z18 → K S19))))))
def ls_raise_0 (K : mS → Prop) (k0 : Int32 × mS → Prop) (u : Int32 × mS) : Prop := wp_raise_0 K k0 u.1 u.2
def wp_raise (a0 : Int32) (S : mS) (K : mS → Prop) : Prop := (∃ n9, it (ls_raise_0 K) n9 (a0, S))
theorem cw_X12_raiseCancel {R : Room} {s : State} {args : Array Value} {fr lo : Nat} (hts : ∀ w ∈ tb, w.before args s = true) (h1 : fr + 1 ≤ R.frames) (h2 : 8 + (2 + 11) + lo ≤ R.locals) : CallW R s args RX12 RX12 615 yX12_raiseCancel cX12_raiseCancel 2 none (.code yX12_raiseCancel cX12_raiseCancel 2 none :: tb) (mRm fr lo) 0 0 0 := cwV 0 hts (gd_V wd_2062 wd_2064 sl_X12_raiseCancel wd_15 wd_2065) rfl rfl rfl (by decide +kernel) ⟨h1, h2⟩
set_option maxHeartbeats 4000000 in
set_option maxRecDepth 100000 in
theorem ct_raise (l : Launch) (S : mS) (a0 : Int32) (K : mS → Prop) (h : wp_raise a0 S K) : mMv l yX12_raise cX12_raise 4 none 696 16703 (fun E => [.int a0]) S K := by
  refine mv_ofv (by decide) rfl (fun _ => Nat.le_of_ble_eq_true rfl) ?_
  intro E p e R s m args below meth c A ls Q hRf hRl hX hC hl hret
  have hx := hX.1.1
  have hb := hX.1.2.1
  have hown := hX.1.2.2.2.1
  have hts := hX.1.2.2.2.2
  have cut0 : ∀ (n0 : Nat) (x1 : Int32) (S : mS) (H : Heap) (locs : List Loc) (ls : Array Slot), it (ls_raise_0 K) n0 (x1, S) → mC E A s.heap S H locs → lv_has ls 4 [(0, .ref E.2.1), (1, .int x1)] → W p l e R s m args below meth c H locs 0 0 Q (F0 m 0 ls []) := by
    intro n0
    induction n0 with
    | zero => intro x1 S H locs ls h hC hl; exact h.elim
    | succ n0 ih0 =>
      have cut160 : ∀ (x1 : Int32) (S : mS) (H : Heap) (locs : List Loc) (ls : Array Slot), wp_raise_160 K (it (ls_raise_0 K) n0) x1 S → mC E A s.heap S H locs → lv_has ls 4 [(0, .ref E.2.1), (1, .int x1)] → W p l e R s m args below meth c H locs 0 0 Q (F0 m 160 ls []) := by
        intro x1 S H locs ls h hC hl
        unfold wp_raise_160 at h
        refine lv_goto (tgt := 0) hx hb dX12_raise_160 (by decide) ?_
        exact ih0 x1 S _ _ _ h hC (lv_sub hl [0, 1] rfl)
      have cut122 : ∀ (x1 : Int32) (x2 : Int32) (S : mS) (H : Heap) (locs : List Loc) (ls : Array Slot), wp_raise_122 K (it (ls_raise_0 K) n0) x1 x2 S → mC E A s.heap S H locs → lv_has ls 4 [(0, .ref E.2.1), (1, .int x1), (2, .int x2)] → W p l e R s m args below meth c H locs 0 0 Q (F0 m 122 ls []) := by
        intro x1 x2 S H locs ls h hC hl
        unfold wp_raise_122 at h
        refine lv_aload_n hx hb dX12_raise_122 rfl (lv_at hl 0 rfl) ?_
        refine mv_get (v := .ref (E.2.2.1 68)) hX hC 92 (Nat.le_of_ble_eq_true rfl) wd_1492 rfl dX12_raise_123 ?_
        refine lv_aload_n hx hb dX12_raise_126 rfl (lv_at hl 0 rfl) ?_
        refine mv_get (v := .int (S.1 33)) hX hC 123 (Nat.le_of_ble_eq_true rfl) wd_1523 rfl dX12_raise_127 ?_
        refine lv_dup2_11 hx hb dX12_raise_130 rfl rfl ?_
        refine mq_ild (n := 200) hX hC 68 rfl rfl dX12_raise_131 h (fun z25 h => ?_)
        refine lv_iconst (v := 1) hx hb dX12_raise_132 (by decide) ?_
        refine lq_isub hx hb dX12_raise_133 h (fun z26 h => ?_)
        refine mq_ist (n := 200) (v := z26) hX hC 68 rfl rfl mf_68 dX12_raise_134 h.1 h.2 (fun S27 H locs hC h => ?_)
        refine lv_aload_n hx hb dX12_raise_135 rfl (lv_at hl 0 rfl) ?_
        refine mv_get (v := .ref (E.2.2.1 70)) hX hC 94 (Nat.le_of_ble_eq_true rfl) wd_1494 rfl dX12_raise_136 ?_
        refine lv_iload_n hx hb dX12_raise_139 rfl (lv_at hl 2 rfl) ?_
        refine mq_ild (n := 2200) hX hC 70 rfl rfl dX12_raise_140 h (fun z28 h => ?_)
        refine lv_iconst (v := 2) hx hb dX12_raise_141 (by decide) ?_
        refine lv_icmp_ne (tgt := 160) hx hb dX12_raise_142 (by decide) (fun c29 => ?_) (fun c29 => ?_)
        · have h := h.1 c29
          exact cut160 x1 S27 _ _ _ h hC (lv_sub hl [0, 1] rfl)
        · have h := h.2 c29
          refine lv_aload_n hx hb dX12_raise_145 rfl (lv_at hl 0 rfl) ?_
          refine mv_get (v := .ref (E.2.2.1 71)) hX hC 95 (Nat.le_of_ble_eq_true rfl) wd_1495 rfl dX12_raise_146 ?_
          refine lv_iload_n hx hb dX12_raise_149 rfl (lv_at hl 2 rfl) ?_
          refine mq_ild (n := 2200) hX hC 71 rfl rfl dX12_raise_150 h (fun z30 h => ?_)
          refine lv_iconst (v := 2) hx hb dX12_raise_151 (by decide) ?_
          refine lv_icmp_ne (tgt := 160) hx hb dX12_raise_152 (by decide) (fun c31 => ?_) (fun c31 => ?_)
          · have h := h.1 c31
            exact cut160 x1 S27 _ _ _ h hC (lv_sub hl [0, 1] rfl)
          · have h := h.2 c31
            refine lv_aload_n hx hb dX12_raise_155 rfl (lv_at hl 0 rfl) ?_
            refine mv_callv [] (rest := []) hX hC (ct_raiseCancel l S27 _ h E _) (cw_X12_raiseCancel hts (by omega) (by omega)) rfl hl.1 (Nat.le_of_ble_eq_true rfl) ⟨Nat.zero_le _, Nat.zero_le _⟩ dX12_raise_156 (fun S32 H locs hC h => ?_)
            exact hret _ _ _ _ _ hC h dX12_raise_159
      have cut95 : ∀ (x1 : Int32) (x2 : Int32) (x3 : Int32) (S : mS) (H : Heap) (locs : List Loc) (ls : Array Slot), wp_raise_95 K (it (ls_raise_0 K) n0) x1 x2 x3 S → mC E A s.heap S H locs → lv_has ls 4 [(0, .ref E.2.1), (1, .int x1), (2, .int x2), (3, .int x3)] → W p l e R s m args below meth c H locs 0 0 Q (F0 m 95 ls []) := by
        intro x1 x2 x3 S H locs ls h hC hl
        unfold wp_raise_95 at h
        refine lv_aload_n hx hb dX12_raise_95 rfl (lv_at hl 0 rfl) ?_
        refine mv_get (v := .ref (E.2.2.1 70)) hX hC 94 (Nat.le_of_ble_eq_true rfl) wd_1494 rfl dX12_raise_96 ?_
        refine lv_iload_n hx hb dX12_raise_99 rfl (lv_at hl 2 rfl) ?_
        refine mq_ild (n := 2200) hX hC 70 rfl rfl dX12_raise_100 h (fun z20 h => ?_)
        refine lv_iconst (v := 2) hx hb dX12_raise_101 (by decide) ?_
        refine lv_icmp_ge (tgt := 122) hx hb dX12_raise_102 (by decide) (fun c21 => ?_) (fun c21 => ?_)
        · have h := h.1 c21
          exact cut122 x1 x2 S _ _ _ h hC (lv_sub hl [0, 1, 2] rfl)
        · have h := h.2 c21
          refine lv_aload_n hx hb dX12_raise_105 rfl (lv_at hl 0 rfl) ?_
          refine mv_get (v := .ref (E.2.2.1 29)) hX hC 40 (Nat.le_of_ble_eq_true rfl) wd_1440 rfl dX12_raise_106 ?_
          refine lv_iload_n hx hb dX12_raise_109 rfl (lv_at hl 3 rfl) ?_
          refine mq_zld (n := 1000) hX hC 29 rfl rfl dX12_raise_110 h (fun z22 h => ?_)
          refine lv_if_eq (tgt := 122) hx hb dX12_raise_111 (by decide) (fun c23 => ?_) (fun c23 => ?_)
          · have h := h.1 c23
            exact cut122 x1 x2 S _ _ _ h hC (lv_sub hl [0, 1, 2] rfl)
          · have h := h.2 c23
            refine lv_aload_n hx hb dX12_raise_114 rfl (lv_at hl 0 rfl) ?_
            refine lv_iload_n hx hb dX12_raise_115 rfl (lv_at hl 2 rfl) ?_
            refine lv_iconst (v := 1) hx hb dX12_raise_116 (by decide) ?_
            refine lv_iload_n hx hb dX12_raise_117 rfl (lv_at hl 1 rfl) ?_
            refine mv_callv [.int x2, .int 1, .int x1] (rest := []) hX hC (ct_toFinish l S x2 1 x1 _ h E _) (cw_X12_toFinish hts (by omega) (by omega)) rfl hl.1 (Nat.le_of_ble_eq_true rfl) ⟨Nat.zero_le _, Nat.zero_le _⟩ dX12_raise_118 (fun S24 H locs hC h => ?_)
            exact hret _ _ _ _ _ hC h dX12_raise_121
      intro x1 S H locs ls h hC hl
      have h : wp_raise_0 K (it (ls_raise_0 K) n0) x1 S := h
      unfold wp_raise_0 at h
      refine lv_aload_n hx hb dX12_raise_0 rfl (lv_at hl 0 rfl) ?_
      refine mv_get (v := .ref (E.2.2.1 68)) hX hC 92 (Nat.le_of_ble_eq_true rfl) wd_1492 rfl dX12_raise_1 ?_
      refine lv_aload_n hx hb dX12_raise_4 rfl (lv_at hl 0 rfl) ?_
      refine mv_get (v := .int (S.1 33)) hX hC 123 (Nat.le_of_ble_eq_true rfl) wd_1523 rfl dX12_raise_5 ?_
      refine mq_ild (n := 200) hX hC 68 rfl rfl dX12_raise_8 h (fun z1 h => ?_)
      refine lv_if_le (tgt := 163) hx hb dX12_raise_9 (by decide) (fun c2 => ?_) (fun c2 => ?_)
      · have h := h.1 c2
        refine lv_aload_n hx hb dX12_raise_163 rfl (lv_at hl 0 rfl) ?_
        refine lv_aload_n hx hb dX12_raise_164 rfl (lv_at hl 0 rfl) ?_
        refine mv_get (v := .int (S.1 33)) hX hC 123 (Nat.le_of_ble_eq_true rfl) wd_1523 rfl dX12_raise_165 ?_
        refine lv_iload_n hx hb dX12_raise_168 rfl (lv_at hl 1 rfl) ?_
        refine lv_iconst (v := 0) hx hb dX12_raise_169 (by decide) ?_
        refine mv_callv [.int (S.1 33), .int x1, .int 0] (rest := []) hX hC (ct_ends l S (S.1 33) x1 0 _ h E _) (cw_X12_ends hts (by omega) (by omega)) rfl hl.1 (Nat.le_of_ble_eq_true rfl) ⟨Nat.zero_le _, Nat.zero_le _⟩ dX12_raise_170 (fun S3 H locs hC h => ?_)
        exact hret _ _ _ _ _ hC h dX12_raise_173
      · have h := h.2 c2
        refine lv_bipush (v := 11) hx hb dX12_raise_12 (by decide) ?_
        refine lv_aload_n hx hb dX12_raise_14 rfl (lv_at hl 0 rfl) ?_
        refine mv_get (v := .int (S.1 33)) hX hC 123 (Nat.le_of_ble_eq_true rfl) wd_1523 rfl dX12_raise_15 ?_
        refine lq_imul hx hb dX12_raise_18 h (fun z4 h => ?_)
        refine lv_aload_n hx hb dX12_raise_19 rfl (lv_at hl 0 rfl) ?_
        refine mv_get (v := .ref (E.2.2.1 68)) hX hC 92 (Nat.le_of_ble_eq_true rfl) wd_1492 rfl dX12_raise_20 ?_
        refine lv_aload_n hx hb dX12_raise_23 rfl (lv_at hl 0 rfl) ?_
        refine mv_get (v := .int (S.1 33)) hX hC 123 (Nat.le_of_ble_eq_true rfl) wd_1523 rfl dX12_raise_24 ?_
        refine mq_ild (n := 200) hX hC 68 rfl rfl dX12_raise_27 h (fun z5 h => ?_)
        refine lq_iadd hx hb dX12_raise_28 h (fun z6 h => ?_)
        refine lv_iconst (v := 1) hx hb dX12_raise_29 (by decide) ?_
        refine lq_isub hx hb dX12_raise_30 h (fun z7 h => ?_)
        refine lv_istore_n (lv' := [(2, .int z7), (0, .ref E.2.1), (1, .int x1)]) hx hb dX12_raise_31 rfl hl (by decide) rfl (fun ls hl => ?_)
        refine lv_aload_n hx hb dX12_raise_32 rfl (lv_at hl 1 rfl) ?_
        refine mv_get (v := .ref (E.2.2.1 69)) hX hC 93 (Nat.le_of_ble_eq_true rfl) wd_1493 rfl dX12_raise_33 ?_
        refine lv_iload_n hx hb dX12_raise_36 rfl (lv_at hl 0 rfl) ?_
        refine mq_ild (n := 2200) hX hC 69 rfl rfl dX12_raise_37 h (fun z8 h => ?_)
        refine lv_istore_n (lv' := [(3, .int z8), (2, .int z7), (0, .ref E.2.1), (1, .int x1)]) hx hb dX12_raise_38 rfl hl (by decide) rfl (fun ls hl => ?_)
        refine lv_aload_n hx hb dX12_raise_39 rfl (lv_at hl 2 rfl) ?_
        refine mv_get (v := .ref (E.2.2.1 70)) hX hC 94 (Nat.le_of_ble_eq_true rfl) wd_1494 rfl dX12_raise_40 ?_
        refine lv_iload_n hx hb dX12_raise_43 rfl (lv_at hl 1 rfl) ?_
        refine mq_ild (n := 2200) hX hC 70 rfl rfl dX12_raise_44 h (fun z9 h => ?_)
        refine lv_if_ne (tgt := 95) hx hb dX12_raise_45 (by decide) (fun c10 => ?_) (fun c10 => ?_)
        · have h := h.1 c10
          exact cut95 x1 z7 z8 S _ _ _ h hC (lv_sub hl [2, 3, 1, 0] rfl)
        · have h := h.2 c10
          refine lv_aload_n hx hb dX12_raise_48 rfl (lv_at hl 2 rfl) ?_
          refine mv_get (v := .ref (E.2.2.1 28)) hX hC 39 (Nat.le_of_ble_eq_true rfl) wd_1439 rfl dX12_raise_49 ?_
          refine lv_iload_n hx hb dX12_raise_52 rfl (lv_at hl 0 rfl) ?_
          refine mq_zld (n := 1000) hX hC 28 rfl rfl dX12_raise_53 h (fun z11 h => ?_)
          refine lv_if_eq (tgt := 95) hx hb dX12_raise_54 (by decide) (fun c12 => ?_) (fun c12 => ?_)
          · have h := h.1 c12
            exact cut95 x1 z7 z8 S _ _ _ h hC (lv_sub hl [2, 3, 1, 0] rfl)
          · have h := h.2 c12
            refine lv_aload_n hx hb dX12_raise_57 rfl (lv_at hl 2 rfl) ?_
            refine mv_get (v := .ref (E.2.2.1 70)) hX hC 94 (Nat.le_of_ble_eq_true rfl) wd_1494 rfl dX12_raise_58 ?_
            refine lv_iload_n hx hb dX12_raise_61 rfl (lv_at hl 1 rfl) ?_
            refine lv_iconst (v := 1) hx hb dX12_raise_62 (by decide) ?_
            refine mq_ist (n := 2200) (v := 1) hX hC 70 rfl rfl mf_70 dX12_raise_63 h.1 h.2 (fun S13 H locs hC h => ?_)
            refine lv_aload_n hx hb dX12_raise_64 rfl (lv_at hl 2 rfl) ?_
            refine mv_get (v := .ref (E.2.2.1 58)) hX hC 82 (Nat.le_of_ble_eq_true rfl) wd_1482 rfl dX12_raise_65 ?_
            refine lv_bipush (v := 12) hx hb dX12_raise_68 (by decide) ?_
            refine lv_aload_n hx hb dX12_raise_70 rfl (lv_at hl 2 rfl) ?_
            refine mv_get (v := .int (S13.1 33)) hX hC 123 (Nat.le_of_ble_eq_true rfl) wd_1523 rfl dX12_raise_71 ?_
            refine lq_imul hx hb dX12_raise_74 h (fun z14 h => ?_)
            refine lv_aload_n hx hb dX12_raise_75 rfl (lv_at hl 2 rfl) ?_
            refine mv_get (v := .ref (E.2.2.1 31)) hX hC 42 (Nat.le_of_ble_eq_true rfl) wd_1442 rfl dX12_raise_76 ?_
            refine lv_iload_n hx hb dX12_raise_79 rfl (lv_at hl 0 rfl) ?_
            refine mq_ild (n := 1000) hX hC 31 rfl rfl dX12_raise_80 h (fun z15 h => ?_)
            refine lq_iadd hx hb dX12_raise_81 h (fun z16 h => ?_)
            refine lv_iload_n hx hb dX12_raise_82 rfl (lv_at hl 3 rfl) ?_
            refine mq_ist (n := 2400) (v := x1) hX hC 58 rfl rfl mf_58 dX12_raise_83 h.1 h.2 (fun S17 H locs hC h => ?_)
            refine lv_aload_n hx hb dX12_raise_84 rfl (lv_at hl 2 rfl) ?_
            refine lv_aload_n hx hb dX12_raise_85 rfl (lv_at hl 2 rfl) ?_
            refine mv_get (v := .ref (E.2.2.1 30)) hX hC 41 (Nat.le_of_ble_eq_true rfl) wd_1441 rfl dX12_raise_86 ?_
            refine lv_iload_n hx hb dX12_raise_89 rfl (lv_at hl 0 rfl) ?_
            refine mq_ild (n := 1000) hX hC 30 rfl rfl dX12_raise_90 h (fun z18 h => ?_)
            refine mq_put (v := z18) hX hC 122 32 (Nat.le_of_ble_eq_true rfl) wd_1522 rfl rfl rfl mz_32 dX12_raise_91 h (fun S19 H locs hC h => ?_)
            exact hret _ _ _ _ _ hC h dX12_raise_94
  have hl : lv_has ls 4 [(0, .ref E.2.1), (1, .int a0)] := hl
  unfold wp_raise at h
  obtain ⟨n9, h⟩ := h
  exact cut0 n9 a0 S _ _ _ h hC (lv_sub hl [0, 1] rfl)
def wp_stops_99 (K : mS → Prop) (S : mS) : Prop := inR (S.1 33) 200 ∧ ∀ z14 : Int32, z14 = S.2.1 62 (ix (S.1 33)) → ((¬ z14 = 0 → inR (S.1 33) 200 ∧ ∀ z16 : Int32, z16 = S.2.1 67 (ix (S.1 33)) → ((z16 ≤ 0 → wp_toRow (S.1 33) S (fun (S18 : mS) => K S18)) ∧ (¬ z16 ≤ 0 → inR (S.1 33) 200 ∧ ∀ S19 : mS, S19 = sF S 54 (ix (S.1 33)) 2 → K S19))) ∧ (z14 = 0 → inR (S.1 33) 200 ∧ ∀ S20 : mS, S20 = sF S 54 (ix (S.1 33)) 1 → K S20))
def wp_stops (a0 : Int32) (S : mS) (K : mS → Prop) : Prop := ∀ S1 : mS, S1 = sZ S 34 0 → inR (S1.1 33) 200 ∧ ∀ S2 : mS, S2 = sF S1 57 (ix (S1.1 33)) (S1.1 32) → inR (S2.1 33) 200 ∧ ∀ S3 : mS, S3 = sF S2 65 (ix (S2.1 33)) (S2.1 35) → inR (S3.1 33) 200 ∧ ∀ S4 : mS, S4 = sF S3 66 (ix (S3.1 33)) (S3.1 29) → ((a0 < 0 → wp_stops_99 K S4) ∧ (¬ a0 < 0 → inR (S4.1 33) 200 ∧ ∀ z6 : Int32, z6 = S4.2.1 62 (ix (S4.1 33)) → ((¬ z6 = 0 → wp_stops_99 K S4) ∧ (z6 = 0 → inR a0 100300 ∧ ∀ z8 : Int32, z8 = S4.2.1 83 (ix a0) → ((z8 ≤ 0 → wp_stops_99 K S4) ∧ (¬ z8 ≤ 0 → inR a0 100300 ∧ ∀ z10 : Int32, z10 = S4.2.1 83 (ix a0) → inR (S4.1 33) 200 ∧ ∀ S11 : mS, S11 = sF S4 62 (ix (S4.1 33)) z10 → inR a0 100300 ∧ ∀ z12 : Int32, z12 = S11.2.1 84 (ix a0) → inR (S11.1 33) 200 ∧ ∀ S13 : mS, S13 = sF S11 63 (ix (S11.1 33)) z12 → wp_stops_99 K S13))))))
set_option maxHeartbeats 4000000 in
set_option maxRecDepth 100000 in
theorem ct_stops (l : Launch) (S : mS) (a0 : Int32) (K : mS → Prop) (h : wp_stops a0 S K) : mMv l yX12_stops cX12_stops 2 none 1 21 (fun E => [.int a0]) S K := by
  refine mv_ofv (by decide) rfl (fun _ => Nat.le_of_ble_eq_true rfl) ?_
  intro E p e R s m args below meth c A ls Q hRf hRl hX hC hl hret
  have hx := hX.1.1
  have hb := hX.1.2.1
  have hown := hX.1.2.2.2.1
  have hts := hX.1.2.2.2.2
  have cut99 : ∀ (S : mS) (H : Heap) (locs : List Loc) (ls : Array Slot), wp_stops_99 K S → mC E A s.heap S H locs → lv_has ls 2 [(0, .ref E.2.1)] → W p l e R s m args below meth c H locs 0 0 Q (F0 m 99 ls []) := by
    intro S H locs ls h hC hl
    unfold wp_stops_99 at h
    refine lv_aload_n hx hb dX12_stops_99 rfl (lv_at hl 0 rfl) ?_
    refine mv_get (v := .ref (E.2.2.1 62)) hX hC 86 (Nat.le_of_ble_eq_true rfl) wd_1486 rfl dX12_stops_100 ?_
    refine lv_aload_n hx hb dX12_stops_103 rfl (lv_at hl 0 rfl) ?_
    refine mv_get (v := .int (S.1 33)) hX hC 123 (Nat.le_of_ble_eq_true rfl) wd_1523 rfl dX12_stops_104 ?_
    refine mq_ild (n := 200) hX hC 62 rfl rfl dX12_stops_107 h (fun z14 h => ?_)
    refine lv_if_ne (tgt := 124) hx hb dX12_stops_108 (by decide) (fun c15 => ?_) (fun c15 => ?_)
    · have h := h.1 c15
      refine lv_aload_n hx hb dX12_stops_124 rfl (lv_at hl 0 rfl) ?_
      refine mv_get (v := .ref (E.2.2.1 67)) hX hC 91 (Nat.le_of_ble_eq_true rfl) wd_1491 rfl dX12_stops_125 ?_
      refine lv_aload_n hx hb dX12_stops_128 rfl (lv_at hl 0 rfl) ?_
      refine mv_get (v := .int (S.1 33)) hX hC 123 (Nat.le_of_ble_eq_true rfl) wd_1523 rfl dX12_stops_129 ?_
      refine mq_ild (n := 200) hX hC 67 rfl rfl dX12_stops_132 h (fun z16 h => ?_)
      refine lv_if_le (tgt := 149) hx hb dX12_stops_133 (by decide) (fun c17 => ?_) (fun c17 => ?_)
      · have h := h.1 c17
        refine lv_aload_n hx hb dX12_stops_149 rfl (lv_at hl 0 rfl) ?_
        refine lv_aload_n hx hb dX12_stops_150 rfl (lv_at hl 0 rfl) ?_
        refine mv_get (v := .int (S.1 33)) hX hC 123 (Nat.le_of_ble_eq_true rfl) wd_1523 rfl dX12_stops_151 ?_
        refine mv_callv [.int (S.1 33)] (rest := []) hX hC (ct_toRow l S (S.1 33) _ h E _) (cw_X12_toRow hts (by omega) (by omega)) rfl hl.1 (Nat.le_of_ble_eq_true rfl) ⟨Nat.zero_le _, Nat.zero_le _⟩ dX12_stops_154 (fun S18 H locs hC h => ?_)
        exact hret _ _ _ _ _ hC h dX12_stops_157
      · have h := h.2 c17
        refine lv_aload_n hx hb dX12_stops_136 rfl (lv_at hl 0 rfl) ?_
        refine mv_get (v := .ref (E.2.2.1 54)) hX hC 78 (Nat.le_of_ble_eq_true rfl) wd_1478 rfl dX12_stops_137 ?_
        refine lv_aload_n hx hb dX12_stops_140 rfl (lv_at hl 0 rfl) ?_
        refine mv_get (v := .int (S.1 33)) hX hC 123 (Nat.le_of_ble_eq_true rfl) wd_1523 rfl dX12_stops_141 ?_
        refine lv_iconst (v := 2) hx hb dX12_stops_144 (by decide) ?_
        refine mq_ist (n := 200) (v := 2) hX hC 54 rfl rfl mf_54 dX12_stops_145 h.1 h.2 (fun S19 H locs hC h => ?_)
        refine lv_goto (tgt := 157) hx hb dX12_stops_146 (by decide) ?_
        exact hret _ _ _ _ _ hC h dX12_stops_157
    · have h := h.2 c15
      refine lv_aload_n hx hb dX12_stops_111 rfl (lv_at hl 0 rfl) ?_
      refine mv_get (v := .ref (E.2.2.1 54)) hX hC 78 (Nat.le_of_ble_eq_true rfl) wd_1478 rfl dX12_stops_112 ?_
      refine lv_aload_n hx hb dX12_stops_115 rfl (lv_at hl 0 rfl) ?_
      refine mv_get (v := .int (S.1 33)) hX hC 123 (Nat.le_of_ble_eq_true rfl) wd_1523 rfl dX12_stops_116 ?_
      refine lv_iconst (v := 1) hx hb dX12_stops_119 (by decide) ?_
      refine mq_ist (n := 200) (v := 1) hX hC 54 rfl rfl mf_54 dX12_stops_120 h.1 h.2 (fun S20 H locs hC h => ?_)
      refine lv_goto (tgt := 157) hx hb dX12_stops_121 (by decide) ?_
      exact hret _ _ _ _ _ hC h dX12_stops_157
  have hl : lv_has ls 2 [(0, .ref E.2.1), (1, .int a0)] := hl
  unfold wp_stops at h
  refine lv_aload_n hx hb dX12_stops_0 rfl (lv_at hl 0 rfl) ?_
  refine lv_iconst (v := 0) hx hb dX12_stops_1 (by decide) ?_
  refine mq_put (v := 0) hX hC 124 34 (Nat.le_of_ble_eq_true rfl) wd_1524 rfl rfl rfl mz_34 dX12_stops_2 h (fun S1 H locs hC h => ?_)
  refine lv_aload_n hx hb dX12_stops_5 rfl (lv_at hl 0 rfl) ?_
  refine mv_get (v := .ref (E.2.2.1 57)) hX hC 81 (Nat.le_of_ble_eq_true rfl) wd_1481 rfl dX12_stops_6 ?_
  refine lv_aload_n hx hb dX12_stops_9 rfl (lv_at hl 0 rfl) ?_
  refine mv_get (v := .int (S1.1 33)) hX hC 123 (Nat.le_of_ble_eq_true rfl) wd_1523 rfl dX12_stops_10 ?_
  refine lv_aload_n hx hb dX12_stops_13 rfl (lv_at hl 0 rfl) ?_
  refine mv_get (v := .int (S1.1 32)) hX hC 122 (Nat.le_of_ble_eq_true rfl) wd_1522 rfl dX12_stops_14 ?_
  refine mq_ist (n := 200) (v := S1.1 32) hX hC 57 rfl rfl mf_57 dX12_stops_17 h.1 h.2 (fun S2 H locs hC h => ?_)
  refine lv_aload_n hx hb dX12_stops_18 rfl (lv_at hl 0 rfl) ?_
  refine mv_get (v := .ref (E.2.2.1 65)) hX hC 89 (Nat.le_of_ble_eq_true rfl) wd_1489 rfl dX12_stops_19 ?_
  refine lv_aload_n hx hb dX12_stops_22 rfl (lv_at hl 0 rfl) ?_
  refine mv_get (v := .int (S2.1 33)) hX hC 123 (Nat.le_of_ble_eq_true rfl) wd_1523 rfl dX12_stops_23 ?_
  refine lv_aload_n hx hb dX12_stops_26 rfl (lv_at hl 0 rfl) ?_
  refine mv_get (v := .int (S2.1 35)) hX hC 125 (Nat.le_of_ble_eq_true rfl) wd_1525 rfl dX12_stops_27 ?_
  refine mq_ist (n := 200) (v := S2.1 35) hX hC 65 rfl rfl mf_65 dX12_stops_30 h.1 h.2 (fun S3 H locs hC h => ?_)
  refine lv_aload_n hx hb dX12_stops_31 rfl (lv_at hl 0 rfl) ?_
  refine mv_get (v := .ref (E.2.2.1 66)) hX hC 90 (Nat.le_of_ble_eq_true rfl) wd_1490 rfl dX12_stops_32 ?_
  refine lv_aload_n hx hb dX12_stops_35 rfl (lv_at hl 0 rfl) ?_
  refine mv_get (v := .int (S3.1 33)) hX hC 123 (Nat.le_of_ble_eq_true rfl) wd_1523 rfl dX12_stops_36 ?_
  refine lv_aload_n hx hb dX12_stops_39 rfl (lv_at hl 0 rfl) ?_
  refine mv_get (v := .int (S3.1 29)) hX hC 110 (Nat.le_of_ble_eq_true rfl) wd_1510 rfl dX12_stops_40 ?_
  refine mq_ist (n := 200) (v := S3.1 29) hX hC 66 rfl rfl mf_66 dX12_stops_43 h.1 h.2 (fun S4 H locs hC h => ?_)
  refine lv_iload_n hx hb dX12_stops_44 rfl (lv_at hl 1 rfl) ?_
  refine lv_if_lt (tgt := 99) hx hb dX12_stops_45 (by decide) (fun c5 => ?_) (fun c5 => ?_)
  · have h := h.1 c5
    exact cut99 S4 _ _ _ h hC (lv_sub hl [0] rfl)
  · have h := h.2 c5
    refine lv_aload_n hx hb dX12_stops_48 rfl (lv_at hl 0 rfl) ?_
    refine mv_get (v := .ref (E.2.2.1 62)) hX hC 86 (Nat.le_of_ble_eq_true rfl) wd_1486 rfl dX12_stops_49 ?_
    refine lv_aload_n hx hb dX12_stops_52 rfl (lv_at hl 0 rfl) ?_
    refine mv_get (v := .int (S4.1 33)) hX hC 123 (Nat.le_of_ble_eq_true rfl) wd_1523 rfl dX12_stops_53 ?_
    refine mq_ild (n := 200) hX hC 62 rfl rfl dX12_stops_56 h (fun z6 h => ?_)
    refine lv_if_ne (tgt := 99) hx hb dX12_stops_57 (by decide) (fun c7 => ?_) (fun c7 => ?_)
    · have h := h.1 c7
      exact cut99 S4 _ _ _ h hC (lv_sub hl [0] rfl)
    · have h := h.2 c7
      refine lv_aload_n hx hb dX12_stops_60 rfl (lv_at hl 0 rfl) ?_
      refine mv_get (v := .ref (E.2.2.1 83)) hX hC 114 (Nat.le_of_ble_eq_true rfl) wd_1514 rfl dX12_stops_61 ?_
      refine lv_iload_n hx hb dX12_stops_64 rfl (lv_at hl 1 rfl) ?_
      refine mq_ild (n := 100300) hX hC 83 rfl rfl dX12_stops_65 h (fun z8 h => ?_)
      refine lv_if_le (tgt := 99) hx hb dX12_stops_66 (by decide) (fun c9 => ?_) (fun c9 => ?_)
      · have h := h.1 c9
        exact cut99 S4 _ _ _ h hC (lv_sub hl [0] rfl)
      · have h := h.2 c9
        refine lv_aload_n hx hb dX12_stops_69 rfl (lv_at hl 0 rfl) ?_
        refine mv_get (v := .ref (E.2.2.1 62)) hX hC 86 (Nat.le_of_ble_eq_true rfl) wd_1486 rfl dX12_stops_70 ?_
        refine lv_aload_n hx hb dX12_stops_73 rfl (lv_at hl 0 rfl) ?_
        refine mv_get (v := .int (S4.1 33)) hX hC 123 (Nat.le_of_ble_eq_true rfl) wd_1523 rfl dX12_stops_74 ?_
        refine lv_aload_n hx hb dX12_stops_77 rfl (lv_at hl 0 rfl) ?_
        refine mv_get (v := .ref (E.2.2.1 83)) hX hC 114 (Nat.le_of_ble_eq_true rfl) wd_1514 rfl dX12_stops_78 ?_
        refine lv_iload_n hx hb dX12_stops_81 rfl (lv_at hl 1 rfl) ?_
        refine mq_ild (n := 100300) hX hC 83 rfl rfl dX12_stops_82 h (fun z10 h => ?_)
        refine mq_ist (n := 200) (v := z10) hX hC 62 rfl rfl mf_62 dX12_stops_83 h.1 h.2 (fun S11 H locs hC h => ?_)
        refine lv_aload_n hx hb dX12_stops_84 rfl (lv_at hl 0 rfl) ?_
        refine mv_get (v := .ref (E.2.2.1 63)) hX hC 87 (Nat.le_of_ble_eq_true rfl) wd_1487 rfl dX12_stops_85 ?_
        refine lv_aload_n hx hb dX12_stops_88 rfl (lv_at hl 0 rfl) ?_
        refine mv_get (v := .int (S11.1 33)) hX hC 123 (Nat.le_of_ble_eq_true rfl) wd_1523 rfl dX12_stops_89 ?_
        refine lv_aload_n hx hb dX12_stops_92 rfl (lv_at hl 0 rfl) ?_
        refine mv_get (v := .ref (E.2.2.1 84)) hX hC 115 (Nat.le_of_ble_eq_true rfl) wd_1515 rfl dX12_stops_93 ?_
        refine lv_iload_n hx hb dX12_stops_96 rfl (lv_at hl 1 rfl) ?_
        refine mq_ild (n := 100300) hX hC 84 rfl rfl dX12_stops_97 h (fun z12 h => ?_)
        refine mq_ist (n := 200) (v := z12) hX hC 63 rfl rfl mf_63 dX12_stops_98 h.1 h.2 (fun S13 H locs hC h => ?_)
        exact cut99 S13 _ _ _ h hC (lv_sub hl [0] rfl)
def wp_failure (a0 : Int32) (S : mS) (K : mS → Prop) : Prop := ((¬ (S.1 34) = 0 → wq_letGo (S.1 35) (S.1 29) S (fun (S2 : mS) => inR (S2.1 33) 200 ∧ ∀ S3 : mS, S3 = sF S2 62 (ix (S2.1 33)) 2 → inR (S3.1 33) 200 ∧ ∀ S4 : mS, S4 = sF S3 63 (ix (S3.1 33)) a0 → ∀ S5 : mS, S5 = sZ S4 32 (S4.1 37) → wp_stops (-1) S5 (fun (S6 : mS) => K S6))) ∧ ((S.1 34) = 0 → wp_raise a0 S (fun (S7 : mS) => K S7)))
theorem cw_X12_stops {R : Room} {s : State} {args : Array Value} {fr lo : Nat} (hts : ∀ w ∈ tb, w.before args s = true) (h1 : fr + 1 ≤ R.frames) (h2 : 8 + (2 + 11) + lo ≤ R.locals) : CallW R s args RX12 RX12 663 yX12_stops cX12_stops 2 none (.code yX12_stops cX12_stops 2 none :: tb) (mRm fr lo) 0 0 1 := cwV 1 hts (gd_V wd_2127 wd_2129 sl_X12_stops wd_15 wd_2130) rfl rfl rfl (by decide +kernel) ⟨h1, h2⟩
theorem cw_X12_raise {R : Room} {s : State} {args : Array Value} {fr lo : Nat} (hts : ∀ w ∈ tb, w.before args s = true) (h1 : fr + 1 ≤ R.frames) (h2 : 8 + (4 + 11) + lo ≤ R.locals) : CallW R s args RX12 RX12 612 yX12_raise cX12_raise 4 none (.code yX12_raise cX12_raise 4 none :: tb) (mRm fr lo) 0 0 1 := cwV 1 hts (gd_V wd_2054 wd_2056 sl_X12_raise wd_15 wd_2057) rfl rfl rfl (by decide +kernel) ⟨h1, h2⟩
set_option maxHeartbeats 4000000 in
set_option maxRecDepth 100000 in
theorem ct_failure (l : Launch) (S : mS) (a0 : Int32) (K : mS → Prop) (h : wp_failure a0 S K) : mMv l yX12_failure cX12_failure 2 none 697 16726 (fun E => [.int a0]) S K := by
  refine mv_ofv (by decide) rfl (fun _ => Nat.le_of_ble_eq_true rfl) ?_
  intro E p e R s m args below meth c A ls Q hRf hRl hX hC hl hret
  have hx := hX.1.1
  have hb := hX.1.2.1
  have hown := hX.1.2.2.2.1
  have hts := hX.1.2.2.2.2
  have hl : lv_has ls 2 [(0, .ref E.2.1), (1, .int a0)] := hl
  unfold wp_failure at h
  refine lv_aload_n hx hb dX12_failure_0 rfl (lv_at hl 0 rfl) ?_
  refine mv_get (v := .int (S.1 34)) hX hC 124 (Nat.le_of_ble_eq_true rfl) wd_1524 rfl dX12_failure_1 ?_
  refine lv_if_ne (tgt := 13) hx hb dX12_failure_4 (by decide) (fun c1 => ?_) (fun c1 => ?_)
  · have h := h.1 c1
    refine lv_aload_n hx hb dX12_failure_13 rfl (lv_at hl 0 rfl) ?_
    refine lv_aload_n hx hb dX12_failure_14 rfl (lv_at hl 0 rfl) ?_
    refine mv_get (v := .int (S.1 35)) hX hC 125 (Nat.le_of_ble_eq_true rfl) wd_1525 rfl dX12_failure_15 ?_
    refine lv_aload_n hx hb dX12_failure_18 rfl (lv_at hl 0 rfl) ?_
    refine mv_get (v := .int (S.1 29)) hX hC 110 (Nat.le_of_ble_eq_true rfl) wd_1510 rfl dX12_failure_19 ?_
    refine mv_callv [.int (S.1 35), .int (S.1 29)] (rest := []) hX hC (ct_letGo l S (S.1 35) (S.1 29) _ h E _) (cw_X12_letGo hts (by omega) (by omega)) rfl hl.1 (Nat.le_of_ble_eq_true rfl) ⟨Nat.zero_le _, Nat.zero_le _⟩ dX12_failure_22 (fun S2 H locs hC h => ?_)
    refine lv_aload_n hx hb dX12_failure_25 rfl (lv_at hl 0 rfl) ?_
    refine mv_get (v := .ref (E.2.2.1 62)) hX hC 86 (Nat.le_of_ble_eq_true rfl) wd_1486 rfl dX12_failure_26 ?_
    refine lv_aload_n hx hb dX12_failure_29 rfl (lv_at hl 0 rfl) ?_
    refine mv_get (v := .int (S2.1 33)) hX hC 123 (Nat.le_of_ble_eq_true rfl) wd_1523 rfl dX12_failure_30 ?_
    refine lv_iconst (v := 2) hx hb dX12_failure_33 (by decide) ?_
    refine mq_ist (n := 200) (v := 2) hX hC 62 rfl rfl mf_62 dX12_failure_34 h.1 h.2 (fun S3 H locs hC h => ?_)
    refine lv_aload_n hx hb dX12_failure_35 rfl (lv_at hl 0 rfl) ?_
    refine mv_get (v := .ref (E.2.2.1 63)) hX hC 87 (Nat.le_of_ble_eq_true rfl) wd_1487 rfl dX12_failure_36 ?_
    refine lv_aload_n hx hb dX12_failure_39 rfl (lv_at hl 0 rfl) ?_
    refine mv_get (v := .int (S3.1 33)) hX hC 123 (Nat.le_of_ble_eq_true rfl) wd_1523 rfl dX12_failure_40 ?_
    refine lv_iload_n hx hb dX12_failure_43 rfl (lv_at hl 1 rfl) ?_
    refine mq_ist (n := 200) (v := a0) hX hC 63 rfl rfl mf_63 dX12_failure_44 h.1 h.2 (fun S4 H locs hC h => ?_)
    refine lv_aload_n hx hb dX12_failure_45 rfl (lv_at hl 0 rfl) ?_
    refine lv_aload_n hx hb dX12_failure_46 rfl (lv_at hl 0 rfl) ?_
    refine mv_get (v := .int (S4.1 37)) hX hC 127 (Nat.le_of_ble_eq_true rfl) wd_1527 rfl dX12_failure_47 ?_
    refine mq_put (v := S4.1 37) hX hC 122 32 (Nat.le_of_ble_eq_true rfl) wd_1522 rfl rfl rfl mz_32 dX12_failure_50 h (fun S5 H locs hC h => ?_)
    refine lv_aload_n hx hb dX12_failure_53 rfl (lv_at hl 0 rfl) ?_
    refine lv_iconst (v := -1) hx hb dX12_failure_54 (by decide) ?_
    refine mv_callv [.int (-1)] (rest := []) hX hC (ct_stops l S5 (-1) _ h E _) (cw_X12_stops hts (by omega) (by omega)) rfl hl.1 (Nat.le_of_ble_eq_true rfl) ⟨Nat.zero_le _, Nat.zero_le _⟩ dX12_failure_55 (fun S6 H locs hC h => ?_)
    exact hret _ _ _ _ _ hC h dX12_failure_58
  · have h := h.2 c1
    refine lv_aload_n hx hb dX12_failure_7 rfl (lv_at hl 0 rfl) ?_
    refine lv_iload_n hx hb dX12_failure_8 rfl (lv_at hl 1 rfl) ?_
    refine mv_callv [.int a0] (rest := []) hX hC (ct_raise l S a0 _ h E _) (cw_X12_raise hts (by omega) (by omega)) rfl hl.1 (Nat.le_of_ble_eq_true rfl) ⟨Nat.zero_le _, Nat.zero_le _⟩ dX12_failure_9 (fun S7 H locs hC h => ?_)
    exact hret _ _ _ _ _ hC h dX12_failure_12
def wp_newNode_96 (K : mS → Int32 → Prop) (x4 : Int32) (S : mS) : Prop := inR (S.1 30) 100300 ∧ ∀ S14 : mS, S14 = sF S 87 (ix (S.1 30)) x4 → ∀ z15 : Int32, z15 = (S14.1 30) + 1 → ∀ S16 : mS, S16 = sZ S14 30 z15 → K S16 x4
def wp_newNode_54 (K : mS → Int32 → Prop) (x1 : Int32) (x2 : Int32) (x3 : Int32) (x4 : Int32) (y1 : Int32) (y2 : Int32) (S : mS) : Prop := inR y1 100300 ∧ ∀ S7 : mS, S7 = sF S 82 (ix y1) y2 → inR x4 100300 ∧ ∀ S8 : mS, S8 = sF S7 83 (ix x4) x2 → inR x4 100300 ∧ ∀ S9 : mS, S9 = sF S8 84 (ix x4) x3 → inR x4 100300 ∧ ∀ S10 : mS, S10 = sF S9 85 (ix x4) (S9.1 33) → ((¬ x2 = 0 → K S10 x4) ∧ (x2 = 0 → ((x1 = 3 → wp_newNode_96 K x4 S10) ∧ (¬ x1 = 3 → ((¬ x1 = 4 → K S10 x4) ∧ (x1 = 4 → wp_newNode_96 K x4 S10))))))
def wp_newNode (a0 : Int32) (a1 : Int32) (a2 : Int32) (S : mS) (K : mS → Int32 → Prop) : Prop := ∀ z1 : Int32, z1 = (S.1 29) + 1 → ∀ S2 : mS, S2 = sZ S 29 z1 → inR (S.1 29) 100300 ∧ ∀ S3 : mS, S3 = sF S2 80 (ix (S.1 29)) a0 → inR (S.1 29) 100300 ∧ ∀ S4 : mS, S4 = sF S3 81 (ix (S.1 29)) (S3.1 36) → ((3 ≤ a0 → ∀ z6 : Int32, z6 = (S.1 29) + 1 → wp_newNode_54 K a0 a1 a2 (S.1 29) (S.1 29) z6 S4) ∧ (¬ 3 ≤ a0 → wp_newNode_54 K a0 a1 a2 (S.1 29) (S.1 29) 0 S4))
set_option maxHeartbeats 4000000 in
set_option maxRecDepth 100000 in
theorem ct_newNode (l : Launch) (S : mS) (a0 : Int32) (a1 : Int32) (a2 : Int32) (K : mS → Int32 → Prop) (h : wp_newNode a0 a1 a2 S K) : mMi l yX12_newNode cX12_newNode 5 (some .int) 0 0 (fun E => [.int a0, .int a1, .int a2]) S K := by
  refine mv_ofi (by decide) rfl (fun _ => Nat.le_of_ble_eq_true rfl) ?_
  intro E p e R s m args below meth c A ls Q hRf hRl hX hC hl hret
  have hx := hX.1.1
  have hb := hX.1.2.1
  have hown := hX.1.2.2.2.1
  have hts := hX.1.2.2.2.2
  have cut96 : ∀ (x4 : Int32) (S : mS) (H : Heap) (locs : List Loc) (ls : Array Slot), wp_newNode_96 K x4 S → mC E A s.heap S H locs → lv_has ls 5 [(0, .ref E.2.1), (4, .int x4)] → W p l e R s m args below meth c H locs 0 0 Q (F0 m 96 ls []) := by
    intro x4 S H locs ls h hC hl
    unfold wp_newNode_96 at h
    refine lv_aload_n hx hb dX12_newNode_96 rfl (lv_at hl 0 rfl) ?_
    refine mv_get (v := .ref (E.2.2.1 87)) hX hC 118 (Nat.le_of_ble_eq_true rfl) wd_1518 rfl dX12_newNode_97 ?_
    refine lv_aload_n hx hb dX12_newNode_100 rfl (lv_at hl 0 rfl) ?_
    refine mv_get (v := .int (S.1 30)) hX hC 119 (Nat.le_of_ble_eq_true rfl) wd_1519 rfl dX12_newNode_101 ?_
    refine lv_iload hx hb dX12_newNode_104 (lv_at hl 1 rfl) ?_
    refine mq_ist (n := 100300) (v := x4) hX hC 87 rfl rfl mf_87 dX12_newNode_106 h.1 h.2 (fun S14 H locs hC h => ?_)
    refine lv_aload_n hx hb dX12_newNode_107 rfl (lv_at hl 0 rfl) ?_
    refine lv_dup hx hb dX12_newNode_108 rfl ?_
    refine mv_get (v := .int (S14.1 30)) hX hC 119 (Nat.le_of_ble_eq_true rfl) wd_1519 rfl dX12_newNode_109 ?_
    refine lv_iconst (v := 1) hx hb dX12_newNode_112 (by decide) ?_
    refine lq_iadd hx hb dX12_newNode_113 h (fun z15 h => ?_)
    refine mq_put (v := z15) hX hC 119 30 (Nat.le_of_ble_eq_true rfl) wd_1519 rfl rfl rfl mz_30 dX12_newNode_114 h (fun S16 H locs hC h => ?_)
    refine lv_iload hx hb dX12_newNode_117 (lv_at hl 1 rfl) ?_
    exact hret _ _ _ _ _ _ hC h dX12_newNode_119
  have cut54 : ∀ (x1 : Int32) (x2 : Int32) (x3 : Int32) (x4 : Int32) (y1 : Int32) (y2 : Int32) (S : mS) (H : Heap) (locs : List Loc) (ls : Array Slot), wp_newNode_54 K x1 x2 x3 x4 y1 y2 S → mC E A s.heap S H locs → lv_has ls 5 [(0, .ref E.2.1), (1, .int x1), (2, .int x2), (3, .int x3), (4, .int x4)] → W p l e R s m args below meth c H locs 0 0 Q (F0 m 54 ls [.int y2, .int y1, .ref (E.2.2.1 82)]) := by
    intro x1 x2 x3 x4 y1 y2 S H locs ls h hC hl
    unfold wp_newNode_54 at h
    refine mq_ist (n := 100300) (v := y2) hX hC 82 rfl rfl mf_82 dX12_newNode_54 h.1 h.2 (fun S7 H locs hC h => ?_)
    refine lv_aload_n hx hb dX12_newNode_55 rfl (lv_at hl 0 rfl) ?_
    refine mv_get (v := .ref (E.2.2.1 83)) hX hC 114 (Nat.le_of_ble_eq_true rfl) wd_1514 rfl dX12_newNode_56 ?_
    refine lv_iload hx hb dX12_newNode_59 (lv_at hl 4 rfl) ?_
    refine lv_iload_n hx hb dX12_newNode_61 rfl (lv_at hl 2 rfl) ?_
    refine mq_ist (n := 100300) (v := x2) hX hC 83 rfl rfl mf_83 dX12_newNode_62 h.1 h.2 (fun S8 H locs hC h => ?_)
    refine lv_aload_n hx hb dX12_newNode_63 rfl (lv_at hl 0 rfl) ?_
    refine mv_get (v := .ref (E.2.2.1 84)) hX hC 115 (Nat.le_of_ble_eq_true rfl) wd_1515 rfl dX12_newNode_64 ?_
    refine lv_iload hx hb dX12_newNode_67 (lv_at hl 4 rfl) ?_
    refine lv_iload_n hx hb dX12_newNode_69 rfl (lv_at hl 3 rfl) ?_
    refine mq_ist (n := 100300) (v := x3) hX hC 84 rfl rfl mf_84 dX12_newNode_70 h.1 h.2 (fun S9 H locs hC h => ?_)
    refine lv_aload_n hx hb dX12_newNode_71 rfl (lv_at hl 0 rfl) ?_
    refine mv_get (v := .ref (E.2.2.1 85)) hX hC 116 (Nat.le_of_ble_eq_true rfl) wd_1516 rfl dX12_newNode_72 ?_
    refine lv_iload hx hb dX12_newNode_75 (lv_at hl 4 rfl) ?_
    refine lv_aload_n hx hb dX12_newNode_77 rfl (lv_at hl 0 rfl) ?_
    refine mv_get (v := .int (S9.1 33)) hX hC 123 (Nat.le_of_ble_eq_true rfl) wd_1523 rfl dX12_newNode_78 ?_
    refine mq_ist (n := 100300) (v := S9.1 33) hX hC 85 rfl rfl mf_85 dX12_newNode_81 h.1 h.2 (fun S10 H locs hC h => ?_)
    refine lv_iload_n hx hb dX12_newNode_82 rfl (lv_at hl 2 rfl) ?_
    refine lv_if_ne (tgt := 117) hx hb dX12_newNode_83 (by decide) (fun c11 => ?_) (fun c11 => ?_)
    · have h := h.1 c11
      refine lv_iload hx hb dX12_newNode_117 (lv_at hl 4 rfl) ?_
      exact hret _ _ _ _ _ _ hC h dX12_newNode_119
    · have h := h.2 c11
      refine lv_iload_n hx hb dX12_newNode_86 rfl (lv_at hl 1 rfl) ?_
      refine lv_iconst (v := 3) hx hb dX12_newNode_87 (by decide) ?_
      refine lv_icmp_eq (tgt := 96) hx hb dX12_newNode_88 (by decide) (fun c12 => ?_) (fun c12 => ?_)
      · have h := h.1 c12
        exact cut96 x4 S10 _ _ _ h hC (lv_sub hl [0, 4] rfl)
      · have h := h.2 c12
        refine lv_iload_n hx hb dX12_newNode_91 rfl (lv_at hl 1 rfl) ?_
        refine lv_iconst (v := 4) hx hb dX12_newNode_92 (by decide) ?_
        refine lv_icmp_ne (tgt := 117) hx hb dX12_newNode_93 (by decide) (fun c13 => ?_) (fun c13 => ?_)
        · have h := h.1 c13
          refine lv_iload hx hb dX12_newNode_117 (lv_at hl 4 rfl) ?_
          exact hret _ _ _ _ _ _ hC h dX12_newNode_119
        · have h := h.2 c13
          exact cut96 x4 S10 _ _ _ h hC (lv_sub hl [0, 4] rfl)
  have hl : lv_has ls 5 [(0, .ref E.2.1), (1, .int a0), (2, .int a1), (3, .int a2)] := hl
  unfold wp_newNode at h
  refine lv_aload_n hx hb dX12_newNode_0 rfl (lv_at hl 0 rfl) ?_
  refine mv_get (v := .int (S.1 29)) hX hC 110 (Nat.le_of_ble_eq_true rfl) wd_1510 rfl dX12_newNode_1 ?_
  refine lv_istore (lv' := [(4, .int (S.1 29)), (0, .ref E.2.1), (1, .int a0), (2, .int a1), (3, .int a2)]) hx hb dX12_newNode_4 hl (by decide) rfl (fun ls hl => ?_)
  refine lv_aload_n hx hb dX12_newNode_6 rfl (lv_at hl 1 rfl) ?_
  refine lv_dup hx hb dX12_newNode_7 rfl ?_
  refine mv_get (v := .int (S.1 29)) hX hC 110 (Nat.le_of_ble_eq_true rfl) wd_1510 rfl dX12_newNode_8 ?_
  refine lv_iconst (v := 1) hx hb dX12_newNode_11 (by decide) ?_
  refine lq_iadd hx hb dX12_newNode_12 h (fun z1 h => ?_)
  refine mq_put (v := z1) hX hC 110 29 (Nat.le_of_ble_eq_true rfl) wd_1510 rfl rfl rfl mz_29 dX12_newNode_13 h (fun S2 H locs hC h => ?_)
  refine lv_aload_n hx hb dX12_newNode_16 rfl (lv_at hl 1 rfl) ?_
  refine mv_get (v := .ref (E.2.2.1 80)) hX hC 111 (Nat.le_of_ble_eq_true rfl) wd_1511 rfl dX12_newNode_17 ?_
  refine lv_iload hx hb dX12_newNode_20 (lv_at hl 0 rfl) ?_
  refine lv_iload_n hx hb dX12_newNode_22 rfl (lv_at hl 2 rfl) ?_
  refine mq_ist (n := 100300) (v := a0) hX hC 80 rfl rfl mf_80 dX12_newNode_23 h.1 h.2 (fun S3 H locs hC h => ?_)
  refine lv_aload_n hx hb dX12_newNode_24 rfl (lv_at hl 1 rfl) ?_
  refine mv_get (v := .ref (E.2.2.1 81)) hX hC 112 (Nat.le_of_ble_eq_true rfl) wd_1512 rfl dX12_newNode_25 ?_
  refine lv_iload hx hb dX12_newNode_28 (lv_at hl 0 rfl) ?_
  refine lv_aload_n hx hb dX12_newNode_30 rfl (lv_at hl 1 rfl) ?_
  refine mv_get (v := .int (S3.1 36)) hX hC 126 (Nat.le_of_ble_eq_true rfl) wd_1526 rfl dX12_newNode_31 ?_
  refine mq_ist (n := 100300) (v := S3.1 36) hX hC 81 rfl rfl mf_81 dX12_newNode_34 h.1 h.2 (fun S4 H locs hC h => ?_)
  refine lv_aload_n hx hb dX12_newNode_35 rfl (lv_at hl 1 rfl) ?_
  refine mv_get (v := .ref (E.2.2.1 82)) hX hC 113 (Nat.le_of_ble_eq_true rfl) wd_1513 rfl dX12_newNode_36 ?_
  refine lv_iload hx hb dX12_newNode_39 (lv_at hl 0 rfl) ?_
  refine lv_iload_n hx hb dX12_newNode_41 rfl (lv_at hl 2 rfl) ?_
  refine lv_iconst (v := 3) hx hb dX12_newNode_42 (by decide) ?_
  refine lv_icmp_ge (tgt := 50) hx hb dX12_newNode_43 (by decide) (fun c5 => ?_) (fun c5 => ?_)
  · have h := h.1 c5
    refine lv_iload hx hb dX12_newNode_50 (lv_at hl 0 rfl) ?_
    refine lv_iconst (v := 1) hx hb dX12_newNode_52 (by decide) ?_
    refine lq_iadd hx hb dX12_newNode_53 h (fun z6 h => ?_)
    exact cut54 a0 a1 a2 (S.1 29) (S.1 29) z6 S4 _ _ _ h hC (lv_sub hl [1, 2, 3, 4, 0] rfl)
  · have h := h.2 c5
    refine lv_iconst (v := 0) hx hb dX12_newNode_46 (by decide) ?_
    refine lv_goto (tgt := 54) hx hb dX12_newNode_47 (by decide) ?_
    exact cut54 a0 a1 a2 (S.1 29) (S.1 29) 0 S4 _ _ _ h hC (lv_sub hl [1, 2, 3, 4, 0] rfl)
def wp_childNode_54 (K : mS → Prop) (k54 : Int32 × Int32 × Int32 × mS → Prop) (x2 : Int32) (x4 : Int32) (x5 : Int32) (S : mS) : Prop := ((x2 ≤ x5 → inR (S.1 33) 200 ∧ ∀ z8 : Int32, z8 = S.2.1 67 (ix (S.1 33)) → ∀ z9 : Int32, z9 = z8 + 1 → inR (S.1 33) 200 ∧ ∀ S10 : mS, S10 = sF S 67 (ix (S.1 33)) z9 → K S10) ∧ (¬ x2 ≤ x5 → ∀ z11 : Int32, z11 = 12 * x4 → ∀ z12 : Int32, z12 = z11 + x5 → ∀ z13 : Int32, z13 = (S.1 31) + x5 → inR z13 4000 ∧ ∀ z14 : Int32, z14 = S.2.1 88 (ix z13) → inR z12 2400 ∧ ∀ S15 : mS, S15 = sF S 58 (ix z12) z14 → ∀ z16 : Int32, z16 = x5 + 1 → k54 (x2, x4, z16, S15)))
def ls_childNode_54 (K : mS → Prop) (k54 : Int32 × Int32 × Int32 × mS → Prop) (u : Int32 × Int32 × Int32 × mS) : Prop := wp_childNode_54 K k54 u.1 u.2.1 u.2.2.1 u.2.2.2
def wp_childNode (a0 : Int32) (a1 : Int32) (S : mS) (K : mS → Prop) : Prop := ∀ z1 : Int32, z1 = (S.1 31) - a1 → ∀ S2 : mS, S2 = sZ S 31 z1 → ((¬ (S2.1 22) = 200 → wp_newNode 6 0 (S2.1 22) S2 (fun (S4 : mS) (r4 : Int32) => wp_newTask a0 (S4.1 33) r4 S4 (fun (S5 : mS) (r5 : Int32) => (∃ n9, it (ls_childNode_54 K) n9 (a1, r5, 0, S5))))) ∧ ((S2.1 22) = 200 → wp_failure 23 S2 (fun (S6 : mS) => K S6)))
theorem cw_X12_newNode {R : Room} {s : State} {args : Array Value} {fr lo : Nat} (hts : ∀ w ∈ tb, w.before args s = true) (h1 : fr + 1 ≤ R.frames) (h2 : 8 + (5 + 11) + lo ≤ R.locals) : CallW R s args RX12 RX12 672 yX12_newNode cX12_newNode 5 (some .int) (.code yX12_newNode cX12_newNode 5 (some .int) :: tb) (mRm fr lo) 0 0 3 := cwV 3 hts (gd_V wd_2111 wd_2113 sl_X12_newNode wd_15 wd_2114) rfl rfl rfl (by decide +kernel) ⟨h1, h2⟩
theorem cw_X12_failure {R : Room} {s : State} {args : Array Value} {fr lo : Nat} (hts : ∀ w ∈ tb, w.before args s = true) (h1 : fr + 1 ≤ R.frames) (h2 : 8 + (2 + 11) + lo ≤ R.locals) : CallW R s args RX12 RX12 654 yX12_failure cX12_failure 2 none (.code yX12_failure cX12_failure 2 none :: tb) (mRm fr lo) 0 0 1 := cwV 1 hts (gd_V wd_2123 wd_2125 sl_X12_failure wd_15 wd_2126) rfl rfl rfl (by decide +kernel) ⟨h1, h2⟩
set_option maxHeartbeats 4000000 in
set_option maxRecDepth 100000 in
theorem ct_childNode (l : Launch) (S : mS) (a0 : Int32) (a1 : Int32) (K : mS → Prop) (h : wp_childNode a0 a1 S K) : mMv l yX12_childNode cX12_childNode 6 none 698 16747 (fun E => [.int a0, .int a1]) S K := by
  refine mv_ofv (by decide) rfl (fun _ => Nat.le_of_ble_eq_true rfl) ?_
  intro E p e R s m args below meth c A ls Q hRf hRl hX hC hl hret
  have hx := hX.1.1
  have hb := hX.1.2.1
  have hown := hX.1.2.2.2.1
  have hts := hX.1.2.2.2.2
  have cut54 : ∀ (n54 : Nat) (x2 : Int32) (x4 : Int32) (x5 : Int32) (S : mS) (H : Heap) (locs : List Loc) (ls : Array Slot), it (ls_childNode_54 K) n54 (x2, x4, x5, S) → mC E A s.heap S H locs → lv_has ls 6 [(0, .ref E.2.1), (2, .int x2), (4, .int x4), (5, .int x5)] → W p l e R s m args below meth c H locs 0 0 Q (F0 m 54 ls []) := by
    intro n54
    induction n54 with
    | zero => intro x2 x4 x5 S H locs ls h hC hl; exact h.elim
    | succ n54 ih54 =>
      intro x2 x4 x5 S H locs ls h hC hl
      have h : wp_childNode_54 K (it (ls_childNode_54 K) n54) x2 x4 x5 S := h
      unfold wp_childNode_54 at h
      refine lv_iload hx hb dX12_childNode_54 (lv_at hl 3 rfl) ?_
      refine lv_iload_n hx hb dX12_childNode_56 rfl (lv_at hl 1 rfl) ?_
      refine lv_icmp_ge (tgt := 91) hx hb dX12_childNode_57 (by decide) (fun c7 => ?_) (fun c7 => ?_)
      · have h := h.1 c7
        refine lv_aload_n hx hb dX12_childNode_91 rfl (lv_at hl 0 rfl) ?_
        refine mv_get (v := .ref (E.2.2.1 67)) hX hC 91 (Nat.le_of_ble_eq_true rfl) wd_1491 rfl dX12_childNode_92 ?_
        refine lv_aload_n hx hb dX12_childNode_95 rfl (lv_at hl 0 rfl) ?_
        refine mv_get (v := .int (S.1 33)) hX hC 123 (Nat.le_of_ble_eq_true rfl) wd_1523 rfl dX12_childNode_96 ?_
        refine lv_dup2_11 hx hb dX12_childNode_99 rfl rfl ?_
        refine mq_ild (n := 200) hX hC 67 rfl rfl dX12_childNode_100 h (fun z8 h => ?_)
        refine lv_iconst (v := 1) hx hb dX12_childNode_101 (by decide) ?_
        refine lq_iadd hx hb dX12_childNode_102 h (fun z9 h => ?_)
        refine mq_ist (n := 200) (v := z9) hX hC 67 rfl rfl mf_67 dX12_childNode_103 h.1 h.2 (fun S10 H locs hC h => ?_)
        exact hret _ _ _ _ _ hC h dX12_childNode_104
      · have h := h.2 c7
        refine lv_aload_n hx hb dX12_childNode_60 rfl (lv_at hl 0 rfl) ?_
        refine mv_get (v := .ref (E.2.2.1 58)) hX hC 82 (Nat.le_of_ble_eq_true rfl) wd_1482 rfl dX12_childNode_61 ?_
        refine lv_bipush (v := 12) hx hb dX12_childNode_64 (by decide) ?_
        refine lv_iload hx hb dX12_childNode_66 (lv_at hl 2 rfl) ?_
        refine lq_imul hx hb dX12_childNode_68 h (fun z11 h => ?_)
        refine lv_iload hx hb dX12_childNode_69 (lv_at hl 3 rfl) ?_
        refine lq_iadd hx hb dX12_childNode_71 h (fun z12 h => ?_)
        refine lv_aload_n hx hb dX12_childNode_72 rfl (lv_at hl 0 rfl) ?_
        refine mv_get (v := .ref (E.2.2.1 88)) hX hC 120 (Nat.le_of_ble_eq_true rfl) wd_1520 rfl dX12_childNode_73 ?_
        refine lv_aload_n hx hb dX12_childNode_76 rfl (lv_at hl 0 rfl) ?_
        refine mv_get (v := .int (S.1 31)) hX hC 121 (Nat.le_of_ble_eq_true rfl) wd_1521 rfl dX12_childNode_77 ?_
        refine lv_iload hx hb dX12_childNode_80 (lv_at hl 3 rfl) ?_
        refine lq_iadd hx hb dX12_childNode_82 h (fun z13 h => ?_)
        refine mq_ild (n := 4000) hX hC 88 rfl rfl dX12_childNode_83 h (fun z14 h => ?_)
        refine mq_ist (n := 2400) (v := z14) hX hC 58 rfl rfl mf_58 dX12_childNode_84 h.1 h.2 (fun S15 H locs hC h => ?_)
        obtain ⟨z16, ez16⟩ : ∃ y : Int32, y = x5 + 1 := ⟨_, rfl⟩
        have h := h z16 ez16
        refine lv_iinc (v := z16) (lv' := [(5, .int z16), (0, .ref E.2.1), (2, .int x2), (4, .int x4)]) hx hb dX12_childNode_85 hl (k := 3) rfl (by rw [ez16]; rfl) (by decide) rfl (fun ls hl => ?_)
        refine lv_goto (tgt := 54) hx hb dX12_childNode_88 (by decide) ?_
        exact ih54 x2 x4 z16 S15 _ _ _ h hC (lv_sub hl [1, 2, 3, 0] rfl)
  have hl : lv_has ls 6 [(0, .ref E.2.1), (1, .int a0), (2, .int a1)] := hl
  unfold wp_childNode at h
  refine lv_aload_n hx hb dX12_childNode_0 rfl (lv_at hl 0 rfl) ?_
  refine lv_dup hx hb dX12_childNode_1 rfl ?_
  refine mv_get (v := .int (S.1 31)) hX hC 121 (Nat.le_of_ble_eq_true rfl) wd_1521 rfl dX12_childNode_2 ?_
  refine lv_iload_n hx hb dX12_childNode_5 rfl (lv_at hl 2 rfl) ?_
  refine lq_isub hx hb dX12_childNode_6 h (fun z1 h => ?_)
  refine mq_put (v := z1) hX hC 121 31 (Nat.le_of_ble_eq_true rfl) wd_1521 rfl rfl rfl mz_31 dX12_childNode_7 h (fun S2 H locs hC h => ?_)
  refine lv_aload_n hx hb dX12_childNode_10 rfl (lv_at hl 0 rfl) ?_
  refine mv_get (v := .int (S2.1 22)) hX hC 74 (Nat.le_of_ble_eq_true rfl) wd_1474 rfl dX12_childNode_11 ?_
  refine lv_sipush (v := 200) hx hb dX12_childNode_14 (by decide) ?_
  refine lv_icmp_ne (tgt := 27) hx hb dX12_childNode_17 (by decide) (fun c3 => ?_) (fun c3 => ?_)
  · have h := h.1 c3
    refine lv_aload_n hx hb dX12_childNode_27 rfl (lv_at hl 0 rfl) ?_
    refine lv_bipush (v := 6) hx hb dX12_childNode_28 (by decide) ?_
    refine lv_iconst (v := 0) hx hb dX12_childNode_30 (by decide) ?_
    refine lv_aload_n hx hb dX12_childNode_31 rfl (lv_at hl 0 rfl) ?_
    refine mv_get (v := .int (S2.1 22)) hX hC 74 (Nat.le_of_ble_eq_true rfl) wd_1474 rfl dX12_childNode_32 ?_
    refine mv_calli [.int 6, .int 0, .int (S2.1 22)] (rest := []) hX hC (ct_newNode l S2 6 0 (S2.1 22) _ h E _) (cw_X12_newNode hts (by omega) (by omega)) rfl hl.1 (Nat.le_of_ble_eq_true rfl) ⟨Nat.zero_le _, Nat.zero_le _⟩ dX12_childNode_35 (fun r4 S4 H locs hC h => ?_)
    refine lv_istore_n (lv' := [(3, .int r4), (0, .ref E.2.1), (1, .int a0), (2, .int a1)]) hx hb dX12_childNode_38 rfl hl (by decide) rfl (fun ls hl => ?_)
    refine lv_aload_n hx hb dX12_childNode_39 rfl (lv_at hl 1 rfl) ?_
    refine lv_iload_n hx hb dX12_childNode_40 rfl (lv_at hl 2 rfl) ?_
    refine lv_aload_n hx hb dX12_childNode_41 rfl (lv_at hl 1 rfl) ?_
    refine mv_get (v := .int (S4.1 33)) hX hC 123 (Nat.le_of_ble_eq_true rfl) wd_1523 rfl dX12_childNode_42 ?_
    refine lv_iload_n hx hb dX12_childNode_45 rfl (lv_at hl 0 rfl) ?_
    refine mv_calli [.int a0, .int (S4.1 33), .int r4] (rest := []) hX hC (ct_newTask l S4 a0 (S4.1 33) r4 _ h E _) (cw_X12_newTask hts (by omega) (by omega)) rfl hl.1 (Nat.le_of_ble_eq_true rfl) ⟨Nat.zero_le _, Nat.zero_le _⟩ dX12_childNode_46 (fun r5 S5 H locs hC h => ?_)
    refine lv_istore (lv' := [(4, .int r5), (3, .int r4), (0, .ref E.2.1), (1, .int a0), (2, .int a1)]) hx hb dX12_childNode_49 hl (by decide) rfl (fun ls hl => ?_)
    refine lv_iconst (v := 0) hx hb dX12_childNode_51 (by decide) ?_
    refine lv_istore (lv' := [(5, .int 0), (4, .int r5), (3, .int r4), (0, .ref E.2.1), (1, .int a0), (2, .int a1)]) hx hb dX12_childNode_52 hl (by decide) rfl (fun ls hl => ?_)
    obtain ⟨n9, h⟩ := h
    exact cut54 n9 a1 r5 0 S5 _ _ _ h hC (lv_sub hl [3, 5, 1, 0] rfl)
  · have h := h.2 c3
    refine lv_aload_n hx hb dX12_childNode_20 rfl (lv_at hl 0 rfl) ?_
    refine lv_bipush (v := 23) hx hb dX12_childNode_21 (by decide) ?_
    refine mv_callv [.int 23] (rest := []) hX hC (ct_failure l S2 23 _ h E _) (cw_X12_failure hts (by omega) (by omega)) rfl hl.1 (Nat.le_of_ble_eq_true rfl) ⟨Nat.zero_le _, Nat.zero_le _⟩ dX12_childNode_23 (fun S6 H locs hC h => ?_)
    exact hret _ _ _ _ _ hC h dX12_childNode_26
