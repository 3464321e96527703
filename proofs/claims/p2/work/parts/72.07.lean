theorem wd_2026 : (Jvm.Cond.methodLink "SleepersModel" (572 : Nat) ({ cls := "SleepersModel", name := "decides", desc := "(III)V" } : Jvm.MethodName)) ∈ tb := tb_at 2026 (by decide +kernel) (by decide +kernel)
theorem wd_2028 : (Jvm.Cond.instanceMethod ({ cls := "SleepersModel", name := "decides", desc := "(III)V" } : Jvm.MethodName)) ∈ tb := tb_at 2028 (by decide +kernel) (by decide +kernel)
theorem wd_2029 : (Jvm.Cond.code ({ cls := "SleepersModel", name := "decides", desc := "(III)V" } : Jvm.MethodName) prog_14_method_65_code (5 : Nat) (Option.none : Option Jvm.ClassFile.FieldType)) ∈ tb := tb_at 2029 (by decide +kernel) (by decide +kernel)
theorem wd_2030 : (Jvm.Cond.methodLink "SleepersModel" (575 : Nat) ({ cls := "SleepersModel", name := "waitEnds", desc := "(III)V" } : Jvm.MethodName)) ∈ tb := tb_at 2030 (by decide +kernel) (by decide +kernel)
theorem wd_2032 : (Jvm.Cond.instanceMethod ({ cls := "SleepersModel", name := "waitEnds", desc := "(III)V" } : Jvm.MethodName)) ∈ tb := tb_at 2032 (by decide +kernel) (by decide +kernel)
theorem wd_2033 : (Jvm.Cond.code ({ cls := "SleepersModel", name := "waitEnds", desc := "(III)V" } : Jvm.MethodName) prog_14_method_69_code (4 : Nat) (Option.none : Option Jvm.ClassFile.FieldType)) ∈ tb := tb_at 2033 (by decide +kernel) (by decide +kernel)
theorem wd_2034 : (Jvm.Cond.methodLink "SleepersModel" (578 : Nat) ({ cls := "SleepersModel", name := "weighs", desc := "(I)V" } : Jvm.MethodName)) ∈ tb := tb_at 2034 (by decide +kernel) (by decide +kernel)
theorem wd_2036 : (Jvm.Cond.instanceMethod ({ cls := "SleepersModel", name := "weighs", desc := "(I)V" } : Jvm.MethodName)) ∈ tb := tb_at 2036 (by decide +kernel) (by decide +kernel)
theorem wd_2037 : (Jvm.Cond.code ({ cls := "SleepersModel", name := "weighs", desc := "(I)V" } : Jvm.MethodName) prog_14_method_66_code (8 : Nat) (Option.none : Option Jvm.ClassFile.FieldType)) ∈ tb := tb_at 2037 (by decide +kernel) (by decide +kernel)
theorem wd_2038 : (Jvm.Cond.methodLink "SleepersModel" (581 : Nat) ({ cls := "SleepersModel", name := "letGo", desc := "(II)V" } : Jvm.MethodName)) ∈ tb := tb_at 2038 (by decide +kernel) (by decide +kernel)
theorem wd_2040 : (Jvm.Cond.instanceMethod ({ cls := "SleepersModel", name := "letGo", desc := "(II)V" } : Jvm.MethodName)) ∈ tb := tb_at 2040 (by decide +kernel) (by decide +kernel)
theorem wd_2041 : (Jvm.Cond.code ({ cls := "SleepersModel", name := "letGo", desc := "(II)V" } : Jvm.MethodName) prog_14_method_67_code (4 : Nat) (Option.none : Option Jvm.ClassFile.FieldType)) ∈ tb := tb_at 2041 (by decide +kernel) (by decide +kernel)
theorem sl_X12_decides : Cond.selects RX12 yX12_decides yX12_decides ∈ tb := sl_of (y := ⟨"SleepersModel", "decides", "(III)V"⟩) (n := 128) (by decide +kernel) (by decide +kernel)
theorem sl_X12_letGo : Cond.selects RX12 yX12_letGo yX12_letGo ∈ tb := sl_of (y := ⟨"SleepersModel", "letGo", "(II)V"⟩) (n := 128) (by decide +kernel) (by decide +kernel)
theorem sl_X12_waitEnds : Cond.selects RX12 yX12_waitEnds yX12_waitEnds ∈ tb := sl_of (y := ⟨"SleepersModel", "waitEnds", "(III)V"⟩) (n := 128) (by decide +kernel) (by decide +kernel)
theorem sl_X12_weighs : Cond.selects RX12 yX12_weighs yX12_weighs ∈ tb := sl_of (y := ⟨"SleepersModel", "weighs", "(I)V"⟩) (n := 128) (by decide +kernel) (by decide +kernel)
theorem dX12_decides_0 : decode cX12_decides 0 = .ok (.aload_n 0, 1) := by decide +kernel
theorem dX12_decides_1 : decode cX12_decides 1 = .ok (.getfield 283, 3) := by decide +kernel
theorem dX12_decides_4 : decode cX12_decides 4 = .ok (.iload_n 1, 1) := by decide +kernel
theorem dX12_decides_5 : decode cX12_decides 5 = .ok (.iload_n 2, 1) := by decide +kernel
theorem dX12_decides_6 : decode cX12_decides 6 = .ok (.iastore, 1) := by decide +kernel
theorem dX12_decides_7 : decode cX12_decides 7 = .ok (.aload_n 0, 1) := by decide +kernel
theorem dX12_decides_8 : decode cX12_decides 8 = .ok (.getfield 286, 3) := by decide +kernel
theorem dX12_decides_11 : decode cX12_decides 11 = .ok (.iload_n 1, 1) := by decide +kernel
theorem dX12_decides_12 : decode cX12_decides 12 = .ok (.iload_n 3, 1) := by decide +kernel
theorem dX12_decides_13 : decode cX12_decides 13 = .ok (.iastore, 1) := by decide +kernel
theorem dX12_decides_14 : decode cX12_decides 14 = .ok (.aload_n 0, 1) := by decide +kernel
theorem dX12_decides_15 : decode cX12_decides 15 = .ok (.getfield 277, 3) := by decide +kernel
theorem dX12_decides_18 : decode cX12_decides 18 = .ok (.iload_n 1, 1) := by decide +kernel
theorem dX12_decides_19 : decode cX12_decides 19 = .ok (.iaload, 1) := by decide +kernel
theorem dX12_decides_20 : decode cX12_decides 20 = .ok (.istore 4, 2) := by decide +kernel
theorem dX12_decides_22 : decode cX12_decides 22 = .ok (.iload 4, 2) := by decide +kernel
theorem dX12_decides_24 : decode cX12_decides 24 = .ok (.ifCond .ge 18, 3) := by decide +kernel
theorem dX12_decides_27 : decode cX12_decides 27 = .ok (.aload_n 0, 1) := by decide +kernel
theorem dX12_decides_28 : decode cX12_decides 28 = .ok (.aload_n 0, 1) := by decide +kernel
theorem dX12_decides_29 : decode cX12_decides 29 = .ok (.getfield 289, 3) := by decide +kernel
theorem dX12_decides_32 : decode cX12_decides 32 = .ok (.iload_n 1, 1) := by decide +kernel
theorem dX12_decides_33 : decode cX12_decides 33 = .ok (.iaload, 1) := by decide +kernel
theorem dX12_decides_34 : decode cX12_decides 34 = .ok (.iload_n 2, 1) := by decide +kernel
theorem dX12_decides_35 : decode cX12_decides 35 = .ok (.iload_n 3, 1) := by decide +kernel
theorem dX12_decides_36 : decode cX12_decides 36 = .ok (.invokevirtual 575, 3) := by decide +kernel
theorem dX12_decides_39 : decode cX12_decides 39 = .ok (.goto 29, 3) := by decide +kernel
theorem dX12_decides_42 : decode cX12_decides 42 = .ok (.aload_n 0, 1) := by decide +kernel
theorem dX12_decides_43 : decode cX12_decides 43 = .ok (.getfield 283, 3) := by decide +kernel
theorem dX12_decides_46 : decode cX12_decides 46 = .ok (.iload 4, 2) := by decide +kernel
theorem dX12_decides_48 : decode cX12_decides 48 = .ok (.iaload, 1) := by decide +kernel
theorem dX12_decides_49 : decode cX12_decides 49 = .ok (.ifCond .ne 19, 3) := by decide +kernel
theorem dX12_decides_52 : decode cX12_decides 52 = .ok (.aload_n 0, 1) := by decide +kernel
theorem dX12_decides_53 : decode cX12_decides 53 = .ok (.getfield 280, 3) := by decide +kernel
theorem dX12_decides_56 : decode cX12_decides 56 = .ok (.iload 4, 2) := by decide +kernel
theorem dX12_decides_58 : decode cX12_decides 58 = .ok (.iaload, 1) := by decide +kernel
theorem dX12_decides_59 : decode cX12_decides 59 = .ok (.ifCond .le 9, 3) := by decide +kernel
theorem dX12_decides_62 : decode cX12_decides 62 = .ok (.aload_n 0, 1) := by decide +kernel
theorem dX12_decides_63 : decode cX12_decides 63 = .ok (.iload 4, 2) := by decide +kernel
theorem dX12_decides_65 : decode cX12_decides 65 = .ok (.invokevirtual 578, 3) := by decide +kernel
theorem dX12_decides_68 : decode cX12_decides 68 = .ok (.return_, 1) := by decide +kernel
theorem dX12_ends_0 : decode cX12_ends 0 = .ok (.aload_n 0, 1) := by decide +kernel
theorem dX12_ends_1 : decode cX12_ends 1 = .ok (.getfield 195, 3) := by decide +kernel
theorem dX12_ends_4 : decode cX12_ends 4 = .ok (.iload_n 1, 1) := by decide +kernel
theorem dX12_ends_5 : decode cX12_ends 5 = .ok (.iconst 3, 1) := by decide +kernel
theorem dX12_ends_6 : decode cX12_ends 6 = .ok (.iastore, 1) := by decide +kernel
theorem dX12_ends_7 : decode cX12_ends 7 = .ok (.aload_n 0, 1) := by decide +kernel
theorem dX12_ends_8 : decode cX12_ends 8 = .ok (.getfield 198, 3) := by decide +kernel
theorem dX12_ends_11 : decode cX12_ends 11 = .ok (.iload_n 1, 1) := by decide +kernel
theorem dX12_ends_12 : decode cX12_ends 12 = .ok (.iload_n 2, 1) := by decide +kernel
theorem dX12_ends_13 : decode cX12_ends 13 = .ok (.iastore, 1) := by decide +kernel
theorem dX12_ends_14 : decode cX12_ends 14 = .ok (.aload_n 0, 1) := by decide +kernel
theorem dX12_ends_15 : decode cX12_ends 15 = .ok (.getfield 201, 3) := by decide +kernel
theorem dX12_ends_18 : decode cX12_ends 18 = .ok (.iload_n 1, 1) := by decide +kernel
theorem dX12_ends_19 : decode cX12_ends 19 = .ok (.iload_n 2, 1) := by decide +kernel
theorem dX12_ends_20 : decode cX12_ends 20 = .ok (.ifCond .ne 7, 3) := by decide +kernel
theorem dX12_ends_23 : decode cX12_ends 23 = .ok (.iload_n 3, 1) := by decide +kernel
theorem dX12_ends_24 : decode cX12_ends 24 = .ok (.goto 4, 3) := by decide +kernel
theorem dX12_ends_27 : decode cX12_ends 27 = .ok (.iconst 0, 1) := by decide +kernel
theorem dX12_ends_28 : decode cX12_ends 28 = .ok (.iastore, 1) := by decide +kernel
theorem dX12_ends_29 : decode cX12_ends 29 = .ok (.aload_n 0, 1) := by decide +kernel
theorem dX12_ends_30 : decode cX12_ends 30 = .ok (.getfield 189, 3) := by decide +kernel
theorem dX12_ends_33 : decode cX12_ends 33 = .ok (.iload_n 1, 1) := by decide +kernel
theorem dX12_ends_34 : decode cX12_ends 34 = .ok (.iaload, 1) := by decide +kernel
theorem dX12_ends_35 : decode cX12_ends 35 = .ok (.istore 4, 2) := by decide +kernel
theorem dX12_ends_37 : decode cX12_ends 37 = .ok (.iload 4, 2) := by decide +kernel
theorem dX12_ends_39 : decode cX12_ends 39 = .ok (.ifCond .ge 4, 3) := by decide +kernel
theorem dX12_ends_42 : decode cX12_ends 42 = .ok (.return_, 1) := by decide +kernel
theorem dX12_ends_43 : decode cX12_ends 43 = .ok (.aload_n 0, 1) := by decide +kernel
theorem dX12_ends_44 : decode cX12_ends 44 = .ok (.getfield 234, 3) := by decide +kernel
theorem dX12_ends_47 : decode cX12_ends 47 = .ok (.iload 4, 2) := by decide +kernel
theorem dX12_ends_49 : decode cX12_ends 49 = .ok (.dup2, 1) := by decide +kernel
theorem dX12_ends_50 : decode cX12_ends 50 = .ok (.iaload, 1) := by decide +kernel
theorem dX12_ends_51 : decode cX12_ends 51 = .ok (.iconst 1, 1) := by decide +kernel
theorem dX12_ends_52 : decode cX12_ends 52 = .ok (.isub, 1) := by decide +kernel
theorem dX12_ends_53 : decode cX12_ends 53 = .ok (.iastore, 1) := by decide +kernel
theorem dX12_ends_54 : decode cX12_ends 54 = .ok (.aload_n 0, 1) := by decide +kernel
theorem dX12_ends_55 : decode cX12_ends 55 = .ok (.getfield 192, 3) := by decide +kernel
theorem dX12_ends_58 : decode cX12_ends 58 = .ok (.iload_n 1, 1) := by decide +kernel
theorem dX12_ends_59 : decode cX12_ends 59 = .ok (.iaload, 1) := by decide +kernel
theorem dX12_ends_60 : decode cX12_ends 60 = .ok (.istore 5, 2) := by decide +kernel
theorem dX12_ends_62 : decode cX12_ends 62 = .ok (.aload_n 0, 1) := by decide +kernel
theorem dX12_ends_63 : decode cX12_ends 63 = .ok (.getfield 283, 3) := by decide +kernel
theorem dX12_ends_66 : decode cX12_ends 66 = .ok (.iload 5, 2) := by decide +kernel
theorem dX12_ends_68 : decode cX12_ends 68 = .ok (.iaload, 1) := by decide +kernel
theorem dX12_ends_69 : decode cX12_ends 69 = .ok (.ifCond .ne 27, 3) := by decide +kernel
theorem dX12_ends_72 : decode cX12_ends 72 = .ok (.aload_n 0, 1) := by decide +kernel
theorem dX12_ends_73 : decode cX12_ends 73 = .ok (.iload 5, 2) := by decide +kernel
theorem dX12_ends_75 : decode cX12_ends 75 = .ok (.iload_n 2, 1) := by decide +kernel
theorem dX12_ends_76 : decode cX12_ends 76 = .ok (.ifCond .ne 7, 3) := by decide +kernel
theorem dX12_ends_79 : decode cX12_ends 79 = .ok (.iconst 1, 1) := by decide +kernel
theorem dX12_ends_80 : decode cX12_ends 80 = .ok (.goto 4, 3) := by decide +kernel
theorem dX12_ends_83 : decode cX12_ends 83 = .ok (.iconst 2, 1) := by decide +kernel
theorem dX12_ends_84 : decode cX12_ends 84 = .ok (.iload_n 2, 1) := by decide +kernel
theorem dX12_ends_85 : decode cX12_ends 85 = .ok (.ifCond .ne 7, 3) := by decide +kernel
theorem dX12_ends_88 : decode cX12_ends 88 = .ok (.iload_n 3, 1) := by decide +kernel
theorem dX12_ends_89 : decode cX12_ends 89 = .ok (.goto 4, 3) := by decide +kernel
theorem dX12_ends_92 : decode cX12_ends 92 = .ok (.iload_n 2, 1) := by decide +kernel
theorem dX12_ends_93 : decode cX12_ends 93 = .ok (.invokevirtual 572, 3) := by decide +kernel
theorem dX12_ends_96 : decode cX12_ends 96 = .ok (.aload_n 0, 1) := by decide +kernel
theorem dX12_ends_97 : decode cX12_ends 97 = .ok (.getfield 195, 3) := by decide +kernel
theorem dX12_ends_100 : decode cX12_ends 100 = .ok (.iload 4, 2) := by decide +kernel
theorem dX12_ends_102 : decode cX12_ends 102 = .ok (.iaload, 1) := by decide +kernel
theorem dX12_ends_103 : decode cX12_ends 103 = .ok (.iconst 2, 1) := by decide +kernel
theorem dX12_ends_104 : decode cX12_ends 104 = .ok (.if_icmp .ne 19, 3) := by decide +kernel
theorem dX12_ends_107 : decode cX12_ends 107 = .ok (.aload_n 0, 1) := by decide +kernel
theorem dX12_ends_108 : decode cX12_ends 108 = .ok (.getfield 234, 3) := by decide +kernel
theorem dX12_ends_111 : decode cX12_ends 111 = .ok (.iload 4, 2) := by decide +kernel
theorem dX12_ends_113 : decode cX12_ends 113 = .ok (.iaload, 1) := by decide +kernel
theorem dX12_ends_114 : decode cX12_ends 114 = .ok (.ifCond .ne 9, 3) := by decide +kernel
theorem dX12_ends_117 : decode cX12_ends 117 = .ok (.aload_n 0, 1) := by decide +kernel
theorem dX12_ends_118 : decode cX12_ends 118 = .ok (.iload 4, 2) := by decide +kernel
theorem dX12_ends_120 : decode cX12_ends 120 = .ok (.invokevirtual 566, 3) := by decide +kernel
theorem dX12_ends_123 : decode cX12_ends 123 = .ok (.return_, 1) := by decide +kernel
theorem dX12_weighs_0 : decode cX12_weighs 0 = .ok (.iconst 0, 1) := by decide +kernel
theorem dX12_weighs_1 : decode cX12_weighs 1 = .ok (.istore_n 2, 1) := by decide +kernel
theorem dX12_weighs_2 : decode cX12_weighs 2 = .ok (.iconst 1, 1) := by decide +kernel
theorem dX12_weighs_3 : decode cX12_weighs 3 = .ok (.istore_n 3, 1) := by decide +kernel
theorem dX12_weighs_4 : decode cX12_weighs 4 = .ok (.iload_n 1, 1) := by decide +kernel
theorem dX12_weighs_5 : decode cX12_weighs 5 = .ok (.iconst 1, 1) := by decide +kernel
theorem dX12_weighs_6 : decode cX12_weighs 6 = .ok (.iadd, 1) := by decide +kernel
theorem dX12_weighs_7 : decode cX12_weighs 7 = .ok (.istore 4, 2) := by decide +kernel
theorem dX12_weighs_9 : decode cX12_weighs 9 = .ok (.iload 4, 2) := by decide +kernel
theorem dX12_weighs_11 : decode cX12_weighs 11 = .ok (.aload_n 0, 1) := by decide +kernel
theorem dX12_weighs_12 : decode cX12_weighs 12 = .ok (.getfield 280, 3) := by decide +kernel
theorem dX12_weighs_15 : decode cX12_weighs 15 = .ok (.iload_n 1, 1) := by decide +kernel
theorem dX12_weighs_16 : decode cX12_weighs 16 = .ok (.iaload, 1) := by decide +kernel
theorem dX12_weighs_17 : decode cX12_weighs 17 = .ok (.if_icmp .ge 190, 3) := by decide +kernel
theorem dX12_weighs_20 : decode cX12_weighs 20 = .ok (.aload_n 0, 1) := by decide +kernel
theorem dX12_weighs_21 : decode cX12_weighs 21 = .ok (.getfield 283, 3) := by decide +kernel
theorem dX12_weighs_24 : decode cX12_weighs 24 = .ok (.iload 4, 2) := by decide +kernel
theorem dX12_weighs_26 : decode cX12_weighs 26 = .ok (.iaload, 1) := by decide +kernel
theorem dX12_weighs_27 : decode cX12_weighs 27 = .ok (.istore 5, 2) := by decide +kernel
theorem dX12_weighs_29 : decode cX12_weighs 29 = .ok (.aload_n 0, 1) := by decide +kernel
theorem dX12_weighs_30 : decode cX12_weighs 30 = .ok (.getfield 274, 3) := by decide +kernel
theorem dX12_weighs_33 : decode cX12_weighs 33 = .ok (.iload_n 1, 1) := by decide +kernel
theorem dX12_weighs_34 : decode cX12_weighs 34 = .ok (.iaload, 1) := by decide +kernel
theorem dX12_weighs_35 : decode cX12_weighs 35 = .ok (.iconst 2, 1) := by decide +kernel
theorem dX12_weighs_36 : decode cX12_weighs 36 = .ok (.if_icmp .ne 26, 3) := by decide +kernel
theorem dX12_weighs_39 : decode cX12_weighs 39 = .ok (.iload 4, 2) := by decide +kernel
theorem dX12_weighs_41 : decode cX12_weighs 41 = .ok (.iload_n 1, 1) := by decide +kernel
theorem dX12_weighs_42 : decode cX12_weighs 42 = .ok (.iconst 1, 1) := by decide +kernel
theorem dX12_weighs_43 : decode cX12_weighs 43 = .ok (.iadd, 1) := by decide +kernel
theorem dX12_weighs_44 : decode cX12_weighs 44 = .ok (.if_icmp .le 18, 3) := by decide +kernel
theorem dX12_weighs_47 : decode cX12_weighs 47 = .ok (.aload_n 0, 1) := by decide +kernel
theorem dX12_weighs_48 : decode cX12_weighs 48 = .ok (.getfield 274, 3) := by decide +kernel
theorem dX12_weighs_51 : decode cX12_weighs 51 = .ok (.iload 4, 2) := by decide +kernel
theorem dX12_weighs_53 : decode cX12_weighs 53 = .ok (.iaload, 1) := by decide +kernel
theorem dX12_weighs_54 : decode cX12_weighs 54 = .ok (.iconst 4, 1) := by decide +kernel
theorem dX12_weighs_55 : decode cX12_weighs 55 = .ok (.if_icmp .ne 7, 3) := by decide +kernel
theorem dX12_weighs_58 : decode cX12_weighs 58 = .ok (.iconst 1, 1) := by decide +kernel
theorem dX12_weighs_59 : decode cX12_weighs 59 = .ok (.goto 4, 3) := by decide +kernel
theorem dX12_weighs_62 : decode cX12_weighs 62 = .ok (.iconst 0, 1) := by decide +kernel
theorem dX12_weighs_63 : decode cX12_weighs 63 = .ok (.istore 6, 2) := by decide +kernel
theorem dX12_weighs_65 : decode cX12_weighs 65 = .ok (.iload 5, 2) := by decide +kernel
theorem dX12_weighs_67 : decode cX12_weighs 67 = .ok (.iconst 2, 1) := by decide +kernel
theorem dX12_weighs_68 : decode cX12_weighs 68 = .ok (.if_icmp .eq 18, 3) := by decide +kernel
theorem dX12_weighs_71 : decode cX12_weighs 71 = .ok (.iload 5, 2) := by decide +kernel
theorem dX12_weighs_73 : decode cX12_weighs 73 = .ok (.iconst 1, 1) := by decide +kernel
theorem dX12_weighs_74 : decode cX12_weighs 74 = .ok (.if_icmp .ne 77, 3) := by decide +kernel
theorem dX12_weighs_77 : decode cX12_weighs 77 = .ok (.aload_n 0, 1) := by decide +kernel
theorem dX12_weighs_78 : decode cX12_weighs 78 = .ok (.getfield 274, 3) := by decide +kernel
theorem dX12_weighs_81 : decode cX12_weighs 81 = .ok (.iload_n 1, 1) := by decide +kernel
theorem dX12_weighs_82 : decode cX12_weighs 82 = .ok (.iaload, 1) := by decide +kernel
theorem dX12_weighs_83 : decode cX12_weighs 83 = .ok (.ifCond .le 68, 3) := by decide +kernel
theorem dX12_weighs_86 : decode cX12_weighs 86 = .ok (.iload 6, 2) := by decide +kernel
theorem dX12_weighs_88 : decode cX12_weighs 88 = .ok (.ifCond .eq 13, 3) := by decide +kernel
theorem dX12_weighs_91 : decode cX12_weighs 91 = .ok (.iload 5, 2) := by decide +kernel
theorem dX12_weighs_93 : decode cX12_weighs 93 = .ok (.iconst 1, 1) := by decide +kernel
theorem dX12_weighs_94 : decode cX12_weighs 94 = .ok (.if_icmp .ne 7, 3) := by decide +kernel
theorem dX12_weighs_97 : decode cX12_weighs 97 = .ok (.iconst 1, 1) := by decide +kernel
theorem dX12_weighs_98 : decode cX12_weighs 98 = .ok (.goto 4, 3) := by decide +kernel
theorem dX12_weighs_101 : decode cX12_weighs 101 = .ok (.iconst 0, 1) := by decide +kernel
theorem dX12_weighs_102 : decode cX12_weighs 102 = .ok (.istore 7, 2) := by decide +kernel
theorem dX12_weighs_104 : decode cX12_weighs 104 = .ok (.aload_n 0, 1) := by decide +kernel
theorem dX12_weighs_105 : decode cX12_weighs 105 = .ok (.iload_n 1, 1) := by decide +kernel
theorem dX12_weighs_106 : decode cX12_weighs 106 = .ok (.iconst 1, 1) := by decide +kernel
theorem dX12_weighs_107 : decode cX12_weighs 107 = .ok (.iadd, 1) := by decide +kernel
theorem dX12_weighs_108 : decode cX12_weighs 108 = .ok (.aload_n 0, 1) := by decide +kernel
theorem dX12_weighs_109 : decode cX12_weighs 109 = .ok (.getfield 280, 3) := by decide +kernel
theorem dX12_weighs_112 : decode cX12_weighs 112 = .ok (.iload_n 1, 1) := by decide +kernel
theorem dX12_weighs_113 : decode cX12_weighs 113 = .ok (.iaload, 1) := by decide +kernel
theorem dX12_weighs_114 : decode cX12_weighs 114 = .ok (.invokevirtual 581, 3) := by decide +kernel
theorem dX12_weighs_117 : decode cX12_weighs 117 = .ok (.aload_n 0, 1) := by decide +kernel
theorem dX12_weighs_118 : decode cX12_weighs 118 = .ok (.iload_n 1, 1) := by decide +kernel
theorem dX12_weighs_119 : decode cX12_weighs 119 = .ok (.iload 7, 2) := by decide +kernel
theorem dX12_weighs_121 : decode cX12_weighs 121 = .ok (.ifCond .eq 7, 3) := by decide +kernel
theorem dX12_weighs_124 : decode cX12_weighs 124 = .ok (.iconst 2, 1) := by decide +kernel
theorem dX12_weighs_125 : decode cX12_weighs 125 = .ok (.goto 5, 3) := by decide +kernel
theorem dX12_weighs_128 : decode cX12_weighs 128 = .ok (.iload 5, 2) := by decide +kernel
theorem dX12_weighs_130 : decode cX12_weighs 130 = .ok (.iload 7, 2) := by decide +kernel
theorem dX12_weighs_132 : decode cX12_weighs 132 = .ok (.ifCond .eq 8, 3) := by decide +kernel
theorem dX12_weighs_135 : decode cX12_weighs 135 = .ok (.bipush 21, 2) := by decide +kernel
theorem dX12_weighs_137 : decode cX12_weighs 137 = .ok (.goto 10, 3) := by decide +kernel
theorem dX12_weighs_140 : decode cX12_weighs 140 = .ok (.aload_n 0, 1) := by decide +kernel
theorem dX12_weighs_141 : decode cX12_weighs 141 = .ok (.getfield 286, 3) := by decide +kernel
theorem dX12_weighs_144 : decode cX12_weighs 144 = .ok (.iload 4, 2) := by decide +kernel
theorem dX12_weighs_146 : decode cX12_weighs 146 = .ok (.iaload, 1) := by decide +kernel
theorem dX12_weighs_147 : decode cX12_weighs 147 = .ok (.invokevirtual 572, 3) := by decide +kernel
theorem dX12_weighs_150 : decode cX12_weighs 150 = .ok (.return_, 1) := by decide +kernel
theorem dX12_weighs_151 : decode cX12_weighs 151 = .ok (.iload_n 3, 1) := by decide +kernel
theorem dX12_weighs_152 : decode cX12_weighs 152 = .ok (.ifCond .eq 13, 3) := by decide +kernel
theorem dX12_weighs_155 : decode cX12_weighs 155 = .ok (.iload 5, 2) := by decide +kernel
theorem dX12_weighs_157 : decode cX12_weighs 157 = .ok (.iconst 1, 1) := by decide +kernel
theorem dX12_weighs_158 : decode cX12_weighs 158 = .ok (.if_icmp .ne 7, 3) := by decide +kernel
theorem dX12_weighs_161 : decode cX12_weighs 161 = .ok (.iconst 1, 1) := by decide +kernel
theorem dX12_weighs_162 : decode cX12_weighs 162 = .ok (.goto 4, 3) := by decide +kernel
theorem dX12_weighs_165 : decode cX12_weighs 165 = .ok (.iconst 0, 1) := by decide +kernel
theorem dX12_weighs_166 : decode cX12_weighs 166 = .ok (.istore_n 3, 1) := by decide +kernel
theorem dX12_weighs_167 : decode cX12_weighs 167 = .ok (.iload_n 2, 1) := by decide +kernel
theorem dX12_weighs_168 : decode cX12_weighs 168 = .ok (.aload_n 0, 1) := by decide +kernel
theorem dX12_weighs_169 : decode cX12_weighs 169 = .ok (.getfield 286, 3) := by decide +kernel
theorem dX12_weighs_172 : decode cX12_weighs 172 = .ok (.iload 4, 2) := by decide +kernel
theorem dX12_weighs_174 : decode cX12_weighs 174 = .ok (.iaload, 1) := by decide +kernel
theorem dX12_weighs_175 : decode cX12_weighs 175 = .ok (.iadd, 1) := by decide +kernel
theorem dX12_weighs_176 : decode cX12_weighs 176 = .ok (.istore_n 2, 1) := by decide +kernel
theorem dX12_weighs_177 : decode cX12_weighs 177 = .ok (.aload_n 0, 1) := by decide +kernel
theorem dX12_weighs_178 : decode cX12_weighs 178 = .ok (.getfield 274, 3) := by decide +kernel
theorem dX12_weighs_181 : decode cX12_weighs 181 = .ok (.iload 4, 2) := by decide +kernel
theorem dX12_weighs_183 : decode cX12_weighs 183 = .ok (.iaload, 1) := by decide +kernel
theorem dX12_weighs_184 : decode cX12_weighs 184 = .ok (.iconst 3, 1) := by decide +kernel
theorem dX12_weighs_185 : decode cX12_weighs 185 = .ok (.if_icmp .ge 13, 3) := by decide +kernel
theorem dX12_weighs_188 : decode cX12_weighs 188 = .ok (.aload_n 0, 1) := by decide +kernel
theorem dX12_weighs_189 : decode cX12_weighs 189 = .ok (.getfield 280, 3) := by decide +kernel
theorem dX12_weighs_192 : decode cX12_weighs 192 = .ok (.iload 4, 2) := by decide +kernel
theorem dX12_weighs_194 : decode cX12_weighs 194 = .ok (.iaload, 1) := by decide +kernel
theorem dX12_weighs_195 : decode cX12_weighs 195 = .ok (.goto 7, 3) := by decide +kernel
theorem dX12_weighs_198 : decode cX12_weighs 198 = .ok (.iload 4, 2) := by decide +kernel
theorem dX12_weighs_200 : decode cX12_weighs 200 = .ok (.iconst 1, 1) := by decide +kernel
theorem dX12_weighs_201 : decode cX12_weighs 201 = .ok (.iadd, 1) := by decide +kernel
theorem dX12_weighs_202 : decode cX12_weighs 202 = .ok (.istore 4, 2) := by decide +kernel
theorem dX12_weighs_204 : decode cX12_weighs 204 = .ok (.goto (-195), 3) := by decide +kernel
theorem dX12_weighs_207 : decode cX12_weighs 207 = .ok (.iload_n 3, 1) := by decide +kernel
theorem dX12_weighs_208 : decode cX12_weighs 208 = .ok (.ifCond .eq 19, 3) := by decide +kernel
theorem dX12_weighs_211 : decode cX12_weighs 211 = .ok (.aload_n 0, 1) := by decide +kernel
theorem dX12_weighs_212 : decode cX12_weighs 212 = .ok (.getfield 274, 3) := by decide +kernel
theorem dX12_weighs_215 : decode cX12_weighs 215 = .ok (.iload_n 1, 1) := by decide +kernel
theorem dX12_weighs_216 : decode cX12_weighs 216 = .ok (.iaload, 1) := by decide +kernel
theorem dX12_weighs_217 : decode cX12_weighs 217 = .ok (.ifCond .ne 10, 3) := by decide +kernel
theorem dX12_weighs_220 : decode cX12_weighs 220 = .ok (.aload_n 0, 1) := by decide +kernel
theorem dX12_weighs_221 : decode cX12_weighs 221 = .ok (.iload_n 1, 1) := by decide +kernel
theorem dX12_weighs_222 : decode cX12_weighs 222 = .ok (.iconst 1, 1) := by decide +kernel
theorem dX12_weighs_223 : decode cX12_weighs 223 = .ok (.iload_n 2, 1) := by decide +kernel
theorem dX12_weighs_224 : decode cX12_weighs 224 = .ok (.invokevirtual 572, 3) := by decide +kernel
theorem dX12_weighs_227 : decode cX12_weighs 227 = .ok (.return_, 1) := by decide +kernel
def wp_weighs_202 (r_decides : Int32 → Int32 → Int32 → mS → (mS → Prop) → Prop) (r_cancels : Int32 → mS → (mS → Int32 → Prop) → Prop) (K : mS → Prop) (k9 : Int32 × Int32 × Int32 × Int32 × mS → Prop) (x1 : Int32) (x2 : Int32) (x3 : Int32) (y0 : Int32) (S : mS) : Prop := k9 (x1, x2, x3, y0, S)
def wp_weighs_166 (r_decides : Int32 → Int32 → Int32 → mS → (mS → Prop) → Prop) (r_cancels : Int32 → mS → (mS → Int32 → Prop) → Prop) (K : mS → Prop) (k9 : Int32 × Int32 × Int32 × Int32 × mS → Prop) (x1 : Int32) (x2 : Int32) (x4 : Int32) (y0 : Int32) (S : mS) : Prop := inR x4 100300 ∧ ∀ z21 : Int32, z21 = S.2.1 84 (ix x4) → ∀ z22 : Int32, z22 = x2 + z21 → inR x4 100300 ∧ ∀ z23 : Int32, z23 = S.2.1 80 (ix x4) → ((3 ≤ z23 → ∀ z25 : Int32, z25 = x4 + 1 → wp_weighs_202 r_decides r_cancels K k9 x1 z22 y0 z25 S) ∧ (¬ 3 ≤ z23 → inR x4 100300 ∧ ∀ z26 : Int32, z26 = S.2.1 82 (ix x4) → wp_weighs_202 r_decides r_cancels K k9 x1 z22 y0 z26 S))
def wp_weighs_165 (r_decides : Int32 → Int32 → Int32 → mS → (mS → Prop) → Prop) (r_cancels : Int32 → mS → (mS → Int32 → Prop) → Prop) (K : mS → Prop) (k9 : Int32 × Int32 × Int32 × Int32 × mS → Prop) (x1 : Int32) (x2 : Int32) (x4 : Int32) (S : mS) : Prop := wp_weighs_166 r_decides r_cancels K k9 x1 x2 x4 0 S
def wp_weighs_151 (r_decides : Int32 → Int32 → Int32 → mS → (mS → Prop) → Prop) (r_cancels : Int32 → mS → (mS → Int32 → Prop) → Prop) (K : mS → Prop) (k9 : Int32 × Int32 × Int32 × Int32 × mS → Prop) (x1 : Int32) (x2 : Int32) (x3 : Int32) (x4 : Int32) (x5 : Int32) (S : mS) : Prop := ((x3 = 0 → wp_weighs_165 r_decides r_cancels K k9 x1 x2 x4 S) ∧ (¬ x3 = 0 → ((¬ x5 = 1 → wp_weighs_165 r_decides r_cancels K k9 x1 x2 x4 S) ∧ (x5 = 1 → wp_weighs_166 r_decides r_cancels K k9 x1 x2 x4 1 S))))
def wp_weighs_147 (r_decides : Int32 → Int32 → Int32 → mS → (mS → Prop) → Prop) (r_cancels : Int32 → mS → (mS → Int32 → Prop) → Prop) (K : mS → Prop) (y1 : Int32) (y2 : Int32) (y3 : Int32) (S : mS) : Prop := r_decides y1 y2 y3 S (fun (S35 : mS) => K S35)
def wp_weighs_130 (r_decides : Int32 → Int32 → Int32 → mS → (mS → Prop) → Prop) (r_cancels : Int32 → mS → (mS → Int32 → Prop) → Prop) (K : mS → Prop) (x4 : Int32) (x7 : Int32) (y1 : Int32) (y2 : Int32) (S : mS) : Prop := ((x7 = 0 → inR x4 100300 ∧ ∀ z34 : Int32, z34 = S.2.1 84 (ix x4) → wp_weighs_147 r_decides r_cancels K y1 y2 z34 S) ∧ (¬ x7 = 0 → wp_weighs_147 r_decides r_cancels K y1 y2 21 S))
def wp_weighs_102 (r_decides : Int32 → Int32 → Int32 → mS → (mS → Prop) → Prop) (r_cancels : Int32 → mS → (mS → Int32 → Prop) → Prop) (K : mS → Prop) (x1 : Int32) (x4 : Int32) (x5 : Int32) (y0 : Int32) (S : mS) : Prop := ∀ z29 : Int32, z29 = x1 + 1 → inR x1 100300 ∧ ∀ z30 : Int32, z30 = S.2.1 82 (ix x1) → wp_letGo r_decides r_cancels z29 z30 S (fun (S31 : mS) => ((y0 = 0 → wp_weighs_130 r_decides r_cancels K x4 y0 x1 x5 S31) ∧ (¬ y0 = 0 → wp_weighs_130 r_decides r_cancels K x4 y0 x1 2 S31)))
def wp_weighs_101 (r_decides : Int32 → Int32 → Int32 → mS → (mS → Prop) → Prop) (r_cancels : Int32 → mS → (mS → Int32 → Prop) → Prop) (K : mS → Prop) (x1 : Int32) (x4 : Int32) (x5 : Int32) (S : mS) : Prop := wp_weighs_102 r_decides r_cancels K x1 x4 x5 0 S
def wp_weighs_86 (r_decides : Int32 → Int32 → Int32 → mS → (mS → Prop) → Prop) (r_cancels : Int32 → mS → (mS → Int32 → Prop) → Prop) (K : mS → Prop) (x1 : Int32) (x4 : Int32) (x5 : Int32) (x6 : Int32) (S : mS) : Prop := ((x6 = 0 → wp_weighs_101 r_decides r_cancels K x1 x4 x5 S) ∧ (¬ x6 = 0 → ((¬ x5 = 1 → wp_weighs_101 r_decides r_cancels K x1 x4 x5 S) ∧ (x5 = 1 → wp_weighs_102 r_decides r_cancels K x1 x4 x5 1 S))))
def wp_weighs_63 (r_decides : Int32 → Int32 → Int32 → mS → (mS → Prop) → Prop) (r_cancels : Int32 → mS → (mS → Int32 → Prop) → Prop) (K : mS → Prop) (k9 : Int32 × Int32 × Int32 × Int32 × mS → Prop) (x1 : Int32) (x2 : Int32) (x3 : Int32) (x4 : Int32) (x5 : Int32) (y0 : Int32) (S : mS) : Prop := ((x5 = 2 → wp_weighs_86 r_decides r_cancels K x1 x4 x5 y0 S) ∧ (¬ x5 = 2 → ((¬ x5 = 1 → wp_weighs_151 r_decides r_cancels K k9 x1 x2 x3 x4 x5 S) ∧ (x5 = 1 → inR x1 100300 ∧ ∀ z17 : Int32, z17 = S.2.1 80 (ix x1) → ((z17 ≤ 0 → wp_weighs_151 r_decides r_cancels K k9 x1 x2 x3 x4 x5 S) ∧ (¬ z17 ≤ 0 → wp_weighs_86 r_decides r_cancels K x1 x4 x5 y0 S))))))
def wp_weighs_62 (r_decides : Int32 → Int32 → Int32 → mS → (mS → Prop) → Prop) (r_cancels : Int32 → mS → (mS → Int32 → Prop) → Prop) (K : mS → Prop) (k9 : Int32 × Int32 × Int32 × Int32 × mS → Prop) (x1 : Int32) (x2 : Int32) (x3 : Int32) (x4 : Int32) (x5 : Int32) (S : mS) : Prop := wp_weighs_63 r_decides r_cancels K k9 x1 x2 x3 x4 x5 0 S
def wp_weighs_9 (r_decides : Int32 → Int32 → Int32 → mS → (mS → Prop) → Prop) (r_cancels : Int32 → mS → (mS → Int32 → Prop) → Prop) (K : mS → Prop) (k9 : Int32 × Int32 × Int32 × Int32 × mS → Prop) (x1 : Int32) (x2 : Int32) (x3 : Int32) (x4 : Int32) (S : mS) : Prop := inR x1 100300 ∧ ∀ z2 : Int32, z2 = S.2.1 82 (ix x1) → ((z2 ≤ x4 → ((x3 = 0 → K S) ∧ (¬ x3 = 0 → inR x1 100300 ∧ ∀ z5 : Int32, z5 = S.2.1 80 (ix x1) → ((¬ z5 = 0 → K S) ∧ (z5 = 0 → r_decides x1 1 x2 S (fun (S7 : mS) => K S7)))))) ∧ (¬ z2 ≤ x4 → inR x4 100300 ∧ ∀ z8 : Int32, z8 = S.2.1 83 (ix x4) → inR x1 100300 ∧ ∀ z9 : Int32, z9 = S.2.1 80 (ix x1) → ((¬ z9 = 2 → wp_weighs_62 r_decides r_cancels K k9 x1 x2 x3 x4 z8 S) ∧ (z9 = 2 → ∀ z11 : Int32, z11 = x1 + 1 → ((x4 ≤ z11 → wp_weighs_62 r_decides r_cancels K k9 x1 x2 x3 x4 z8 S) ∧ (¬ x4 ≤ z11 → inR x4 100300 ∧ ∀ z13 : Int32, z13 = S.2.1 80 (ix x4) → ((¬ z13 = 4 → wp_weighs_62 r_decides r_cancels K k9 x1 x2 x3 x4 z8 S) ∧ (z13 = 4 → wp_weighs_63 r_decides r_cancels K k9 x1 x2 x3 x4 z8 1 S))))))))
def ls_weighs_9 (r_decides : Int32 → Int32 → Int32 → mS → (mS → Prop) → Prop) (r_cancels : Int32 → mS → (mS → Int32 → Prop) → Prop) (K : mS → Prop) (k9 : Int32 × Int32 × Int32 × Int32 × mS → Prop) (u : Int32 × Int32 × Int32 × Int32 × mS) : Prop := wp_weighs_9 r_decides r_cancels K k9 u.1 u.2.1 u.2.2.1 u.2.2.2.1 u.2.2.2.2
def wp_weighs (r_decides : Int32 → Int32 → Int32 → mS → (mS → Prop) → Prop) (r_cancels : Int32 → mS → (mS → Int32 → Prop) → Prop) (a0 : Int32) (S : mS) (K : mS → Prop) : Prop := ∀ z1 : Int32, z1 = a0 + 1 → (∃ n9, it (ls_weighs_9 r_decides r_cancels K) n9 (a0, 0, 1, z1, S))
theorem cw_X12_decides {R : Room} {s : State} {args : Array Value} {fr lo : Nat} (hts : ∀ w ∈ tb, w.before args s = true) (h1 : fr + 1 ≤ R.frames) (h2 : 8 + (5 + 11) + lo ≤ R.locals) : CallW R s args RX12 RX12 572 yX12_decides cX12_decides 5 none (.code yX12_decides cX12_decides 5 none :: tb) (mRm fr lo) 0 0 3 := cwV 3 hts (gd_V wd_2026 wd_2028 sl_X12_decides wd_15 wd_2029) rfl rfl rfl (by decide +kernel) ⟨h1, h2⟩
theorem cw_X12_letGo {R : Room} {s : State} {args : Array Value} {fr lo : Nat} (hts : ∀ w ∈ tb, w.before args s = true) (h1 : fr + 1 ≤ R.frames) (h2 : 8 + (4 + 11) + lo ≤ R.locals) : CallW R s args RX12 RX12 581 yX12_letGo cX12_letGo 4 none (.code yX12_letGo cX12_letGo 4 none :: tb) (mRm fr lo) 0 0 2 := cwV 2 hts (gd_V wd_2038 wd_2040 sl_X12_letGo wd_15 wd_2041) rfl rfl rfl (by decide +kernel) ⟨h1, h2⟩
set_option maxHeartbeats 4000000 in
set_option maxRecDepth 100000 in
theorem co_weighs (l : Launch) (fr lo F Lo : Nat) (r_decides : Int32 → Int32 → Int32 → mS → (mS → Prop) → Prop) (hr_decides : ∀ (a0 : Int32) (a1 : Int32) (a2 : Int32) (S : mS) (K : mS → Prop), r_decides a0 a1 a2 S K → mMv l yX12_decides cX12_decides 5 none fr lo (fun E => [.int a0, .int a1, .int a2]) S K) (r_cancels : Int32 → mS → (mS → Int32 → Prop) → Prop) (hr_cancels : ∀ (a0 : Int32) (S : mS) (K : mS → Int32 → Prop), r_cancels a0 S K → mMi l yX12_cancels cX12_cancels 3 (some .boolean) fr lo (fun E => [.int a0]) S K) (hF : fr + 2 ≤ F) (hL : lo + 45 ≤ Lo) (hF0 : 2 ≤ F) (hL0 : 46 ≤ Lo) (S : mS) (a0 : Int32) (K : mS → Prop) (h : wp_weighs r_decides r_cancels a0 S K) : mMv l yX12_weighs cX12_weighs 8 none F Lo (fun E => [.int a0]) S K := by
  refine mv_ofv (by decide) rfl (fun _ => Nat.le_of_ble_eq_true rfl) ?_
  intro E p e R s m args below meth c A ls Q hRf hRl hX hC hl hret
  have hx := hX.1.1
  have hb := hX.1.2.1
  have hown := hX.1.2.2.2.1
  have hts := hX.1.2.2.2.2
  have cut147 : ∀ (y1 : Int32) (y2 : Int32) (y3 : Int32) (S : mS) (H : Heap) (locs : List Loc) (ls : Array Slot), wp_weighs_147 r_decides r_cancels K y1 y2 y3 S → mC E A s.heap S H locs → lv_has ls 8 [(0, .ref E.2.1)] → W p l e R s m args below meth c H locs 0 0 Q (F0 m 147 ls [.int y3, .int y2, .int y1, .ref E.2.1]) := by
    intro y1 y2 y3 S H locs ls h hC hl
    unfold wp_weighs_147 at h
    refine mv_callv [.int y1, .int y2, .int y3] (rest := []) hX hC (hr_decides y1 y2 y3 S _ h E _) (cw_X12_decides hts (by omega) (by omega)) rfl hl.1 (Nat.le_of_ble_eq_true rfl) ⟨Nat.zero_le _, Nat.zero_le _⟩ dX12_weighs_147 (fun S35 H locs hC h => ?_)
    exact hret _ _ _ _ _ hC h dX12_weighs_150
  have cut130 : ∀ (x4 : Int32) (x7 : Int32) (y1 : Int32) (y2 : Int32) (S : mS) (H : Heap) (locs : List Loc) (ls : Array Slot), wp_weighs_130 r_decides r_cancels K x4 x7 y1 y2 S → mC E A s.heap S H locs → lv_has ls 8 [(0, .ref E.2.1), (4, .int x4), (7, .int x7)] → W p l e R s m args below meth c H locs 0 0 Q (F0 m 130 ls [.int y2, .int y1, .ref E.2.1]) := by
    intro x4 x7 y1 y2 S H locs ls h hC hl
    unfold wp_weighs_130 at h
    refine lv_iload hx hb dX12_weighs_130 (lv_at hl 2 rfl) ?_
    refine lv_if_eq (tgt := 140) hx hb dX12_weighs_132 (by decide) (fun c33 => ?_) (fun c33 => ?_)
    · have h := h.1 c33
      refine lv_aload_n hx hb dX12_weighs_140 rfl (lv_at hl 0 rfl) ?_
      refine mv_get (v := .ref (E.2.2.1 84)) hX hC 115 (Nat.le_of_ble_eq_true rfl) wd_1515 rfl dX12_weighs_141 ?_
      refine lv_iload hx hb dX12_weighs_144 (lv_at hl 1 rfl) ?_
      refine mq_ild (n := 100300) hX hC 84 rfl rfl dX12_weighs_146 h (fun z34 h => ?_)
      exact cut147 y1 y2 z34 S _ _ _ h hC (lv_sub hl [0] rfl)
    · have h := h.2 c33
      refine lv_bipush (v := 21) hx hb dX12_weighs_135 (by decide) ?_
      refine lv_goto (tgt := 147) hx hb dX12_weighs_137 (by decide) ?_
      exact cut147 y1 y2 21 S _ _ _ h hC (lv_sub hl [0] rfl)
  have cut102 : ∀ (x1 : Int32) (x4 : Int32) (x5 : Int32) (y0 : Int32) (S : mS) (H : Heap) (locs : List Loc) (ls : Array Slot), wp_weighs_102 r_decides r_cancels K x1 x4 x5 y0 S → mC E A s.heap S H locs → lv_has ls 8 [(0, .ref E.2.1), (1, .int x1), (4, .int x4), (5, .int x5)] → W p l e R s m args below meth c H locs 0 0 Q (F0 m 102 ls [.int y0]) := by
    intro x1 x4 x5 y0 S H locs ls h hC hl
    unfold wp_weighs_102 at h
    refine lv_istore (lv' := [(7, .int y0), (0, .ref E.2.1), (1, .int x1), (4, .int x4), (5, .int x5)]) hx hb dX12_weighs_102 hl (by decide) rfl (fun ls hl => ?_)
    refine lv_aload_n hx hb dX12_weighs_104 rfl (lv_at hl 1 rfl) ?_
    refine lv_iload_n hx hb dX12_weighs_105 rfl (lv_at hl 2 rfl) ?_
    refine lv_iconst (v := 1) hx hb dX12_weighs_106 (by decide) ?_
    refine lq_iadd hx hb dX12_weighs_107 h (fun z29 h => ?_)
    refine lv_aload_n hx hb dX12_weighs_108 rfl (lv_at hl 1 rfl) ?_
    refine mv_get (v := .ref (E.2.2.1 82)) hX hC 113 (Nat.le_of_ble_eq_true rfl) wd_1513 rfl dX12_weighs_109 ?_
    refine lv_iload_n hx hb dX12_weighs_112 rfl (lv_at hl 2 rfl) ?_
    refine mq_ild (n := 100300) hX hC 82 rfl rfl dX12_weighs_113 h (fun z30 h => ?_)
    refine mv_callv [.int z29, .int z30] (rest := []) hX hC (co_letGo l fr lo (max (fr + 1) 1) (max (lo + 22) 23) r_decides hr_decides r_cancels hr_cancels (Nat.le_max_left _ _) (Nat.le_max_left _ _) (Nat.le_max_right _ _) (Nat.le_max_right _ _) S z29 z30 _ h E _) (cw_X12_letGo hts (by omega) (by omega)) rfl hl.1 (Nat.le_of_ble_eq_true rfl) ⟨Nat.zero_le _, Nat.zero_le _⟩ dX12_weighs_114 (fun S31 H locs hC h => ?_)
    refine lv_aload_n hx hb dX12_weighs_117 rfl (lv_at hl 1 rfl) ?_
    refine lv_iload_n hx hb dX12_weighs_118 rfl (lv_at hl 2 rfl) ?_
    refine lv_iload hx hb dX12_weighs_119 (lv_at hl 0 rfl) ?_
    refine lv_if_eq (tgt := 128) hx hb dX12_weighs_121 (by decide) (fun c32 => ?_) (fun c32 => ?_)
    · have h := h.1 c32
      refine lv_iload hx hb dX12_weighs_128 (lv_at hl 4 rfl) ?_
      exact cut130 x4 y0 x1 x5 S31 _ _ _ h hC (lv_sub hl [1, 3, 0] rfl)
    · have h := h.2 c32
      refine lv_iconst (v := 2) hx hb dX12_weighs_124 (by decide) ?_
      refine lv_goto (tgt := 130) hx hb dX12_weighs_125 (by decide) ?_
      exact cut130 x4 y0 x1 2 S31 _ _ _ h hC (lv_sub hl [1, 3, 0] rfl)
  have cut101 : ∀ (x1 : Int32) (x4 : Int32) (x5 : Int32) (S : mS) (H : Heap) (locs : List Loc) (ls : Array Slot), wp_weighs_101 r_decides r_cancels K x1 x4 x5 S → mC E A s.heap S H locs → lv_has ls 8 [(0, .ref E.2.1), (1, .int x1), (4, .int x4), (5, .int x5)] → W p l e R s m args below meth c H locs 0 0 Q (F0 m 101 ls []) := by
    intro x1 x4 x5 S H locs ls h hC hl
    unfold wp_weighs_101 at h
    refine lv_iconst (v := 0) hx hb dX12_weighs_101 (by decide) ?_
    exact cut102 x1 x4 x5 0 S _ _ _ h hC (lv_sub hl [0, 1, 2, 3] rfl)
  have cut86 : ∀ (x1 : Int32) (x4 : Int32) (x5 : Int32) (x6 : Int32) (S : mS) (H : Heap) (locs : List Loc) (ls : Array Slot), wp_weighs_86 r_decides r_cancels K x1 x4 x5 x6 S → mC E A s.heap S H locs → lv_has ls 8 [(0, .ref E.2.1), (1, .int x1), (4, .int x4), (5, .int x5), (6, .int x6)] → W p l e R s m args below meth c H locs 0 0 Q (F0 m 86 ls []) := by
    intro x1 x4 x5 x6 S H locs ls h hC hl
    unfold wp_weighs_86 at h
    refine lv_iload hx hb dX12_weighs_86 (lv_at hl 4 rfl) ?_
    refine lv_if_eq (tgt := 101) hx hb dX12_weighs_88 (by decide) (fun c27 => ?_) (fun c27 => ?_)
    · have h := h.1 c27
      exact cut101 x1 x4 x5 S _ _ _ h hC (lv_sub hl [0, 1, 2, 3] rfl)
    · have h := h.2 c27
      refine lv_iload hx hb dX12_weighs_91 (lv_at hl 3 rfl) ?_
      refine lv_iconst (v := 1) hx hb dX12_weighs_93 (by decide) ?_
      refine lv_icmp_ne (tgt := 101) hx hb dX12_weighs_94 (by decide) (fun c28 => ?_) (fun c28 => ?_)
      · have h := h.1 c28
        exact cut101 x1 x4 x5 S _ _ _ h hC (lv_sub hl [0, 1, 2, 3] rfl)
      · have h := h.2 c28
        refine lv_iconst (v := 1) hx hb dX12_weighs_97 (by decide) ?_
        refine lv_goto (tgt := 102) hx hb dX12_weighs_98 (by decide) ?_
        exact cut102 x1 x4 x5 1 S _ _ _ h hC (lv_sub hl [0, 1, 2, 3] rfl)
  have cut9 : ∀ (n9 : Nat) (x1 : Int32) (x2 : Int32) (x3 : Int32) (x4 : Int32) (S : mS) (H : Heap) (locs : List Loc) (ls : Array Slot), it (ls_weighs_9 r_decides r_cancels K) n9 (x1, x2, x3, x4, S) → mC E A s.heap S H locs → lv_has ls 8 [(0, .ref E.2.1), (1, .int x1), (2, .int x2), (3, .int x3), (4, .int x4)] → W p l e R s m args below meth c H locs 0 0 Q (F0 m 9 ls []) := by
    intro n9
    induction n9 with
    | zero => intro x1 x2 x3 x4 S H locs ls h hC hl; exact h.elim
    | succ n9 ih9 =>
      have cut202 : ∀ (x1 : Int32) (x2 : Int32) (x3 : Int32) (y0 : Int32) (S : mS) (H : Heap) (locs : List Loc) (ls : Array Slot), wp_weighs_202 r_decides r_cancels K (it (ls_weighs_9 r_decides r_cancels K) n9) x1 x2 x3 y0 S → mC E A s.heap S H locs → lv_has ls 8 [(0, .ref E.2.1), (1, .int x1), (2, .int x2), (3, .int x3)] → W p l e R s m args below meth c H locs 0 0 Q (F0 m 202 ls [.int y0]) := by
        intro x1 x2 x3 y0 S H locs ls h hC hl
        unfold wp_weighs_202 at h
        refine lv_istore (lv' := [(4, .int y0), (0, .ref E.2.1), (1, .int x1), (2, .int x2), (3, .int x3)]) hx hb dX12_weighs_202 hl (by decide) rfl (fun ls hl => ?_)
        refine lv_goto (tgt := 9) hx hb dX12_weighs_204 (by decide) ?_
        exact ih9 x1 x2 x3 y0 S _ _ _ h hC (lv_sub hl [1, 2, 3, 4, 0] rfl)
      have cut166 : ∀ (x1 : Int32) (x2 : Int32) (x4 : Int32) (y0 : Int32) (S : mS) (H : Heap) (locs : List Loc) (ls : Array Slot), wp_weighs_166 r_decides r_cancels K (it (ls_weighs_9 r_decides r_cancels K) n9) x1 x2 x4 y0 S → mC E A s.heap S H locs → lv_has ls 8 [(0, .ref E.2.1), (1, .int x1), (2, .int x2), (4, .int x4)] → W p l e R s m args below meth c H locs 0 0 Q (F0 m 166 ls [.int y0]) := by
        intro x1 x2 x4 y0 S H locs ls h hC hl
        unfold wp_weighs_166 at h
        refine lv_istore_n (lv' := [(3, .int y0), (0, .ref E.2.1), (1, .int x1), (2, .int x2), (4, .int x4)]) hx hb dX12_weighs_166 rfl hl (by decide) rfl (fun ls hl => ?_)
        refine lv_iload_n hx hb dX12_weighs_167 rfl (lv_at hl 3 rfl) ?_
        refine lv_aload_n hx hb dX12_weighs_168 rfl (lv_at hl 1 rfl) ?_
        refine mv_get (v := .ref (E.2.2.1 84)) hX hC 115 (Nat.le_of_ble_eq_true rfl) wd_1515 rfl dX12_weighs_169 ?_
        refine lv_iload hx hb dX12_weighs_172 (lv_at hl 4 rfl) ?_
        refine mq_ild (n := 100300) hX hC 84 rfl rfl dX12_weighs_174 h (fun z21 h => ?_)
        refine lq_iadd hx hb dX12_weighs_175 h (fun z22 h => ?_)
        refine lv_istore_n (lv' := [(2, .int z22), (3, .int y0), (0, .ref E.2.1), (1, .int x1), (4, .int x4)]) hx hb dX12_weighs_176 rfl hl (by decide) rfl (fun ls hl => ?_)
        refine lv_aload_n hx hb dX12_weighs_177 rfl (lv_at hl 2 rfl) ?_
        refine mv_get (v := .ref (E.2.2.1 80)) hX hC 111 (Nat.le_of_ble_eq_true rfl) wd_1511 rfl dX12_weighs_178 ?_
        refine lv_iload hx hb dX12_weighs_181 (lv_at hl 4 rfl) ?_
        refine mq_ild (n := 100300) hX hC 80 rfl rfl dX12_weighs_183 h (fun z23 h => ?_)
        refine lv_iconst (v := 3) hx hb dX12_weighs_184 (by decide) ?_
        refine lv_icmp_ge (tgt := 198) hx hb dX12_weighs_185 (by decide) (fun c24 => ?_) (fun c24 => ?_)
        · have h := h.1 c24
          refine lv_iload hx hb dX12_weighs_198 (lv_at hl 4 rfl) ?_
          refine lv_iconst (v := 1) hx hb dX12_weighs_200 (by decide) ?_
          refine lq_iadd hx hb dX12_weighs_201 h (fun z25 h => ?_)
          exact cut202 x1 z22 y0 z25 S _ _ _ h hC (lv_sub hl [2, 3, 0, 1] rfl)
        · have h := h.2 c24
          refine lv_aload_n hx hb dX12_weighs_188 rfl (lv_at hl 2 rfl) ?_
          refine mv_get (v := .ref (E.2.2.1 82)) hX hC 113 (Nat.le_of_ble_eq_true rfl) wd_1513 rfl dX12_weighs_189 ?_
          refine lv_iload hx hb dX12_weighs_192 (lv_at hl 4 rfl) ?_
          refine mq_ild (n := 100300) hX hC 82 rfl rfl dX12_weighs_194 h (fun z26 h => ?_)
          refine lv_goto (tgt := 202) hx hb dX12_weighs_195 (by decide) ?_
          exact cut202 x1 z22 y0 z26 S _ _ _ h hC (lv_sub hl [2, 3, 0, 1] rfl)
      have cut165 : ∀ (x1 : Int32) (x2 : Int32) (x4 : Int32) (S : mS) (H : Heap) (locs : List Loc) (ls : Array Slot), wp_weighs_165 r_decides r_cancels K (it (ls_weighs_9 r_decides r_cancels K) n9) x1 x2 x4 S → mC E A s.heap S H locs → lv_has ls 8 [(0, .ref E.2.1), (1, .int x1), (2, .int x2), (4, .int x4)] → W p l e R s m args below meth c H locs 0 0 Q (F0 m 165 ls []) := by
        intro x1 x2 x4 S H locs ls h hC hl
        unfold wp_weighs_165 at h
        refine lv_iconst (v := 0) hx hb dX12_weighs_165 (by decide) ?_
        exact cut166 x1 x2 x4 0 S _ _ _ h hC (lv_sub hl [0, 1, 2, 3] rfl)
      have cut151 : ∀ (x1 : Int32) (x2 : Int32) (x3 : Int32) (x4 : Int32) (x5 : Int32) (S : mS) (H : Heap) (locs : List Loc) (ls : Array Slot), wp_weighs_151 r_decides r_cancels K (it (ls_weighs_9 r_decides r_cancels K) n9) x1 x2 x3 x4 x5 S → mC E A s.heap S H locs → lv_has ls 8 [(0, .ref E.2.1), (1, .int x1), (2, .int x2), (3, .int x3), (4, .int x4), (5, .int x5)] → W p l e R s m args below meth c H locs 0 0 Q (F0 m 151 ls []) := by
        intro x1 x2 x3 x4 x5 S H locs ls h hC hl
        unfold wp_weighs_151 at h
        refine lv_iload_n hx hb dX12_weighs_151 rfl (lv_at hl 3 rfl) ?_
        refine lv_if_eq (tgt := 165) hx hb dX12_weighs_152 (by decide) (fun c19 => ?_) (fun c19 => ?_)
        · have h := h.1 c19
          exact cut165 x1 x2 x4 S _ _ _ h hC (lv_sub hl [0, 1, 2, 4] rfl)
        · have h := h.2 c19
          refine lv_iload hx hb dX12_weighs_155 (lv_at hl 5 rfl) ?_
          refine lv_iconst (v := 1) hx hb dX12_weighs_157 (by decide) ?_
          refine lv_icmp_ne (tgt := 165) hx hb dX12_weighs_158 (by decide) (fun c20 => ?_) (fun c20 => ?_)
          · have h := h.1 c20
            exact cut165 x1 x2 x4 S _ _ _ h hC (lv_sub hl [0, 1, 2, 4] rfl)
          · have h := h.2 c20
            refine lv_iconst (v := 1) hx hb dX12_weighs_161 (by decide) ?_
            refine lv_goto (tgt := 166) hx hb dX12_weighs_162 (by decide) ?_
            exact cut166 x1 x2 x4 1 S _ _ _ h hC (lv_sub hl [0, 1, 2, 4] rfl)
      have cut63 : ∀ (x1 : Int32) (x2 : Int32) (x3 : Int32) (x4 : Int32) (x5 : Int32) (y0 : Int32) (S : mS) (H : Heap) (locs : List Loc) (ls : Array Slot), wp_weighs_63 r_decides r_cancels K (it (ls_weighs_9 r_decides r_cancels K) n9) x1 x2 x3 x4 x5 y0 S → mC E A s.heap S H locs → lv_has ls 8 [(0, .ref E.2.1), (1, .int x1), (2, .int x2), (3, .int x3), (4, .int x4), (5, .int x5)] → W p l e R s m args below meth c H locs 0 0 Q (F0 m 63 ls [.int y0]) := by
        intro x1 x2 x3 x4 x5 y0 S H locs ls h hC hl
        unfold wp_weighs_63 at h
        refine lv_istore (lv' := [(6, .int y0), (0, .ref E.2.1), (1, .int x1), (2, .int x2), (3, .int x3), (4, .int x4), (5, .int x5)]) hx hb dX12_weighs_63 hl (by decide) rfl (fun ls hl => ?_)
        refine lv_iload hx hb dX12_weighs_65 (lv_at hl 6 rfl) ?_
        refine lv_iconst (v := 2) hx hb dX12_weighs_67 (by decide) ?_
        refine lv_icmp_eq (tgt := 86) hx hb dX12_weighs_68 (by decide) (fun c15 => ?_) (fun c15 => ?_)
        · have h := h.1 c15
          exact cut86 x1 x4 x5 y0 S _ _ _ h hC (lv_sub hl [1, 2, 5, 6, 0] rfl)
        · have h := h.2 c15
          refine lv_iload hx hb dX12_weighs_71 (lv_at hl 6 rfl) ?_
          refine lv_iconst (v := 1) hx hb dX12_weighs_73 (by decide) ?_
          refine lv_icmp_ne (tgt := 151) hx hb dX12_weighs_74 (by decide) (fun c16 => ?_) (fun c16 => ?_)
          · have h := h.1 c16
            exact cut151 x1 x2 x3 x4 x5 S _ _ _ h hC (lv_sub hl [1, 2, 3, 4, 5, 6] rfl)
          · have h := h.2 c16
            refine lv_aload_n hx hb dX12_weighs_77 rfl (lv_at hl 1 rfl) ?_
            refine mv_get (v := .ref (E.2.2.1 80)) hX hC 111 (Nat.le_of_ble_eq_true rfl) wd_1511 rfl dX12_weighs_78 ?_
            refine lv_iload_n hx hb dX12_weighs_81 rfl (lv_at hl 2 rfl) ?_
            refine mq_ild (n := 100300) hX hC 80 rfl rfl dX12_weighs_82 h (fun z17 h => ?_)
            refine lv_if_le (tgt := 151) hx hb dX12_weighs_83 (by decide) (fun c18 => ?_) (fun c18 => ?_)
            · have h := h.1 c18
              exact cut151 x1 x2 x3 x4 x5 S _ _ _ h hC (lv_sub hl [1, 2, 3, 4, 5, 6] rfl)
            · have h := h.2 c18
              exact cut86 x1 x4 x5 y0 S _ _ _ h hC (lv_sub hl [1, 2, 5, 6, 0] rfl)
      have cut62 : ∀ (x1 : Int32) (x2 : Int32) (x3 : Int32) (x4 : Int32) (x5 : Int32) (S : mS) (H : Heap) (locs : List Loc) (ls : Array Slot), wp_weighs_62 r_decides r_cancels K (it (ls_weighs_9 r_decides r_cancels K) n9) x1 x2 x3 x4 x5 S → mC E A s.heap S H locs → lv_has ls 8 [(0, .ref E.2.1), (1, .int x1), (2, .int x2), (3, .int x3), (4, .int x4), (5, .int x5)] → W p l e R s m args below meth c H locs 0 0 Q (F0 m 62 ls []) := by
        intro x1 x2 x3 x4 x5 S H locs ls h hC hl
        unfold wp_weighs_62 at h
        refine lv_iconst (v := 0) hx hb dX12_weighs_62 (by decide) ?_
        exact cut63 x1 x2 x3 x4 x5 0 S _ _ _ h hC (lv_sub hl [0, 1, 2, 3, 4, 5] rfl)
      intro x1 x2 x3 x4 S H locs ls h hC hl
      have h : wp_weighs_9 r_decides r_cancels K (it (ls_weighs_9 r_decides r_cancels K) n9) x1 x2 x3 x4 S := h
      unfold wp_weighs_9 at h
      refine lv_iload hx hb dX12_weighs_9 (lv_at hl 4 rfl) ?_
      refine lv_aload_n hx hb dX12_weighs_11 rfl (lv_at hl 0 rfl) ?_
      refine mv_get (v := .ref (E.2.2.1 82)) hX hC 113 (Nat.le_of_ble_eq_true rfl) wd_1513 rfl dX12_weighs_12 ?_
      refine lv_iload_n hx hb dX12_weighs_15 rfl (lv_at hl 1 rfl) ?_
      refine mq_ild (n := 100300) hX hC 82 rfl rfl dX12_weighs_16 h (fun z2 h => ?_)
      refine lv_icmp_ge (tgt := 207) hx hb dX12_weighs_17 (by decide) (fun c3 => ?_) (fun c3 => ?_)
      · have h := h.1 c3
        refine lv_iload_n hx hb dX12_weighs_207 rfl (lv_at hl 3 rfl) ?_
        refine lv_if_eq (tgt := 227) hx hb dX12_weighs_208 (by decide) (fun c4 => ?_) (fun c4 => ?_)
        · have h := h.1 c4
          exact hret _ _ _ _ _ hC h dX12_weighs_227
        · have h := h.2 c4
          refine lv_aload_n hx hb dX12_weighs_211 rfl (lv_at hl 0 rfl) ?_
          refine mv_get (v := .ref (E.2.2.1 80)) hX hC 111 (Nat.le_of_ble_eq_true rfl) wd_1511 rfl dX12_weighs_212 ?_
          refine lv_iload_n hx hb dX12_weighs_215 rfl (lv_at hl 1 rfl) ?_
          refine mq_ild (n := 100300) hX hC 80 rfl rfl dX12_weighs_216 h (fun z5 h => ?_)
          refine lv_if_ne (tgt := 227) hx hb dX12_weighs_217 (by decide) (fun c6 => ?_) (fun c6 => ?_)
          · have h := h.1 c6
            exact hret _ _ _ _ _ hC h dX12_weighs_227
          · have h := h.2 c6
            refine lv_aload_n hx hb dX12_weighs_220 rfl (lv_at hl 0 rfl) ?_
            refine lv_iload_n hx hb dX12_weighs_221 rfl (lv_at hl 1 rfl) ?_
            refine lv_iconst (v := 1) hx hb dX12_weighs_222 (by decide) ?_
            refine lv_iload_n hx hb dX12_weighs_223 rfl (lv_at hl 2 rfl) ?_
            refine mv_callv [.int x1, .int 1, .int x2] (rest := []) hX hC (hr_decides x1 1 x2 S _ h E _) (cw_X12_decides hts (by omega) (by omega)) rfl hl.1 (Nat.le_of_ble_eq_true rfl) ⟨Nat.zero_le _, Nat.zero_le _⟩ dX12_weighs_224 (fun S7 H locs hC h => ?_)
            exact hret _ _ _ _ _ hC h dX12_weighs_227
      · have h := h.2 c3
        refine lv_aload_n hx hb dX12_weighs_20 rfl (lv_at hl 0 rfl) ?_
        refine mv_get (v := .ref (E.2.2.1 83)) hX hC 114 (Nat.le_of_ble_eq_true rfl) wd_1514 rfl dX12_weighs_21 ?_
        refine lv_iload hx hb dX12_weighs_24 (lv_at hl 4 rfl) ?_
        refine mq_ild (n := 100300) hX hC 83 rfl rfl dX12_weighs_26 h (fun z8 h => ?_)
        refine lv_istore (lv' := [(5, .int z8), (0, .ref E.2.1), (1, .int x1), (2, .int x2), (3, .int x3), (4, .int x4)]) hx hb dX12_weighs_27 hl (by decide) rfl (fun ls hl => ?_)
        refine lv_aload_n hx hb dX12_weighs_29 rfl (lv_at hl 1 rfl) ?_
        refine mv_get (v := .ref (E.2.2.1 80)) hX hC 111 (Nat.le_of_ble_eq_true rfl) wd_1511 rfl dX12_weighs_30 ?_
        refine lv_iload_n hx hb dX12_weighs_33 rfl (lv_at hl 2 rfl) ?_
        refine mq_ild (n := 100300) hX hC 80 rfl rfl dX12_weighs_34 h (fun z9 h => ?_)
        refine lv_iconst (v := 2) hx hb dX12_weighs_35 (by decide) ?_
        refine lv_icmp_ne (tgt := 62) hx hb dX12_weighs_36 (by decide) (fun c10 => ?_) (fun c10 => ?_)
        · have h := h.1 c10
          exact cut62 x1 x2 x3 x4 z8 S _ _ _ h hC (lv_sub hl [1, 2, 3, 4, 5, 0] rfl)
        · have h := h.2 c10
          refine lv_iload hx hb dX12_weighs_39 (lv_at hl 5 rfl) ?_
          refine lv_iload_n hx hb dX12_weighs_41 rfl (lv_at hl 2 rfl) ?_
          refine lv_iconst (v := 1) hx hb dX12_weighs_42 (by decide) ?_
          refine lq_iadd hx hb dX12_weighs_43 h (fun z11 h => ?_)
          refine lv_icmp_le (tgt := 62) hx hb dX12_weighs_44 (by decide) (fun c12 => ?_) (fun c12 => ?_)
          · have h := h.1 c12
            exact cut62 x1 x2 x3 x4 z8 S _ _ _ h hC (lv_sub hl [1, 2, 3, 4, 5, 0] rfl)
          · have h := h.2 c12
            refine lv_aload_n hx hb dX12_weighs_47 rfl (lv_at hl 1 rfl) ?_
            refine mv_get (v := .ref (E.2.2.1 80)) hX hC 111 (Nat.le_of_ble_eq_true rfl) wd_1511 rfl dX12_weighs_48 ?_
            refine lv_iload hx hb dX12_weighs_51 (lv_at hl 5 rfl) ?_
            refine mq_ild (n := 100300) hX hC 80 rfl rfl dX12_weighs_53 h (fun z13 h => ?_)
            refine lv_iconst (v := 4) hx hb dX12_weighs_54 (by decide) ?_
            refine lv_icmp_ne (tgt := 62) hx hb dX12_weighs_55 (by decide) (fun c14 => ?_) (fun c14 => ?_)
            · have h := h.1 c14
              exact cut62 x1 x2 x3 x4 z8 S _ _ _ h hC (lv_sub hl [1, 2, 3, 4, 5, 0] rfl)
            · have h := h.2 c14
              refine lv_iconst (v := 1) hx hb dX12_weighs_58 (by decide) ?_
              refine lv_goto (tgt := 63) hx hb dX12_weighs_59 (by decide) ?_
              exact cut63 x1 x2 x3 x4 z8 1 S _ _ _ h hC (lv_sub hl [1, 2, 3, 4, 5, 0] rfl)
  have hl : lv_has ls 8 [(0, .ref E.2.1), (1, .int a0)] := hl
  unfold wp_weighs at h
  refine lv_iconst (v := 0) hx hb dX12_weighs_0 (by decide) ?_
  refine lv_istore_n (lv' := [(2, .int 0), (0, .ref E.2.1), (1, .int a0)]) hx hb dX12_weighs_1 rfl hl (by decide) rfl (fun ls hl => ?_)
  refine lv_iconst (v := 1) hx hb dX12_weighs_2 (by decide) ?_
  refine lv_istore_n (lv' := [(3, .int 1), (2, .int 0), (0, .ref E.2.1), (1, .int a0)]) hx hb dX12_weighs_3 rfl hl (by decide) rfl (fun ls hl => ?_)
  refine lv_iload_n hx hb dX12_weighs_4 rfl (lv_at hl 3 rfl) ?_
  refine lv_iconst (v := 1) hx hb dX12_weighs_5 (by decide) ?_
  refine lq_iadd hx hb dX12_weighs_6 h (fun z1 h => ?_)
  refine lv_istore (lv' := [(4, .int z1), (3, .int 1), (2, .int 0), (0, .ref E.2.1), (1, .int a0)]) hx hb dX12_weighs_7 hl (by decide) rfl (fun ls hl => ?_)
  obtain ⟨n9, h⟩ := h
  exact cut9 n9 a0 0 1 z1 S _ _ _ h hC (lv_sub hl [3, 4, 2, 1, 0] rfl)
def wp_ends_96 (r_decides : Int32 → Int32 → Int32 → mS → (mS → Prop) → Prop) (r_cancels : Int32 → mS → (mS → Int32 → Prop) → Prop) (K : mS → Prop) (x4 : Int32) (S : mS) : Prop := inR x4 200 ∧ ∀ z16 : Int32, z16 = S.2.1 54 (ix x4) → ((¬ z16 = 2 → K S) ∧ (z16 = 2 → inR x4 200 ∧ ∀ z18 : Int32, z18 = S.2.1 67 (ix x4) → ((¬ z18 = 0 → K S) ∧ (z18 = 0 → wp_toRow x4 S (fun (S20 : mS) => K S20)))))
def wp_ends_93 (r_decides : Int32 → Int32 → Int32 → mS → (mS → Prop) → Prop) (r_cancels : Int32 → mS → (mS → Int32 → Prop) → Prop) (K : mS → Prop) (x4 : Int32) (y1 : Int32) (y2 : Int32) (y3 : Int32) (S : mS) : Prop := r_decides y1 y2 y3 S (fun (S15 : mS) => wp_ends_96 r_decides r_cancels K x4 S15)
def wp_ends_84 (r_decides : Int32 → Int32 → Int32 → mS → (mS → Prop) → Prop) (r_cancels : Int32 → mS → (mS → Int32 → Prop) → Prop) (K : mS → Prop) (x2 : Int32) (x3 : Int32) (x4 : Int32) (y1 : Int32) (y2 : Int32) (S : mS) : Prop := ((¬ x2 = 0 → wp_ends_93 r_decides r_cancels K x4 y1 y2 x2 S) ∧ (x2 = 0 → wp_ends_93 r_decides r_cancels K x4 y1 y2 x3 S))
def wp_ends_28 (r_decides : Int32 → Int32 → Int32 → mS → (mS → Prop) → Prop) (r_cancels : Int32 → mS → (mS → Int32 → Prop) → Prop) (K : mS → Prop) (x1 : Int32) (x2 : Int32) (x3 : Int32) (y1 : Int32) (y2 : Int32) (S : mS) : Prop := inR y1 200 ∧ ∀ S4 : mS, S4 = sF S 56 (ix y1) y2 → inR x1 200 ∧ ∀ z5 : Int32, z5 = S4.2.1 52 (ix x1) → ((0 ≤ z5 → inR z5 200 ∧ ∀ z7 : Int32, z7 = S4.2.1 67 (ix z5) → ∀ z8 : Int32, z8 = z7 - 1 → inR z5 200 ∧ ∀ S9 : mS, S9 = sF S4 67 (ix z5) z8 → inR x1 200 ∧ ∀ z10 : Int32, z10 = S9.2.1 53 (ix x1) → inR z10 100300 ∧ ∀ z11 : Int32, z11 = S9.2.1 83 (ix z10) → ((¬ z11 = 0 → wp_ends_96 r_decides r_cancels K z5 S9) ∧ (z11 = 0 → ((¬ x2 = 0 → wp_ends_84 r_decides r_cancels K x2 x3 z5 z10 2 S9) ∧ (x2 = 0 → wp_ends_84 r_decides r_cancels K x2 x3 z5 z10 1 S9))))) ∧ (¬ 0 ≤ z5 → K S4))
def wp_ends (r_decides : Int32 → Int32 → Int32 → mS → (mS → Prop) → Prop) (r_cancels : Int32 → mS → (mS → Int32 → Prop) → Prop) (a0 : Int32) (a1 : Int32) (a2 : Int32) (S : mS) (K : mS → Prop) : Prop := inR a0 200 ∧ ∀ S1 : mS, S1 = sF S 54 (ix a0) 3 → inR a0 200 ∧ ∀ S2 : mS, S2 = sF S1 55 (ix a0) a1 → ((¬ a1 = 0 → wp_ends_28 r_decides r_cancels K a0 a1 a2 a0 0 S2) ∧ (a1 = 0 → wp_ends_28 r_decides r_cancels K a0 a1 a2 a0 a2 S2))
set_option maxHeartbeats 4000000 in
set_option maxRecDepth 100000 in
theorem co_ends (l : Launch) (fr lo F Lo : Nat) (r_decides : Int32 → Int32 → Int32 → mS → (mS → Prop) → Prop) (hr_decides : ∀ (a0 : Int32) (a1 : Int32) (a2 : Int32) (S : mS) (K : mS → Prop), r_decides a0 a1 a2 S K → mMv l yX12_decides cX12_decides 5 none fr lo (fun E => [.int a0, .int a1, .int a2]) S K) (r_cancels : Int32 → mS → (mS → Int32 → Prop) → Prop) (hr_cancels : ∀ (a0 : Int32) (S : mS) (K : mS → Int32 → Prop), r_cancels a0 S K → mMi l yX12_cancels cX12_cancels 3 (some .boolean) fr lo (fun E => [.int a0]) S K) (hF : fr + 1 ≤ F) (hL : lo + 24 ≤ Lo) (hF0 : 1 ≤ F) (hL0 : 21 ≤ Lo) (S : mS) (a0 : Int32) (a1 : Int32) (a2 : Int32) (K : mS → Prop) (h : wp_ends r_decides r_cancels a0 a1 a2 S K) : mMv l yX12_ends cX12_ends 6 none F Lo (fun E => [.int a0, .int a1, .int a2]) S K := by
  refine mv_ofv (by decide) rfl (fun _ => Nat.le_of_ble_eq_true rfl) ?_
  intro E p e R s m args below meth c A ls Q hRf hRl hX hC hl hret
  have hx := hX.1.1
  have hb := hX.1.2.1
  have hown := hX.1.2.2.2.1
  have hts := hX.1.2.2.2.2
  have cut96 : ∀ (x4 : Int32) (S : mS) (H : Heap) (locs : List Loc) (ls : Array Slot), wp_ends_96 r_decides r_cancels K x4 S → mC E A s.heap S H locs → lv_has ls 6 [(0, .ref E.2.1), (4, .int x4)] → W p l e R s m args below meth c H locs 0 0 Q (F0 m 96 ls []) := by
    intro x4 S H locs ls h hC hl
    unfold wp_ends_96 at h
    refine lv_aload_n hx hb dX12_ends_96 rfl (lv_at hl 0 rfl) ?_
    refine mv_get (v := .ref (E.2.2.1 54)) hX hC 78 (Nat.le_of_ble_eq_true rfl) wd_1478 rfl dX12_ends_97 ?_
    refine lv_iload hx hb dX12_ends_100 (lv_at hl 1 rfl) ?_
    refine mq_ild (n := 200) hX hC 54 rfl rfl dX12_ends_102 h (fun z16 h => ?_)
    refine lv_iconst (v := 2) hx hb dX12_ends_103 (by decide) ?_
    refine lv_icmp_ne (tgt := 123) hx hb dX12_ends_104 (by decide) (fun c17 => ?_) (fun c17 => ?_)
    · have h := h.1 c17
      exact hret _ _ _ _ _ hC h dX12_ends_123
    · have h := h.2 c17
      refine lv_aload_n hx hb dX12_ends_107 rfl (lv_at hl 0 rfl) ?_
      refine mv_get (v := .ref (E.2.2.1 67)) hX hC 91 (Nat.le_of_ble_eq_true rfl) wd_1491 rfl dX12_ends_108 ?_
      refine lv_iload hx hb dX12_ends_111 (lv_at hl 1 rfl) ?_
      refine mq_ild (n := 200) hX hC 67 rfl rfl dX12_ends_113 h (fun z18 h => ?_)
      refine lv_if_ne (tgt := 123) hx hb dX12_ends_114 (by decide) (fun c19 => ?_) (fun c19 => ?_)
      · have h := h.1 c19
        exact hret _ _ _ _ _ hC h dX12_ends_123
      · have h := h.2 c19
        refine lv_aload_n hx hb dX12_ends_117 rfl (lv_at hl 0 rfl) ?_
        refine lv_iload hx hb dX12_ends_118 (lv_at hl 1 rfl) ?_
        refine mv_callv [.int x4] (rest := []) hX hC (ct_toRow l S x4 _ h E _) (cw_X12_toRow hts (by omega) (by omega)) rfl hl.1 (Nat.le_of_ble_eq_true rfl) ⟨Nat.zero_le _, Nat.zero_le _⟩ dX12_ends_120 (fun S20 H locs hC h => ?_)
        exact hret _ _ _ _ _ hC h dX12_ends_123
  have cut93 : ∀ (x4 : Int32) (y1 : Int32) (y2 : Int32) (y3 : Int32) (S : mS) (H : Heap) (locs : List Loc) (ls : Array Slot), wp_ends_93 r_decides r_cancels K x4 y1 y2 y3 S → mC E A s.heap S H locs → lv_has ls 6 [(0, .ref E.2.1), (4, .int x4)] → W p l e R s m args below meth c H locs 0 0 Q (F0 m 93 ls [.int y3, .int y2, .int y1, .ref E.2.1]) := by
    intro x4 y1 y2 y3 S H locs ls h hC hl
    unfold wp_ends_93 at h
    refine mv_callv [.int y1, .int y2, .int y3] (rest := []) hX hC (hr_decides y1 y2 y3 S _ h E _) (cw_X12_decides hts (by omega) (by omega)) rfl hl.1 (Nat.le_of_ble_eq_true rfl) ⟨Nat.zero_le _, Nat.zero_le _⟩ dX12_ends_93 (fun S15 H locs hC h => ?_)
    exact cut96 x4 S15 _ _ _ h hC (lv_sub hl [0, 1] rfl)
  have cut84 : ∀ (x2 : Int32) (x3 : Int32) (x4 : Int32) (y1 : Int32) (y2 : Int32) (S : mS) (H : Heap) (locs : List Loc) (ls : Array Slot), wp_ends_84 r_decides r_cancels K x2 x3 x4 y1 y2 S → mC E A s.heap S H locs → lv_has ls 6 [(0, .ref E.2.1), (2, .int x2), (3, .int x3), (4, .int x4)] → W p l e R s m args below meth c H locs 0 0 Q (F0 m 84 ls [.int y2, .int y1, .ref E.2.1]) := by
    intro x2 x3 x4 y1 y2 S H locs ls h hC hl
    unfold wp_ends_84 at h
    refine lv_iload_n hx hb dX12_ends_84 rfl (lv_at hl 1 rfl) ?_
    refine lv_if_ne (tgt := 92) hx hb dX12_ends_85 (by decide) (fun c14 => ?_) (fun c14 => ?_)
    · have h := h.1 c14
      refine lv_iload_n hx hb dX12_ends_92 rfl (lv_at hl 1 rfl) ?_
      exact cut93 x4 y1 y2 x2 S _ _ _ h hC (lv_sub hl [0, 3] rfl)
    · have h := h.2 c14
      refine lv_iload_n hx hb dX12_ends_88 rfl (lv_at hl 2 rfl) ?_
      refine lv_goto (tgt := 93) hx hb dX12_ends_89 (by decide) ?_
      exact cut93 x4 y1 y2 x3 S _ _ _ h hC (lv_sub hl [0, 3] rfl)
  have cut28 : ∀ (x1 : Int32) (x2 : Int32) (x3 : Int32) (y1 : Int32) (y2 : Int32) (S : mS) (H : Heap) (locs : List Loc) (ls : Array Slot), wp_ends_28 r_decides r_cancels K x1 x2 x3 y1 y2 S → mC E A s.heap S H locs → lv_has ls 6 [(0, .ref E.2.1), (1, .int x1), (2, .int x2), (3, .int x3)] → W p l e R s m args below meth c H locs 0 0 Q (F0 m 28 ls [.int y2, .int y1, .ref (E.2.2.1 56)]) := by
    intro x1 x2 x3 y1 y2 S H locs ls h hC hl
    unfold wp_ends_28 at h
    refine mq_ist (n := 200) (v := y2) hX hC 56 rfl rfl mf_56 dX12_ends_28 h.1 h.2 (fun S4 H locs hC h => ?_)
    refine lv_aload_n hx hb dX12_ends_29 rfl (lv_at hl 0 rfl) ?_
    refine mv_get (v := .ref (E.2.2.1 52)) hX hC 76 (Nat.le_of_ble_eq_true rfl) wd_1476 rfl dX12_ends_30 ?_
    refine lv_iload_n hx hb dX12_ends_33 rfl (lv_at hl 1 rfl) ?_
    refine mq_ild (n := 200) hX hC 52 rfl rfl dX12_ends_34 h (fun z5 h => ?_)
    refine lv_istore (lv' := [(4, .int z5), (0, .ref E.2.1), (1, .int x1), (2, .int x2), (3, .int x3)]) hx hb dX12_ends_35 hl (by decide) rfl (fun ls hl => ?_)
    refine lv_iload hx hb dX12_ends_37 (lv_at hl 0 rfl) ?_
    refine lv_if_ge (tgt := 43) hx hb dX12_ends_39 (by decide) (fun c6 => ?_) (fun c6 => ?_)
    · have h := h.1 c6
      refine lv_aload_n hx hb dX12_ends_43 rfl (lv_at hl 1 rfl) ?_
      refine mv_get (v := .ref (E.2.2.1 67)) hX hC 91 (Nat.le_of_ble_eq_true rfl) wd_1491 rfl dX12_ends_44 ?_
      refine lv_iload hx hb dX12_ends_47 (lv_at hl 0 rfl) ?_
      refine lv_dup2_11 hx hb dX12_ends_49 rfl rfl ?_
      refine mq_ild (n := 200) hX hC 67 rfl rfl dX12_ends_50 h (fun z7 h => ?_)
      refine lv_iconst (v := 1) hx hb dX12_ends_51 (by decide) ?_
      refine lq_isub hx hb dX12_ends_52 h (fun z8 h => ?_)
      refine mq_ist (n := 200) (v := z8) hX hC 67 rfl rfl mf_67 dX12_ends_53 h.1 h.2 (fun S9 H locs hC h => ?_)
      refine lv_aload_n hx hb dX12_ends_54 rfl (lv_at hl 1 rfl) ?_
      refine mv_get (v := .ref (E.2.2.1 53)) hX hC 77 (Nat.le_of_ble_eq_true rfl) wd_1477 rfl dX12_ends_55 ?_
      refine lv_iload_n hx hb dX12_ends_58 rfl (lv_at hl 2 rfl) ?_
      refine mq_ild (n := 200) hX hC 53 rfl rfl dX12_ends_59 h (fun z10 h => ?_)
      refine lv_istore (lv' := [(5, .int z10), (4, .int z5), (0, .ref E.2.1), (1, .int x1), (2, .int x2), (3, .int x3)]) hx hb dX12_ends_60 hl (by decide) rfl (fun ls hl => ?_)
      refine lv_aload_n hx hb dX12_ends_62 rfl (lv_at hl 2 rfl) ?_
      refine mv_get (v := .ref (E.2.2.1 83)) hX hC 114 (Nat.le_of_ble_eq_true rfl) wd_1514 rfl dX12_ends_63 ?_
      refine lv_iload hx hb dX12_ends_66 (lv_at hl 0 rfl) ?_
      refine mq_ild (n := 100300) hX hC 83 rfl rfl dX12_ends_68 h (fun z11 h => ?_)
      refine lv_if_ne (tgt := 96) hx hb dX12_ends_69 (by decide) (fun c12 => ?_) (fun c12 => ?_)
      · have h := h.1 c12
        exact cut96 z5 S9 _ _ _ h hC (lv_sub hl [2, 1] rfl)
      · have h := h.2 c12
        refine lv_aload_n hx hb dX12_ends_72 rfl (lv_at hl 2 rfl) ?_
        refine lv_iload hx hb dX12_ends_73 (lv_at hl 0 rfl) ?_
        refine lv_iload_n hx hb dX12_ends_75 rfl (lv_at hl 4 rfl) ?_
        refine lv_if_ne (tgt := 83) hx hb dX12_ends_76 (by decide) (fun c13 => ?_) (fun c13 => ?_)
        · have h := h.1 c13
          refine lv_iconst (v := 2) hx hb dX12_ends_83 (by decide) ?_
          exact cut84 x2 x3 z5 z10 2 S9 _ _ _ h hC (lv_sub hl [2, 4, 5, 1] rfl)
        · have h := h.2 c13
          refine lv_iconst (v := 1) hx hb dX12_ends_79 (by decide) ?_
          refine lv_goto (tgt := 84) hx hb dX12_ends_80 (by decide) ?_
          exact cut84 x2 x3 z5 z10 1 S9 _ _ _ h hC (lv_sub hl [2, 4, 5, 1] rfl)
    · have h := h.2 c6
      exact hret _ _ _ _ _ hC h dX12_ends_42
  have hl : lv_has ls 6 [(0, .ref E.2.1), (1, .int a0), (2, .int a1), (3, .int a2)] := hl
  unfold wp_ends at h
  refine lv_aload_n hx hb dX12_ends_0 rfl (lv_at hl 0 rfl) ?_
  refine mv_get (v := .ref (E.2.2.1 54)) hX hC 78 (Nat.le_of_ble_eq_true rfl) wd_1478 rfl dX12_ends_1 ?_
  refine lv_iload_n hx hb dX12_ends_4 rfl (lv_at hl 1 rfl) ?_
  refine lv_iconst (v := 3) hx hb dX12_ends_5 (by decide) ?_
  refine mq_ist (n := 200) (v := 3) hX hC 54 rfl rfl mf_54 dX12_ends_6 h.1 h.2 (fun S1 H locs hC h => ?_)
  refine lv_aload_n hx hb dX12_ends_7 rfl (lv_at hl 0 rfl) ?_
  refine mv_get (v := .ref (E.2.2.1 55)) hX hC 79 (Nat.le_of_ble_eq_true rfl) wd_1479 rfl dX12_ends_8 ?_
  refine lv_iload_n hx hb dX12_ends_11 rfl (lv_at hl 1 rfl) ?_
  refine lv_iload_n hx hb dX12_ends_12 rfl (lv_at hl 2 rfl) ?_
  refine mq_ist (n := 200) (v := a1) hX hC 55 rfl rfl mf_55 dX12_ends_13 h.1 h.2 (fun S2 H locs hC h => ?_)
  refine lv_aload_n hx hb dX12_ends_14 rfl (lv_at hl 0 rfl) ?_
  refine mv_get (v := .ref (E.2.2.1 56)) hX hC 80 (Nat.le_of_ble_eq_true rfl) wd_1480 rfl dX12_ends_15 ?_
  refine lv_iload_n hx hb dX12_ends_18 rfl (lv_at hl 1 rfl) ?_
  refine lv_iload_n hx hb dX12_ends_19 rfl (lv_at hl 2 rfl) ?_
  refine lv_if_ne (tgt := 27) hx hb dX12_ends_20 (by decide) (fun c3 => ?_) (fun c3 => ?_)
  · have h := h.1 c3
    refine lv_iconst (v := 0) hx hb dX12_ends_27 (by decide) ?_
    exact cut28 a0 a1 a2 a0 0 S2 _ _ _ h hC (lv_sub hl [0, 1, 2, 3] rfl)
  · have h := h.2 c3
    refine lv_iload_n hx hb dX12_ends_23 rfl (lv_at hl 3 rfl) ?_
    refine lv_goto (tgt := 28) hx hb dX12_ends_24 (by decide) ?_
    exact cut28 a0 a1 a2 a0 a2 S2 _ _ _ h hC (lv_sub hl [0, 1, 2, 3] rfl)
def wp_decides (r_decides : Int32 → Int32 → Int32 → mS → (mS → Prop) → Prop) (r_cancels : Int32 → mS → (mS → Int32 → Prop) → Prop) (a0 : Int32) (a1 : Int32) (a2 : Int32) (S : mS) (K : mS → Prop) : Prop := inR a0 100300 ∧ ∀ S1 : mS, S1 = sF S 83 (ix a0) a1 → inR a0 100300 ∧ ∀ S2 : mS, S2 = sF S1 84 (ix a0) a2 → inR a0 100300 ∧ ∀ z3 : Int32, z3 = S2.2.1 81 (ix a0) → ((0 ≤ z3 → inR z3 100300 ∧ ∀ z5 : Int32, z5 = S2.2.1 83 (ix z3) → ((¬ z5 = 0 → K S2) ∧ (z5 = 0 → inR z3 100300 ∧ ∀ z7 : Int32, z7 = S2.2.1 82 (ix z3) → ((z7 ≤ 0 → K S2) ∧ (¬ z7 ≤ 0 → wp_weighs r_decides r_cancels z3 S2 (fun (S9 : mS) => K S9)))))) ∧ (¬ 0 ≤ z3 → inR a0 100300 ∧ ∀ z10 : Int32, z10 = S2.2.1 85 (ix a0) → wp_waitEnds z10 a1 a2 S2 (fun (S11 : mS) => K S11)))
theorem cw_X12_weighs {R : Room} {s : State} {args : Array Value} {fr lo : Nat} (hts : ∀ w ∈ tb, w.before args s = true) (h1 : fr + 1 ≤ R.frames) (h2 : 8 + (8 + 11) + lo ≤ R.locals) : CallW R s args RX12 RX12 578 yX12_weighs cX12_weighs 8 none (.code yX12_weighs cX12_weighs 8 none :: tb) (mRm fr lo) 0 0 1 := cwV 1 hts (gd_V wd_2034 wd_2036 sl_X12_weighs wd_15 wd_2037) rfl rfl rfl (by decide +kernel) ⟨h1, h2⟩
theorem cw_X12_waitEnds {R : Room} {s : State} {args : Array Value} {fr lo : Nat} (hts : ∀ w ∈ tb, w.before args s = true) (h1 : fr + 1 ≤ R.frames) (h2 : 8 + (4 + 11) + lo ≤ R.locals) : CallW R s args RX12 RX12 575 yX12_waitEnds cX12_waitEnds 4 none (.code yX12_waitEnds cX12_waitEnds 4 none :: tb) (mRm fr lo) 0 0 3 := cwV 3 hts (gd_V wd_2030 wd_2032 sl_X12_waitEnds wd_15 wd_2033) rfl rfl rfl (by decide +kernel) ⟨h1, h2⟩
set_option maxHeartbeats 4000000 in
set_option maxRecDepth 100000 in
theorem co_decides (l : Launch) (fr lo F Lo : Nat) (r_decides : Int32 → Int32 → Int32 → mS → (mS → Prop) → Prop) (hr_decides : ∀ (a0 : Int32) (a1 : Int32) (a2 : Int32) (S : mS) (K : mS → Prop), r_decides a0 a1 a2 S K → mMv l yX12_decides cX12_decides 5 none fr lo (fun E => [.int a0, .int a1, .int a2]) S K) (r_cancels : Int32 → mS → (mS → Int32 → Prop) → Prop) (hr_cancels : ∀ (a0 : Int32) (S : mS) (K : mS → Int32 → Prop), r_cancels a0 S K → mMi l yX12_cancels cX12_cancels 3 (some .boolean) fr lo (fun E => [.int a0]) S K) (hF : fr + 3 ≤ F) (hL : lo + 72 ≤ Lo) (hF0 : 3 ≤ F) (hL0 : 73 ≤ Lo) (S : mS) (a0 : Int32) (a1 : Int32) (a2 : Int32) (K : mS → Prop) (h : wp_decides r_decides r_cancels a0 a1 a2 S K) : mMv l yX12_decides cX12_decides 5 none F Lo (fun E => [.int a0, .int a1, .int a2]) S K := by
  refine mv_ofv (by decide) rfl (fun _ => Nat.le_of_ble_eq_true rfl) ?_
  intro E p e R s m args below meth c A ls Q hRf hRl hX hC hl hret
  have hx := hX.1.1
  have hb := hX.1.2.1
  have hown := hX.1.2.2.2.1
  have hts := hX.1.2.2.2.2
  have hl : lv_has ls 5 [(0, .ref E.2.1), (1, .int a0), (2, .int a1), (3, .int a2)] := hl
  unfold wp_decides at h
  refine lv_aload_n hx hb dX12_decides_0 rfl (lv_at hl 0 rfl) ?_
  refine mv_get (v := .ref (E.2.2.1 83)) hX hC 114 (Nat.le_of_ble_eq_true rfl) wd_1514 rfl dX12_decides_1 ?_
  refine lv_iload_n hx hb dX12_decides_4 rfl (lv_at hl 1 rfl) ?_
  refine lv_iload_n hx hb dX12_decides_5 rfl (lv_at hl 2 rfl) ?_
  refine mq_ist (n := 100300) (v := a1) hX hC 83 rfl rfl mf_83 dX12_decides_6 h.1 h.2 (fun S1 H locs hC h => ?_)
  refine lv_aload_n hx hb dX12_decides_7 rfl (lv_at hl 0 rfl) ?_
  refine mv_get (v := .ref (E.2.2.1 84)) hX hC 115 (Nat.le_of_ble_eq_true rfl) wd_1515 rfl dX12_decides_8 ?_
  refine lv_iload_n hx hb dX12_decides_11 rfl (lv_at hl 1 rfl) ?_
  refine lv_iload_n hx hb dX12_decides_12 rfl (lv_at hl 3 rfl) ?_
  refine mq_ist (n := 100300) (v := a2) hX hC 84 rfl rfl mf_84 dX12_decides_13 h.1 h.2 (fun S2 H locs hC h => ?_)
  refine lv_aload_n hx hb dX12_decides_14 rfl (lv_at hl 0 rfl) ?_
  refine mv_get (v := .ref (E.2.2.1 81)) hX hC 112 (Nat.le_of_ble_eq_true rfl) wd_1512 rfl dX12_decides_15 ?_
  refine lv_iload_n hx hb dX12_decides_18 rfl (lv_at hl 1 rfl) ?_
  refine mq_ild (n := 100300) hX hC 81 rfl rfl dX12_decides_19 h (fun z3 h => ?_)
  refine lv_istore (lv' := [(4, .int z3), (0, .ref E.2.1), (1, .int a0), (2, .int a1), (3, .int a2)]) hx hb dX12_decides_20 hl (by decide) rfl (fun ls hl => ?_)
  refine lv_iload hx hb dX12_decides_22 (lv_at hl 0 rfl) ?_
  refine lv_if_ge (tgt := 42) hx hb dX12_decides_24 (by decide) (fun c4 => ?_) (fun c4 => ?_)
  · have h := h.1 c4
    refine lv_aload_n hx hb dX12_decides_42 rfl (lv_at hl 1 rfl) ?_
    refine mv_get (v := .ref (E.2.2.1 83)) hX hC 114 (Nat.le_of_ble_eq_true rfl) wd_1514 rfl dX12_decides_43 ?_
    refine lv_iload hx hb dX12_decides_46 (lv_at hl 0 rfl) ?_
    refine mq_ild (n := 100300) hX hC 83 rfl rfl dX12_decides_48 h (fun z5 h => ?_)
    refine lv_if_ne (tgt := 68) hx hb dX12_decides_49 (by decide) (fun c6 => ?_) (fun c6 => ?_)
    · have h := h.1 c6
      exact hret _ _ _ _ _ hC h dX12_decides_68
    · have h := h.2 c6
      refine lv_aload_n hx hb dX12_decides_52 rfl (lv_at hl 1 rfl) ?_
      refine mv_get (v := .ref (E.2.2.1 82)) hX hC 113 (Nat.le_of_ble_eq_true rfl) wd_1513 rfl dX12_decides_53 ?_
      refine lv_iload hx hb dX12_decides_56 (lv_at hl 0 rfl) ?_
      refine mq_ild (n := 100300) hX hC 82 rfl rfl dX12_decides_58 h (fun z7 h => ?_)
      refine lv_if_le (tgt := 68) hx hb dX12_decides_59 (by decide) (fun c8 => ?_) (fun c8 => ?_)
      · have h := h.1 c8
        exact hret _ _ _ _ _ hC h dX12_decides_68
      · have h := h.2 c8
        refine lv_aload_n hx hb dX12_decides_62 rfl (lv_at hl 1 rfl) ?_
        refine lv_iload hx hb dX12_decides_63 (lv_at hl 0 rfl) ?_
        refine mv_callv [.int z3] (rest := []) hX hC (co_weighs l fr lo (max (fr + 2) 2) (max (lo + 45) 46) r_decides hr_decides r_cancels hr_cancels (Nat.le_max_left _ _) (Nat.le_max_left _ _) (Nat.le_max_right _ _) (Nat.le_max_right _ _) S2 z3 _ h E _) (cw_X12_weighs hts (by omega) (by omega)) rfl hl.1 (Nat.le_of_ble_eq_true rfl) ⟨Nat.zero_le _, Nat.zero_le _⟩ dX12_decides_65 (fun S9 H locs hC h => ?_)
        exact hret _ _ _ _ _ hC h dX12_decides_68
  · have h := h.2 c4
    refine lv_aload_n hx hb dX12_decides_27 rfl (lv_at hl 1 rfl) ?_
    refine lv_aload_n hx hb dX12_decides_28 rfl (lv_at hl 1 rfl) ?_
    refine mv_get (v := .ref (E.2.2.1 85)) hX hC 116 (Nat.le_of_ble_eq_true rfl) wd_1516 rfl dX12_decides_29 ?_
    refine lv_iload_n hx hb dX12_decides_32 rfl (lv_at hl 2 rfl) ?_
    refine mq_ild (n := 100300) hX hC 85 rfl rfl dX12_decides_33 h (fun z10 h => ?_)
    refine lv_iload_n hx hb dX12_decides_34 rfl (lv_at hl 3 rfl) ?_
    refine lv_iload_n hx hb dX12_decides_35 rfl (lv_at hl 4 rfl) ?_
    refine mv_callv [.int z10, .int a1, .int a2] (rest := []) hX hC (ct_waitEnds l S2 z10 a1 a2 _ h E _) (cw_X12_waitEnds hts (by omega) (by omega)) rfl hl.1 (Nat.le_of_ble_eq_true rfl) ⟨Nat.zero_le _, Nat.zero_le _⟩ dX12_decides_36 (fun S11 H locs hC h => ?_)
    refine lv_goto (tgt := 68) hx hb dX12_decides_39 (by decide) ?_
    exact hret _ _ _ _ _ hC h dX12_decides_68
