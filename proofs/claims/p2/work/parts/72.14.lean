theorem wd_1790 : (Jvm.Cond.methodLink "SleepersModel" (353 : Nat) ({ cls := "SleepersModel", name := "cutAll", desc := "()V" } : Jvm.MethodName)) ∈ tb := tb_at 1790 (by decide +kernel) (by decide +kernel)
theorem wd_1792 : (Jvm.Cond.instanceMethod ({ cls := "SleepersModel", name := "cutAll", desc := "()V" } : Jvm.MethodName)) ∈ tb := tb_at 1792 (by decide +kernel) (by decide +kernel)
theorem wd_1793 : (Jvm.Cond.code ({ cls := "SleepersModel", name := "cutAll", desc := "()V" } : Jvm.MethodName) prog_14_method_9_code (7 : Nat) (Option.none : Option Jvm.ClassFile.FieldType)) ∈ tb := tb_at 1793 (by decide +kernel) (by decide +kernel)
theorem wd_1962 : (Jvm.Cond.methodLink "SleepersModel" (535 : Nat) ({ cls := "SleepersModel", name := "isState", desc := "(II)Z" } : Jvm.MethodName)) ∈ tb := tb_at 1962 (by decide +kernel) (by decide +kernel)
theorem wd_1964 : (Jvm.Cond.instanceMethod ({ cls := "SleepersModel", name := "isState", desc := "(II)Z" } : Jvm.MethodName)) ∈ tb := tb_at 1964 (by decide +kernel) (by decide +kernel)
theorem wd_1965 : (Jvm.Cond.code ({ cls := "SleepersModel", name := "isState", desc := "(II)Z" } : Jvm.MethodName) prog_14_method_56_code (3 : Nat) (Option.some Jvm.ClassFile.FieldType.boolean)) ∈ tb := tb_at 1965 (by decide +kernel) (by decide +kernel)
theorem wd_1966 : (Jvm.Cond.methodLink "SleepersModel" (539 : Nat) ({ cls := "SleepersModel", name := "from", desc := "(II)V" } : Jvm.MethodName)) ∈ tb := tb_at 1966 (by decide +kernel) (by decide +kernel)
theorem wd_1968 : (Jvm.Cond.instanceMethod ({ cls := "SleepersModel", name := "from", desc := "(II)V" } : Jvm.MethodName)) ∈ tb := tb_at 1968 (by decide +kernel) (by decide +kernel)
theorem wd_1969 : (Jvm.Cond.code ({ cls := "SleepersModel", name := "from", desc := "(II)V" } : Jvm.MethodName) prog_14_method_55_code (4 : Nat) (Option.none : Option Jvm.ClassFile.FieldType)) ∈ tb := tb_at 1969 (by decide +kernel) (by decide +kernel)
theorem sl_X12_cutAll : Cond.selects RX12 yX12_cutAll yX12_cutAll ∈ tb := sl_of (y := ⟨"SleepersModel", "cutAll", "()V"⟩) (n := 128) (by decide +kernel) (by decide +kernel)
theorem sl_X12_from : Cond.selects RX12 yX12_from yX12_from ∈ tb := sl_of (y := ⟨"SleepersModel", "from", "(II)V"⟩) (n := 128) (by decide +kernel) (by decide +kernel)
theorem sl_X12_isState : Cond.selects RX12 yX12_isState yX12_isState ∈ tb := sl_of (y := ⟨"SleepersModel", "isState", "(II)Z"⟩) (n := 128) (by decide +kernel) (by decide +kernel)
theorem dX12_letterNode_0 : decode cX12_letterNode 0 = .ok (.aload_n 0, 1) := by decide +kernel
theorem dX12_letterNode_1 : decode cX12_letterNode 1 = .ok (.getfield 267, 3) := by decide +kernel
theorem dX12_letterNode_4 : decode cX12_letterNode 4 = .ok (.iload_n 1, 1) := by decide +kernel
theorem dX12_letterNode_5 : decode cX12_letterNode 5 = .ok (.iaload, 1) := by decide +kernel
theorem dX12_letterNode_6 : decode cX12_letterNode 6 = .ok (.ifCond .ne 12, 3) := by decide +kernel
theorem dX12_letterNode_9 : decode cX12_letterNode 9 = .ok (.aload_n 0, 1) := by decide +kernel
theorem dX12_letterNode_10 : decode cX12_letterNode 10 = .ok (.iconst 3, 1) := by decide +kernel
theorem dX12_letterNode_11 : decode cX12_letterNode 11 = .ok (.iconst 0, 1) := by decide +kernel
theorem dX12_letterNode_12 : decode cX12_letterNode 12 = .ok (.iload_n 1, 1) := by decide +kernel
theorem dX12_letterNode_13 : decode cX12_letterNode 13 = .ok (.invokevirtual 672, 3) := by decide +kernel
theorem dX12_letterNode_16 : decode cX12_letterNode 16 = .ok (.istore_n 2, 1) := by decide +kernel
theorem dX12_letterNode_17 : decode cX12_letterNode 17 = .ok (.return_, 1) := by decide +kernel
theorem dX12_letterNode_18 : decode cX12_letterNode 18 = .ok (.aload_n 0, 1) := by decide +kernel
theorem dX12_letterNode_19 : decode cX12_letterNode 19 = .ok (.getfield 270, 3) := by decide +kernel
theorem dX12_letterNode_22 : decode cX12_letterNode 22 = .ok (.bipush 50, 2) := by decide +kernel
theorem dX12_letterNode_24 : decode cX12_letterNode 24 = .ok (.iload_n 1, 1) := by decide +kernel
theorem dX12_letterNode_25 : decode cX12_letterNode 25 = .ok (.imul, 1) := by decide +kernel
theorem dX12_letterNode_26 : decode cX12_letterNode 26 = .ok (.iaload, 1) := by decide +kernel
theorem dX12_letterNode_27 : decode cX12_letterNode 27 = .ok (.istore_n 2, 1) := by decide +kernel
theorem dX12_letterNode_28 : decode cX12_letterNode 28 = .ok (.aload_n 0, 1) := by decide +kernel
theorem dX12_letterNode_29 : decode cX12_letterNode 29 = .ok (.getfield 267, 3) := by decide +kernel
theorem dX12_letterNode_32 : decode cX12_letterNode 32 = .ok (.iload_n 1, 1) := by decide +kernel
theorem dX12_letterNode_33 : decode cX12_letterNode 33 = .ok (.dup2, 1) := by decide +kernel
theorem dX12_letterNode_34 : decode cX12_letterNode 34 = .ok (.iaload, 1) := by decide +kernel
theorem dX12_letterNode_35 : decode cX12_letterNode 35 = .ok (.iconst 1, 1) := by decide +kernel
theorem dX12_letterNode_36 : decode cX12_letterNode 36 = .ok (.isub, 1) := by decide +kernel
theorem dX12_letterNode_37 : decode cX12_letterNode 37 = .ok (.iastore, 1) := by decide +kernel
theorem dX12_letterNode_38 : decode cX12_letterNode 38 = .ok (.iconst 0, 1) := by decide +kernel
theorem dX12_letterNode_39 : decode cX12_letterNode 39 = .ok (.istore_n 3, 1) := by decide +kernel
theorem dX12_letterNode_40 : decode cX12_letterNode 40 = .ok (.iload_n 3, 1) := by decide +kernel
theorem dX12_letterNode_41 : decode cX12_letterNode 41 = .ok (.aload_n 0, 1) := by decide +kernel
theorem dX12_letterNode_42 : decode cX12_letterNode 42 = .ok (.getfield 267, 3) := by decide +kernel
theorem dX12_letterNode_45 : decode cX12_letterNode 45 = .ok (.iload_n 1, 1) := by decide +kernel
theorem dX12_letterNode_46 : decode cX12_letterNode 46 = .ok (.iaload, 1) := by decide +kernel
theorem dX12_letterNode_47 : decode cX12_letterNode 47 = .ok (.if_icmp .ge 33, 3) := by decide +kernel
theorem dX12_letterNode_50 : decode cX12_letterNode 50 = .ok (.aload_n 0, 1) := by decide +kernel
theorem dX12_letterNode_51 : decode cX12_letterNode 51 = .ok (.getfield 270, 3) := by decide +kernel
theorem dX12_letterNode_54 : decode cX12_letterNode 54 = .ok (.bipush 50, 2) := by decide +kernel
theorem dX12_letterNode_56 : decode cX12_letterNode 56 = .ok (.iload_n 1, 1) := by decide +kernel
theorem dX12_letterNode_57 : decode cX12_letterNode 57 = .ok (.imul, 1) := by decide +kernel
theorem dX12_letterNode_58 : decode cX12_letterNode 58 = .ok (.iload_n 3, 1) := by decide +kernel
theorem dX12_letterNode_59 : decode cX12_letterNode 59 = .ok (.iadd, 1) := by decide +kernel
theorem dX12_letterNode_60 : decode cX12_letterNode 60 = .ok (.aload_n 0, 1) := by decide +kernel
theorem dX12_letterNode_61 : decode cX12_letterNode 61 = .ok (.getfield 270, 3) := by decide +kernel
theorem dX12_letterNode_64 : decode cX12_letterNode 64 = .ok (.bipush 50, 2) := by decide +kernel
theorem dX12_letterNode_66 : decode cX12_letterNode 66 = .ok (.iload_n 1, 1) := by decide +kernel
theorem dX12_letterNode_67 : decode cX12_letterNode 67 = .ok (.imul, 1) := by decide +kernel
theorem dX12_letterNode_68 : decode cX12_letterNode 68 = .ok (.iload_n 3, 1) := by decide +kernel
theorem dX12_letterNode_69 : decode cX12_letterNode 69 = .ok (.iadd, 1) := by decide +kernel
theorem dX12_letterNode_70 : decode cX12_letterNode 70 = .ok (.iconst 1, 1) := by decide +kernel
theorem dX12_letterNode_71 : decode cX12_letterNode 71 = .ok (.iadd, 1) := by decide +kernel
theorem dX12_letterNode_72 : decode cX12_letterNode 72 = .ok (.iaload, 1) := by decide +kernel
theorem dX12_letterNode_73 : decode cX12_letterNode 73 = .ok (.iastore, 1) := by decide +kernel
theorem dX12_letterNode_74 : decode cX12_letterNode 74 = .ok (.iinc 3 1, 3) := by decide +kernel
theorem dX12_letterNode_77 : decode cX12_letterNode 77 = .ok (.goto (-37), 3) := by decide +kernel
theorem dX12_letterNode_80 : decode cX12_letterNode 80 = .ok (.aload_n 0, 1) := by decide +kernel
theorem dX12_letterNode_81 : decode cX12_letterNode 81 = .ok (.iconst 3, 1) := by decide +kernel
theorem dX12_letterNode_82 : decode cX12_letterNode 82 = .ok (.iconst 1, 1) := by decide +kernel
theorem dX12_letterNode_83 : decode cX12_letterNode 83 = .ok (.iload_n 2, 1) := by decide +kernel
theorem dX12_letterNode_84 : decode cX12_letterNode 84 = .ok (.invokevirtual 672, 3) := by decide +kernel
theorem dX12_letterNode_87 : decode cX12_letterNode 87 = .ok (.istore_n 3, 1) := by decide +kernel
theorem dX12_letterNode_88 : decode cX12_letterNode 88 = .ok (.return_, 1) := by decide +kernel
theorem dX12_live_0 : decode cX12_live 0 = .ok (.aload_n 0, 1) := by decide +kernel
theorem dX12_live_1 : decode cX12_live 1 = .ok (.iconst 0, 1) := by decide +kernel
theorem dX12_live_2 : decode cX12_live 2 = .ok (.putfield 1, 3) := by decide +kernel
theorem dX12_live_5 : decode cX12_live 5 = .ok (.aload_n 0, 1) := by decide +kernel
theorem dX12_live_6 : decode cX12_live 6 = .ok (.iload_n 1, 1) := by decide +kernel
theorem dX12_live_7 : decode cX12_live 7 = .ok (.iload_n 2, 1) := by decide +kernel
theorem dX12_live_8 : decode cX12_live 8 = .ok (.invokevirtual 535, 3) := by decide +kernel
theorem dX12_live_11 : decode cX12_live 11 = .ok (.ifCond .eq 25, 3) := by decide +kernel
theorem dX12_live_14 : decode cX12_live 14 = .ok (.iload_n 3, 1) := by decide +kernel
theorem dX12_live_15 : decode cX12_live 15 = .ok (.ifCond .lt 21, 3) := by decide +kernel
theorem dX12_live_18 : decode cX12_live 18 = .ok (.iload_n 3, 1) := by decide +kernel
theorem dX12_live_19 : decode cX12_live 19 = .ok (.aload_n 0, 1) := by decide +kernel
theorem dX12_live_20 : decode cX12_live 20 = .ok (.getfield 52, 3) := by decide +kernel
theorem dX12_live_23 : decode cX12_live 23 = .ok (.bipush 12, 2) := by decide +kernel
theorem dX12_live_25 : decode cX12_live 25 = .ok (.aload_n 0, 1) := by decide +kernel
theorem dX12_live_26 : decode cX12_live 26 = .ok (.getfield 356, 3) := by decide +kernel
theorem dX12_live_29 : decode cX12_live 29 = .ok (.imul, 1) := by decide +kernel
theorem dX12_live_30 : decode cX12_live 30 = .ok (.iload_n 1, 1) := by decide +kernel
theorem dX12_live_31 : decode cX12_live 31 = .ok (.iadd, 1) := by decide +kernel
theorem dX12_live_32 : decode cX12_live 32 = .ok (.iaload, 1) := by decide +kernel
theorem dX12_live_33 : decode cX12_live 33 = .ok (.if_icmp .lt 5, 3) := by decide +kernel
theorem dX12_live_36 : decode cX12_live 36 = .ok (.iconst (-1), 1) := by decide +kernel
theorem dX12_live_37 : decode cX12_live 37 = .ok (.ireturn, 1) := by decide +kernel
theorem dX12_live_38 : decode cX12_live 38 = .ok (.bipush 12, 2) := by decide +kernel
theorem dX12_live_40 : decode cX12_live 40 = .ok (.aload_n 0, 1) := by decide +kernel
theorem dX12_live_41 : decode cX12_live 41 = .ok (.getfield 356, 3) := by decide +kernel
theorem dX12_live_44 : decode cX12_live 44 = .ok (.imul, 1) := by decide +kernel
theorem dX12_live_45 : decode cX12_live 45 = .ok (.iload_n 1, 1) := by decide +kernel
theorem dX12_live_46 : decode cX12_live 46 = .ok (.iadd, 1) := by decide +kernel
theorem dX12_live_47 : decode cX12_live 47 = .ok (.istore 4, 2) := by decide +kernel
theorem dX12_live_49 : decode cX12_live 49 = .ok (.aload_n 0, 1) := by decide +kernel
theorem dX12_live_50 : decode cX12_live 50 = .ok (.iload 4, 2) := by decide +kernel
theorem dX12_live_52 : decode cX12_live 52 = .ok (.iload_n 2, 1) := by decide +kernel
theorem dX12_live_53 : decode cX12_live 53 = .ok (.invokevirtual 539, 3) := by decide +kernel
theorem dX12_live_56 : decode cX12_live 56 = .ok (.aload_n 0, 1) := by decide +kernel
theorem dX12_live_57 : decode cX12_live 57 = .ok (.getfield 513, 3) := by decide +kernel
theorem dX12_live_60 : decode cX12_live 60 = .ok (.ifCond .le 92, 3) := by decide +kernel
theorem dX12_live_63 : decode cX12_live 63 = .ok (.aload_n 0, 1) := by decide +kernel
theorem dX12_live_64 : decode cX12_live 64 = .ok (.dup, 1) := by decide +kernel
theorem dX12_live_65 : decode cX12_live 65 = .ok (.getfield 513, 3) := by decide +kernel
theorem dX12_live_68 : decode cX12_live 68 = .ok (.iconst 1, 1) := by decide +kernel
theorem dX12_live_69 : decode cX12_live 69 = .ok (.isub, 1) := by decide +kernel
theorem dX12_live_70 : decode cX12_live 70 = .ok (.putfield 513, 3) := by decide +kernel
theorem dX12_live_73 : decode cX12_live 73 = .ok (.aload_n 0, 1) := by decide +kernel
theorem dX12_live_74 : decode cX12_live 74 = .ok (.getfield 183, 3) := by decide +kernel
theorem dX12_live_77 : decode cX12_live 77 = .ok (.aload_n 0, 1) := by decide +kernel
theorem dX12_live_78 : decode cX12_live 78 = .ok (.getfield 513, 3) := by decide +kernel
theorem dX12_live_81 : decode cX12_live 81 = .ok (.iaload, 1) := by decide +kernel
theorem dX12_live_82 : decode cX12_live 82 = .ok (.istore 5, 2) := by decide +kernel
theorem dX12_live_84 : decode cX12_live 84 = .ok (.aload_n 0, 1) := by decide +kernel
theorem dX12_live_85 : decode cX12_live 85 = .ok (.getfield 76, 3) := by decide +kernel
theorem dX12_live_88 : decode cX12_live 88 = .ok (.iload 5, 2) := by decide +kernel
theorem dX12_live_90 : decode cX12_live 90 = .ok (.iaload, 1) := by decide +kernel
theorem dX12_live_91 : decode cX12_live 91 = .ok (.iload_n 3, 1) := by decide +kernel
theorem dX12_live_92 : decode cX12_live 92 = .ok (.if_icmp .ne 7, 3) := by decide +kernel
theorem dX12_live_95 : decode cX12_live 95 = .ok (.iconst 1, 1) := by decide +kernel
theorem dX12_live_96 : decode cX12_live 96 = .ok (.goto 4, 3) := by decide +kernel
theorem dX12_live_99 : decode cX12_live 99 = .ok (.iconst 0, 1) := by decide +kernel
theorem dX12_live_100 : decode cX12_live 100 = .ok (.istore 6, 2) := by decide +kernel
theorem dX12_live_102 : decode cX12_live 102 = .ok (.iload 6, 2) := by decide +kernel
theorem dX12_live_104 : decode cX12_live 104 = .ok (.ifCond .eq 16, 3) := by decide +kernel
theorem dX12_live_107 : decode cX12_live 107 = .ok (.aload_n 0, 1) := by decide +kernel
theorem dX12_live_108 : decode cX12_live 108 = .ok (.getfield 73, 3) := by decide +kernel
theorem dX12_live_111 : decode cX12_live 111 = .ok (.iload 5, 2) := by decide +kernel
theorem dX12_live_113 : decode cX12_live 113 = .ok (.iaload, 1) := by decide +kernel
theorem dX12_live_114 : decode cX12_live 114 = .ok (.iconst 1, 1) := by decide +kernel
theorem dX12_live_115 : decode cX12_live 115 = .ok (.if_icmp .ne 5, 3) := by decide +kernel
theorem dX12_live_118 : decode cX12_live 118 = .ok (.iconst 1, 1) := by decide +kernel
theorem dX12_live_119 : decode cX12_live 119 = .ok (.ireturn, 1) := by decide +kernel
theorem dX12_live_120 : decode cX12_live 120 = .ok (.iload 6, 2) := by decide +kernel
theorem dX12_live_122 : decode cX12_live 122 = .ok (.ifCond .eq 14, 3) := by decide +kernel
theorem dX12_live_125 : decode cX12_live 125 = .ok (.aload_n 0, 1) := by decide +kernel
theorem dX12_live_126 : decode cX12_live 126 = .ok (.getfield 73, 3) := by decide +kernel
theorem dX12_live_129 : decode cX12_live 129 = .ok (.iload 5, 2) := by decide +kernel
theorem dX12_live_131 : decode cX12_live 131 = .ok (.iaload, 1) := by decide +kernel
theorem dX12_live_132 : decode cX12_live 132 = .ok (.iconst 2, 1) := by decide +kernel
theorem dX12_live_133 : decode cX12_live 133 = .ok (.if_icmp .eq 16, 3) := by decide +kernel
theorem dX12_live_136 : decode cX12_live 136 = .ok (.aload_n 0, 1) := by decide +kernel
theorem dX12_live_137 : decode cX12_live 137 = .ok (.iload 5, 2) := by decide +kernel
theorem dX12_live_139 : decode cX12_live 139 = .ok (.aload_n 0, 1) := by decide +kernel
theorem dX12_live_140 : decode cX12_live 140 = .ok (.getfield 97, 3) := by decide +kernel
theorem dX12_live_143 : decode cX12_live 143 = .ok (.iload 4, 2) := by decide +kernel
theorem dX12_live_145 : decode cX12_live 145 = .ok (.iaload, 1) := by decide +kernel
theorem dX12_live_146 : decode cX12_live 146 = .ok (.invokevirtual 532, 3) := by decide +kernel
theorem dX12_live_149 : decode cX12_live 149 = .ok (.goto (-93), 3) := by decide +kernel
theorem dX12_live_152 : decode cX12_live 152 = .ok (.iconst 0, 1) := by decide +kernel
theorem dX12_live_153 : decode cX12_live 153 = .ok (.ireturn, 1) := by decide +kernel
theorem dX12_lost_0 : decode cX12_lost 0 = .ok (.aload_n 0, 1) := by decide +kernel
theorem dX12_lost_1 : decode cX12_lost 1 = .ok (.iconst 0, 1) := by decide +kernel
theorem dX12_lost_2 : decode cX12_lost 2 = .ok (.putfield 1, 3) := by decide +kernel
theorem dX12_lost_5 : decode cX12_lost 5 = .ok (.iload_n 1, 1) := by decide +kernel
theorem dX12_lost_6 : decode cX12_lost 6 = .ok (.ifCond .lt 18, 3) := by decide +kernel
theorem dX12_lost_9 : decode cX12_lost 9 = .ok (.iload_n 1, 1) := by decide +kernel
theorem dX12_lost_10 : decode cX12_lost 10 = .ok (.aload_n 0, 1) := by decide +kernel
theorem dX12_lost_11 : decode cX12_lost 11 = .ok (.getfield 557, 3) := by decide +kernel
theorem dX12_lost_14 : decode cX12_lost 14 = .ok (.if_icmp .ge 10, 3) := by decide +kernel
theorem dX12_lost_17 : decode cX12_lost 17 = .ok (.iload_n 1, 1) := by decide +kernel
theorem dX12_lost_18 : decode cX12_lost 18 = .ok (.sipush 300, 3) := by decide +kernel
theorem dX12_lost_21 : decode cX12_lost 21 = .ok (.if_icmp .lt 5, 3) := by decide +kernel
theorem dX12_lost_24 : decode cX12_lost 24 = .ok (.iconst (-1), 1) := by decide +kernel
theorem dX12_lost_25 : decode cX12_lost 25 = .ok (.ireturn, 1) := by decide +kernel
theorem dX12_lost_26 : decode cX12_lost 26 = .ok (.iload_n 2, 1) := by decide +kernel
theorem dX12_lost_27 : decode cX12_lost 27 = .ok (.ifCond .ne 12, 3) := by decide +kernel
theorem dX12_lost_30 : decode cX12_lost 30 = .ok (.aload_n 0, 1) := by decide +kernel
theorem dX12_lost_31 : decode cX12_lost 31 = .ok (.getfield 261, 3) := by decide +kernel
theorem dX12_lost_34 : decode cX12_lost 34 = .ok (.iload_n 1, 1) := by decide +kernel
theorem dX12_lost_35 : decode cX12_lost 35 = .ok (.iaload, 1) := by decide +kernel
theorem dX12_lost_36 : decode cX12_lost 36 = .ok (.goto 18, 3) := by decide +kernel
theorem dX12_lost_39 : decode cX12_lost 39 = .ok (.iload_n 2, 1) := by decide +kernel
theorem dX12_lost_40 : decode cX12_lost 40 = .ok (.iconst 1, 1) := by decide +kernel
theorem dX12_lost_41 : decode cX12_lost 41 = .ok (.if_icmp .ne 12, 3) := by decide +kernel
theorem dX12_lost_44 : decode cX12_lost 44 = .ok (.aload_n 0, 1) := by decide +kernel
theorem dX12_lost_45 : decode cX12_lost 45 = .ok (.getfield 264, 3) := by decide +kernel
theorem dX12_lost_48 : decode cX12_lost 48 = .ok (.iload_n 1, 1) := by decide +kernel
theorem dX12_lost_49 : decode cX12_lost 49 = .ok (.iaload, 1) := by decide +kernel
theorem dX12_lost_50 : decode cX12_lost 50 = .ok (.goto 4, 3) := by decide +kernel
theorem dX12_lost_53 : decode cX12_lost 53 = .ok (.iconst (-1), 1) := by decide +kernel
theorem dX12_lost_54 : decode cX12_lost 54 = .ok (.ireturn, 1) := by decide +kernel
theorem dX12_named_0 : decode cX12_named 0 = .ok (.aload_n 0, 1) := by decide +kernel
theorem dX12_named_1 : decode cX12_named 1 = .ok (.iconst 0, 1) := by decide +kernel
theorem dX12_named_2 : decode cX12_named 2 = .ok (.putfield 1, 3) := by decide +kernel
theorem dX12_named_5 : decode cX12_named 5 = .ok (.aload_n 0, 1) := by decide +kernel
theorem dX12_named_6 : decode cX12_named 6 = .ok (.invokevirtual 353, 3) := by decide +kernel
theorem dX12_named_9 : decode cX12_named 9 = .ok (.aload_n 0, 1) := by decide +kernel
theorem dX12_named_10 : decode cX12_named 10 = .ok (.getfield 24, 3) := by decide +kernel
theorem dX12_named_13 : decode cX12_named 13 = .ok (.iconst 0, 1) := by decide +kernel
theorem dX12_named_14 : decode cX12_named 14 = .ok (.iaload, 1) := by decide +kernel
theorem dX12_named_15 : decode cX12_named 15 = .ok (.iconst 1, 1) := by decide +kernel
theorem dX12_named_16 : decode cX12_named 16 = .ok (.if_icmp .ne 30, 3) := by decide +kernel
theorem dX12_named_19 : decode cX12_named 19 = .ok (.aload_n 0, 1) := by decide +kernel
theorem dX12_named_20 : decode cX12_named 20 = .ok (.getfield 24, 3) := by decide +kernel
theorem dX12_named_23 : decode cX12_named 23 = .ok (.iconst 1, 1) := by decide +kernel
theorem dX12_named_24 : decode cX12_named 24 = .ok (.iaload, 1) := by decide +kernel
theorem dX12_named_25 : decode cX12_named 25 = .ok (.ifCond .ne 21, 3) := by decide +kernel
theorem dX12_named_28 : decode cX12_named 28 = .ok (.iload_n 1, 1) := by decide +kernel
theorem dX12_named_29 : decode cX12_named 29 = .ok (.iconst (-1), 1) := by decide +kernel
theorem dX12_named_30 : decode cX12_named 30 = .ok (.if_icmp .lt 16, 3) := by decide +kernel
theorem dX12_named_33 : decode cX12_named 33 = .ok (.iload_n 1, 1) := by decide +kernel
theorem dX12_named_34 : decode cX12_named 34 = .ok (.aload_n 0, 1) := by decide +kernel
theorem dX12_named_35 : decode cX12_named 35 = .ok (.getfield 43, 3) := by decide +kernel
theorem dX12_named_38 : decode cX12_named 38 = .ok (.aload_n 0, 1) := by decide +kernel
theorem dX12_named_39 : decode cX12_named 39 = .ok (.getfield 356, 3) := by decide +kernel
theorem dX12_named_42 : decode cX12_named 42 = .ok (.iaload, 1) := by decide +kernel
theorem dX12_named_43 : decode cX12_named 43 = .ok (.if_icmp .lt 5, 3) := by decide +kernel
theorem dX12_named_46 : decode cX12_named 46 = .ok (.iconst (-1), 1) := by decide +kernel
theorem dX12_named_47 : decode cX12_named 47 = .ok (.ireturn, 1) := by decide +kernel
theorem dX12_named_48 : decode cX12_named 48 = .ok (.bipush 12, 2) := by decide +kernel
theorem dX12_named_50 : decode cX12_named 50 = .ok (.aload_n 0, 1) := by decide +kernel
theorem dX12_named_51 : decode cX12_named 51 = .ok (.getfield 356, 3) := by decide +kernel
theorem dX12_named_54 : decode cX12_named 54 = .ok (.imul, 1) := by decide +kernel
theorem dX12_named_55 : decode cX12_named 55 = .ok (.iload_n 1, 1) := by decide +kernel
theorem dX12_named_56 : decode cX12_named 56 = .ok (.iadd, 1) := by decide +kernel
theorem dX12_named_57 : decode cX12_named 57 = .ok (.istore_n 2, 1) := by decide +kernel
theorem dX12_named_58 : decode cX12_named 58 = .ok (.iload_n 1, 1) := by decide +kernel
theorem dX12_named_59 : decode cX12_named 59 = .ok (.ifCond .ge 36, 3) := by decide +kernel
theorem dX12_named_62 : decode cX12_named 62 = .ok (.aload_n 0, 1) := by decide +kernel
theorem dX12_named_63 : decode cX12_named 63 = .ok (.aload_n 0, 1) := by decide +kernel
theorem dX12_named_64 : decode cX12_named 64 = .ok (.getfield 46, 3) := by decide +kernel
theorem dX12_named_67 : decode cX12_named 67 = .ok (.bipush 12, 2) := by decide +kernel
theorem dX12_named_69 : decode cX12_named 69 = .ok (.aload_n 0, 1) := by decide +kernel
theorem dX12_named_70 : decode cX12_named 70 = .ok (.getfield 356, 3) := by decide +kernel
theorem dX12_named_73 : decode cX12_named 73 = .ok (.imul, 1) := by decide +kernel
theorem dX12_named_74 : decode cX12_named 74 = .ok (.aload_n 0, 1) := by decide +kernel
theorem dX12_named_75 : decode cX12_named 75 = .ok (.getfield 43, 3) := by decide +kernel
theorem dX12_named_78 : decode cX12_named 78 = .ok (.aload_n 0, 1) := by decide +kernel
theorem dX12_named_79 : decode cX12_named 79 = .ok (.getfield 356, 3) := by decide +kernel
theorem dX12_named_82 : decode cX12_named 82 = .ok (.iaload, 1) := by decide +kernel
theorem dX12_named_83 : decode cX12_named 83 = .ok (.aload_n 0, 1) := by decide +kernel
theorem dX12_named_84 : decode cX12_named 84 = .ok (.getfield 30, 3) := by decide +kernel
theorem dX12_named_87 : decode cX12_named 87 = .ok (.iconst 0, 1) := by decide +kernel
theorem dX12_named_88 : decode cX12_named 88 = .ok (.laload, 1) := by decide +kernel
theorem dX12_named_89 : decode cX12_named 89 = .ok (.invokevirtual 380, 3) := by decide +kernel
theorem dX12_named_92 : decode cX12_named 92 = .ok (.goto 27, 3) := by decide +kernel
theorem dX12_named_95 : decode cX12_named 95 = .ok (.aload_n 0, 1) := by decide +kernel
theorem dX12_named_96 : decode cX12_named 96 = .ok (.aload_n 0, 1) := by decide +kernel
theorem dX12_named_97 : decode cX12_named 97 = .ok (.getfield 55, 3) := by decide +kernel
theorem dX12_named_100 : decode cX12_named 100 = .ok (.bipush 12, 2) := by decide +kernel
theorem dX12_named_102 : decode cX12_named 102 = .ok (.iload_n 2, 1) := by decide +kernel
theorem dX12_named_103 : decode cX12_named 103 = .ok (.imul, 1) := by decide +kernel
theorem dX12_named_104 : decode cX12_named 104 = .ok (.aload_n 0, 1) := by decide +kernel
theorem dX12_named_105 : decode cX12_named 105 = .ok (.getfield 52, 3) := by decide +kernel
theorem dX12_named_108 : decode cX12_named 108 = .ok (.iload_n 2, 1) := by decide +kernel
theorem dX12_named_109 : decode cX12_named 109 = .ok (.iaload, 1) := by decide +kernel
theorem dX12_named_110 : decode cX12_named 110 = .ok (.aload_n 0, 1) := by decide +kernel
theorem dX12_named_111 : decode cX12_named 111 = .ok (.getfield 30, 3) := by decide +kernel
theorem dX12_named_114 : decode cX12_named 114 = .ok (.iconst 0, 1) := by decide +kernel
theorem dX12_named_115 : decode cX12_named 115 = .ok (.laload, 1) := by decide +kernel
theorem dX12_named_116 : decode cX12_named 116 = .ok (.invokevirtual 380, 3) := by decide +kernel
theorem dX12_named_119 : decode cX12_named 119 = .ok (.ireturn, 1) := by decide +kernel
theorem dX12_next_0 : decode cX12_next 0 = .ok (.aload_n 0, 1) := by decide +kernel
theorem dX12_next_1 : decode cX12_next 1 = .ok (.iconst 0, 1) := by decide +kernel
theorem dX12_next_2 : decode cX12_next 2 = .ok (.putfield 1, 3) := by decide +kernel
theorem dX12_next_5 : decode cX12_next 5 = .ok (.aload_n 0, 1) := by decide +kernel
theorem dX12_next_6 : decode cX12_next 6 = .ok (.iload_n 1, 1) := by decide +kernel
theorem dX12_next_7 : decode cX12_next 7 = .ok (.iload_n 2, 1) := by decide +kernel
theorem dX12_next_8 : decode cX12_next 8 = .ok (.invokevirtual 535, 3) := by decide +kernel
theorem dX12_next_11 : decode cX12_next 11 = .ok (.ifCond .eq 12, 3) := by decide +kernel
theorem dX12_next_14 : decode cX12_next 14 = .ok (.aload_n 0, 1) := by decide +kernel
theorem dX12_next_15 : decode cX12_next 15 = .ok (.iload_n 1, 1) := by decide +kernel
theorem dX12_next_16 : decode cX12_next 16 = .ok (.iload_n 3, 1) := by decide +kernel
theorem dX12_next_17 : decode cX12_next 17 = .ok (.invokevirtual 535, 3) := by decide +kernel
theorem dX12_next_20 : decode cX12_next 20 = .ok (.ifCond .ne 5, 3) := by decide +kernel
theorem dX12_next_23 : decode cX12_next 23 = .ok (.iconst (-1), 1) := by decide +kernel
theorem dX12_next_24 : decode cX12_next 24 = .ok (.ireturn, 1) := by decide +kernel
theorem dX12_next_25 : decode cX12_next 25 = .ok (.bipush 12, 2) := by decide +kernel
theorem dX12_next_27 : decode cX12_next 27 = .ok (.aload_n 0, 1) := by decide +kernel
theorem dX12_next_28 : decode cX12_next 28 = .ok (.getfield 356, 3) := by decide +kernel
theorem dX12_next_31 : decode cX12_next 31 = .ok (.imul, 1) := by decide +kernel
theorem dX12_next_32 : decode cX12_next 32 = .ok (.iload_n 1, 1) := by decide +kernel
theorem dX12_next_33 : decode cX12_next 33 = .ok (.iadd, 1) := by decide +kernel
theorem dX12_next_34 : decode cX12_next 34 = .ok (.istore 4, 2) := by decide +kernel
theorem dX12_next_36 : decode cX12_next 36 = .ok (.aload_n 0, 1) := by decide +kernel
theorem dX12_next_37 : decode cX12_next 37 = .ok (.iload 4, 2) := by decide +kernel
theorem dX12_next_39 : decode cX12_next 39 = .ok (.iload_n 2, 1) := by decide +kernel
theorem dX12_next_40 : decode cX12_next 40 = .ok (.invokevirtual 539, 3) := by decide +kernel
theorem dX12_next_43 : decode cX12_next 43 = .ok (.iconst 0, 1) := by decide +kernel
theorem dX12_next_44 : decode cX12_next 44 = .ok (.istore 5, 2) := by decide +kernel
theorem dX12_next_46 : decode cX12_next 46 = .ok (.aload_n 0, 1) := by decide +kernel
theorem dX12_next_47 : decode cX12_next 47 = .ok (.getfield 513, 3) := by decide +kernel
theorem dX12_next_50 : decode cX12_next 50 = .ok (.ifCond .le 107, 3) := by decide +kernel
theorem dX12_next_53 : decode cX12_next 53 = .ok (.aload_n 0, 1) := by decide +kernel
theorem dX12_next_54 : decode cX12_next 54 = .ok (.dup, 1) := by decide +kernel
theorem dX12_next_55 : decode cX12_next 55 = .ok (.getfield 513, 3) := by decide +kernel
theorem dX12_next_58 : decode cX12_next 58 = .ok (.iconst 1, 1) := by decide +kernel
theorem dX12_next_59 : decode cX12_next 59 = .ok (.isub, 1) := by decide +kernel
theorem dX12_next_60 : decode cX12_next 60 = .ok (.putfield 513, 3) := by decide +kernel
theorem dX12_next_63 : decode cX12_next 63 = .ok (.aload_n 0, 1) := by decide +kernel
theorem dX12_next_64 : decode cX12_next 64 = .ok (.getfield 183, 3) := by decide +kernel
theorem dX12_next_67 : decode cX12_next 67 = .ok (.aload_n 0, 1) := by decide +kernel
theorem dX12_next_68 : decode cX12_next 68 = .ok (.getfield 513, 3) := by decide +kernel
theorem dX12_next_71 : decode cX12_next 71 = .ok (.iaload, 1) := by decide +kernel
theorem dX12_next_72 : decode cX12_next 72 = .ok (.istore 6, 2) := by decide +kernel
theorem dX12_next_74 : decode cX12_next 74 = .ok (.aload_n 0, 1) := by decide +kernel
theorem dX12_next_75 : decode cX12_next 75 = .ok (.getfield 73, 3) := by decide +kernel
theorem dX12_next_78 : decode cX12_next 78 = .ok (.iload 6, 2) := by decide +kernel
theorem dX12_next_80 : decode cX12_next 80 = .ok (.iaload, 1) := by decide +kernel
theorem dX12_next_81 : decode cX12_next 81 = .ok (.iconst 3, 1) := by decide +kernel
theorem dX12_next_82 : decode cX12_next 82 = .ok (.if_icmp .ne 31, 3) := by decide +kernel
theorem dX12_next_85 : decode cX12_next 85 = .ok (.iload 5, 2) := by decide +kernel
theorem dX12_next_87 : decode cX12_next 87 = .ok (.ifCond .ne 16, 3) := by decide +kernel
theorem dX12_next_90 : decode cX12_next 90 = .ok (.aload_n 0, 1) := by decide +kernel
theorem dX12_next_91 : decode cX12_next 91 = .ok (.getfield 76, 3) := by decide +kernel
theorem dX12_next_94 : decode cX12_next 94 = .ok (.iload 6, 2) := by decide +kernel
theorem dX12_next_96 : decode cX12_next 96 = .ok (.iaload, 1) := by decide +kernel
theorem dX12_next_97 : decode cX12_next 97 = .ok (.iconst 1, 1) := by decide +kernel
theorem dX12_next_98 : decode cX12_next 98 = .ok (.iadd, 1) := by decide +kernel
theorem dX12_next_99 : decode cX12_next 99 = .ok (.iload_n 3, 1) := by decide +kernel
theorem dX12_next_100 : decode cX12_next 100 = .ok (.if_icmp .ne 7, 3) := by decide +kernel
theorem dX12_next_103 : decode cX12_next 103 = .ok (.iconst 1, 1) := by decide +kernel
theorem dX12_next_104 : decode cX12_next 104 = .ok (.goto 4, 3) := by decide +kernel
theorem dX12_next_107 : decode cX12_next 107 = .ok (.iconst 0, 1) := by decide +kernel
theorem dX12_next_108 : decode cX12_next 108 = .ok (.istore 5, 2) := by decide +kernel
theorem dX12_next_110 : decode cX12_next 110 = .ok (.goto 44, 3) := by decide +kernel
theorem dX12_next_113 : decode cX12_next 113 = .ok (.iload 5, 2) := by decide +kernel
theorem dX12_next_115 : decode cX12_next 115 = .ok (.ifCond .ne 19, 3) := by decide +kernel
theorem dX12_next_118 : decode cX12_next 118 = .ok (.aload_n 0, 1) := by decide +kernel
theorem dX12_next_119 : decode cX12_next 119 = .ok (.getfield 73, 3) := by decide +kernel
theorem dX12_next_122 : decode cX12_next 122 = .ok (.iload 6, 2) := by decide +kernel
theorem dX12_next_124 : decode cX12_next 124 = .ok (.iaload, 1) := by decide +kernel
theorem dX12_next_125 : decode cX12_next 125 = .ok (.bipush 6, 2) := by decide +kernel
theorem dX12_next_127 : decode cX12_next 127 = .ok (.if_icmp .ne 11, 3) := by decide +kernel
theorem dX12_next_130 : decode cX12_next 130 = .ok (.iload_n 3, 1) := by decide +kernel
theorem dX12_next_131 : decode cX12_next 131 = .ok (.ifCond .ne 7, 3) := by decide +kernel
theorem dX12_next_134 : decode cX12_next 134 = .ok (.iconst 1, 1) := by decide +kernel
theorem dX12_next_135 : decode cX12_next 135 = .ok (.goto 4, 3) := by decide +kernel
theorem dX12_next_138 : decode cX12_next 138 = .ok (.iconst 0, 1) := by decide +kernel
theorem dX12_next_139 : decode cX12_next 139 = .ok (.istore 5, 2) := by decide +kernel
theorem dX12_next_141 : decode cX12_next 141 = .ok (.aload_n 0, 1) := by decide +kernel
theorem dX12_next_142 : decode cX12_next 142 = .ok (.iload 6, 2) := by decide +kernel
theorem dX12_next_144 : decode cX12_next 144 = .ok (.aload_n 0, 1) := by decide +kernel
theorem dX12_next_145 : decode cX12_next 145 = .ok (.getfield 97, 3) := by decide +kernel
theorem dX12_next_148 : decode cX12_next 148 = .ok (.iload 4, 2) := by decide +kernel
theorem dX12_next_150 : decode cX12_next 150 = .ok (.iaload, 1) := by decide +kernel
theorem dX12_next_151 : decode cX12_next 151 = .ok (.invokevirtual 532, 3) := by decide +kernel
theorem dX12_next_154 : decode cX12_next 154 = .ok (.goto (-108), 3) := by decide +kernel
theorem dX12_next_157 : decode cX12_next 157 = .ok (.iload 5, 2) := by decide +kernel
theorem dX12_next_159 : decode cX12_next 159 = .ok (.ifCond .eq 7, 3) := by decide +kernel
theorem dX12_next_162 : decode cX12_next 162 = .ok (.iconst 1, 1) := by decide +kernel
theorem dX12_next_163 : decode cX12_next 163 = .ok (.goto 4, 3) := by decide +kernel
theorem dX12_next_166 : decode cX12_next 166 = .ok (.iconst 0, 1) := by decide +kernel
theorem dX12_next_167 : decode cX12_next 167 = .ok (.ireturn, 1) := by decide +kernel
theorem dX12_notePut_0 : decode cX12_notePut 0 = .ok (.aload_n 0, 1) := by decide +kernel
theorem dX12_notePut_1 : decode cX12_notePut 1 = .ok (.getfield 554, 3) := by decide +kernel
theorem dX12_notePut_4 : decode cX12_notePut 4 = .ok (.sipush 300, 3) := by decide +kernel
theorem dX12_notePut_7 : decode cX12_notePut 7 = .ok (.if_icmp .ge 26, 3) := by decide +kernel
theorem dX12_notePut_10 : decode cX12_notePut 10 = .ok (.aload_n 0, 1) := by decide +kernel
theorem dX12_notePut_11 : decode cX12_notePut 11 = .ok (.getfield 255, 3) := by decide +kernel
theorem dX12_notePut_14 : decode cX12_notePut 14 = .ok (.aload_n 0, 1) := by decide +kernel
theorem dX12_notePut_15 : decode cX12_notePut 15 = .ok (.getfield 554, 3) := by decide +kernel
theorem dX12_notePut_18 : decode cX12_notePut 18 = .ok (.aload_n 0, 1) := by decide +kernel
theorem dX12_notePut_19 : decode cX12_notePut 19 = .ok (.getfield 600, 3) := by decide +kernel
theorem dX12_notePut_22 : decode cX12_notePut 22 = .ok (.iastore, 1) := by decide +kernel
theorem dX12_notePut_23 : decode cX12_notePut 23 = .ok (.aload_n 0, 1) := by decide +kernel
theorem dX12_notePut_24 : decode cX12_notePut 24 = .ok (.getfield 258, 3) := by decide +kernel
theorem dX12_notePut_27 : decode cX12_notePut 27 = .ok (.aload_n 0, 1) := by decide +kernel
theorem dX12_notePut_28 : decode cX12_notePut 28 = .ok (.getfield 554, 3) := by decide +kernel
theorem dX12_notePut_31 : decode cX12_notePut 31 = .ok (.iload_n 1, 1) := by decide +kernel
theorem dX12_notePut_32 : decode cX12_notePut 32 = .ok (.iastore, 1) := by decide +kernel
theorem dX12_notePut_33 : decode cX12_notePut 33 = .ok (.aload_n 0, 1) := by decide +kernel
theorem dX12_notePut_34 : decode cX12_notePut 34 = .ok (.dup, 1) := by decide +kernel
theorem dX12_notePut_35 : decode cX12_notePut 35 = .ok (.getfield 554, 3) := by decide +kernel
theorem dX12_notePut_38 : decode cX12_notePut 38 = .ok (.iconst 1, 1) := by decide +kernel
theorem dX12_notePut_39 : decode cX12_notePut 39 = .ok (.iadd, 1) := by decide +kernel
theorem dX12_notePut_40 : decode cX12_notePut 40 = .ok (.putfield 554, 3) := by decide +kernel
theorem dX12_notePut_43 : decode cX12_notePut 43 = .ok (.return_, 1) := by decide +kernel
theorem dX12_pop_0 : decode cX12_pop 0 = .ok (.aload_n 0, 1) := by decide +kernel
theorem dX12_pop_1 : decode cX12_pop 1 = .ok (.dup, 1) := by decide +kernel
theorem dX12_pop_2 : decode cX12_pop 2 = .ok (.getfield 603, 3) := by decide +kernel
theorem dX12_pop_5 : decode cX12_pop 5 = .ok (.iconst 1, 1) := by decide +kernel
theorem dX12_pop_6 : decode cX12_pop 6 = .ok (.isub, 1) := by decide +kernel
theorem dX12_pop_7 : decode cX12_pop 7 = .ok (.putfield 603, 3) := by decide +kernel
theorem dX12_pop_10 : decode cX12_pop 10 = .ok (.aload_n 0, 1) := by decide +kernel
theorem dX12_pop_11 : decode cX12_pop 11 = .ok (.getfield 298, 3) := by decide +kernel
theorem dX12_pop_14 : decode cX12_pop 14 = .ok (.aload_n 0, 1) := by decide +kernel
theorem dX12_pop_15 : decode cX12_pop 15 = .ok (.getfield 603, 3) := by decide +kernel
theorem dX12_pop_18 : decode cX12_pop 18 = .ok (.iaload, 1) := by decide +kernel
theorem dX12_pop_19 : decode cX12_pop 19 = .ok (.ireturn, 1) := by decide +kernel
def wp_letterNode_40 (K : mS → Prop) (k40 : Int32 × Int32 × Int32 × mS → Prop) (x1 : Int32) (x2 : Int32) (x3 : Int32) (S : mS) : Prop := inR x1 8 ∧ ∀ z9 : Int32, z9 = S.2.1 78 (ix x1) → ((z9 ≤ x3 → wp_newNode 3 1 x2 S (fun (S11 : mS) (r11 : Int32) => K S11)) ∧ (¬ z9 ≤ x3 → ∀ z12 : Int32, z12 = 50 * x1 → ∀ z13 : Int32, z13 = z12 + x3 → ∀ z14 : Int32, z14 = 50 * x1 → ∀ z15 : Int32, z15 = z14 + x3 → ∀ z16 : Int32, z16 = z15 + 1 → inR z16 400 ∧ ∀ z17 : Int32, z17 = S.2.1 79 (ix z16) → inR z13 400 ∧ ∀ S18 : mS, S18 = sF S 79 (ix z13) z17 → ∀ z19 : Int32, z19 = x3 + 1 → k40 (x1, x2, z19, S18)))
def ls_letterNode_40 (K : mS → Prop) (k40 : Int32 × Int32 × Int32 × mS → Prop) (u : Int32 × Int32 × Int32 × mS) : Prop := wp_letterNode_40 K k40 u.1 u.2.1 u.2.2.1 u.2.2.2
def wp_letterNode (a0 : Int32) (S : mS) (K : mS → Prop) : Prop := inR a0 8 ∧ ∀ z1 : Int32, z1 = S.2.1 78 (ix a0) → ((¬ z1 = 0 → ∀ z3 : Int32, z3 = 50 * a0 → inR z3 400 ∧ ∀ z4 : Int32, z4 = S.2.1 79 (ix z3) → inR a0 8 ∧ ∀ z5 : Int32, z5 = S.2.1 78 (ix a0) → ∀ z6 : Int32, z6 = z5 - 1 → inR a0 8 ∧ ∀ S7 : mS, S7 = sF S 78 (ix a0) z6 → (∃ n9, it (ls_letterNode_40 K) n9 (a0, z4, 0, S7))) ∧ (z1 = 0 → wp_newNode 3 0 a0 S (fun (S8 : mS) (r8 : Int32) => K S8)))
set_option maxHeartbeats 4000000 in
set_option maxRecDepth 100000 in
theorem ct_letterNode (l : Launch) (S : mS) (a0 : Int32) (K : mS → Prop) (h : wp_letterNode a0 S K) : mMv l yX12_letterNode cX12_letterNode 4 none 1 24 (fun E => [.int a0]) S K := by
  refine mv_ofv (by decide) rfl (fun _ => Nat.le_of_ble_eq_true rfl) ?_
  intro E p e R s m args below meth c A ls Q hRf hRl hX hC hl hret
  have hx := hX.1.1
  have hb := hX.1.2.1
  have hown := hX.1.2.2.2.1
  have hts := hX.1.2.2.2.2
  have cut40 : ∀ (n40 : Nat) (x1 : Int32) (x2 : Int32) (x3 : Int32) (S : mS) (H : Heap) (locs : List Loc) (ls : Array Slot), it (ls_letterNode_40 K) n40 (x1, x2, x3, S) → mC E A s.heap S H locs → lv_has ls 4 [(0, .ref E.2.1), (1, .int x1), (2, .int x2), (3, .int x3)] → W p l e R s m args below meth c H locs 0 0 Q (F0 m 40 ls []) := by
    intro n40
    induction n40 with
    | zero => intro x1 x2 x3 S H locs ls h hC hl; exact h.elim
    | succ n40 ih40 =>
      intro x1 x2 x3 S H locs ls h hC hl
      have h : wp_letterNode_40 K (it (ls_letterNode_40 K) n40) x1 x2 x3 S := h
      unfold wp_letterNode_40 at h
      refine lv_iload_n hx hb dX12_letterNode_40 rfl (lv_at hl 3 rfl) ?_
      refine lv_aload_n hx hb dX12_letterNode_41 rfl (lv_at hl 0 rfl) ?_
      refine mv_get (v := .ref (E.2.2.1 78)) hX hC 108 (Nat.le_of_ble_eq_true rfl) wd_1508 rfl dX12_letterNode_42 ?_
      refine lv_iload_n hx hb dX12_letterNode_45 rfl (lv_at hl 1 rfl) ?_
      refine mq_ild (n := 8) hX hC 78 rfl rfl dX12_letterNode_46 h (fun z9 h => ?_)
      refine lv_icmp_ge (tgt := 80) hx hb dX12_letterNode_47 (by decide) (fun c10 => ?_) (fun c10 => ?_)
      · have h := h.1 c10
        refine lv_aload_n hx hb dX12_letterNode_80 rfl (lv_at hl 0 rfl) ?_
        refine lv_iconst (v := 3) hx hb dX12_letterNode_81 (by decide) ?_
        refine lv_iconst (v := 1) hx hb dX12_letterNode_82 (by decide) ?_
        refine lv_iload_n hx hb dX12_letterNode_83 rfl (lv_at hl 2 rfl) ?_
        refine mv_calli [.int 3, .int 1, .int x2] (rest := []) hX hC (ct_newNode l S 3 1 x2 _ h E _) (cw_X12_newNode hts (by omega) (by omega)) rfl hl.1 (Nat.le_of_ble_eq_true rfl) ⟨Nat.zero_le _, Nat.zero_le _⟩ dX12_letterNode_84 (fun r11 S11 H locs hC h => ?_)
        refine lv_istore_n (lv' := [(3, .int r11), (0, .ref E.2.1), (1, .int x1), (2, .int x2)]) hx hb dX12_letterNode_87 rfl hl (by decide) rfl (fun ls hl => ?_)
        exact hret _ _ _ _ _ hC h dX12_letterNode_88
      · have h := h.2 c10
        refine lv_aload_n hx hb dX12_letterNode_50 rfl (lv_at hl 0 rfl) ?_
        refine mv_get (v := .ref (E.2.2.1 79)) hX hC 109 (Nat.le_of_ble_eq_true rfl) wd_1509 rfl dX12_letterNode_51 ?_
        refine lv_bipush (v := 50) hx hb dX12_letterNode_54 (by decide) ?_
        refine lv_iload_n hx hb dX12_letterNode_56 rfl (lv_at hl 1 rfl) ?_
        refine lq_imul hx hb dX12_letterNode_57 h (fun z12 h => ?_)
        refine lv_iload_n hx hb dX12_letterNode_58 rfl (lv_at hl 3 rfl) ?_
        refine lq_iadd hx hb dX12_letterNode_59 h (fun z13 h => ?_)
        refine lv_aload_n hx hb dX12_letterNode_60 rfl (lv_at hl 0 rfl) ?_
        refine mv_get (v := .ref (E.2.2.1 79)) hX hC 109 (Nat.le_of_ble_eq_true rfl) wd_1509 rfl dX12_letterNode_61 ?_
        refine lv_bipush (v := 50) hx hb dX12_letterNode_64 (by decide) ?_
        refine lv_iload_n hx hb dX12_letterNode_66 rfl (lv_at hl 1 rfl) ?_
        refine lq_imul hx hb dX12_letterNode_67 h (fun z14 h => ?_)
        refine lv_iload_n hx hb dX12_letterNode_68 rfl (lv_at hl 3 rfl) ?_
        refine lq_iadd hx hb dX12_letterNode_69 h (fun z15 h => ?_)
        refine lv_iconst (v := 1) hx hb dX12_letterNode_70 (by decide) ?_
        refine lq_iadd hx hb dX12_letterNode_71 h (fun z16 h => ?_)
        refine mq_ild (n := 400) hX hC 79 rfl rfl dX12_letterNode_72 h (fun z17 h => ?_)
        refine mq_ist (n := 400) (v := z17) hX hC 79 rfl rfl mf_79 dX12_letterNode_73 h.1 h.2 (fun S18 H locs hC h => ?_)
        obtain ⟨z19, ez19⟩ : ∃ y : Int32, y = x3 + 1 := ⟨_, rfl⟩
        have h := h z19 ez19
        refine lv_iinc (v := z19) (lv' := [(3, .int z19), (0, .ref E.2.1), (1, .int x1), (2, .int x2)]) hx hb dX12_letterNode_74 hl (k := 3) rfl (by rw [ez19]; rfl) (by decide) rfl (fun ls hl => ?_)
        refine lv_goto (tgt := 40) hx hb dX12_letterNode_77 (by decide) ?_
        exact ih40 x1 x2 z19 S18 _ _ _ h hC (lv_sub hl [1, 2, 3, 0] rfl)
  have hl : lv_has ls 4 [(0, .ref E.2.1), (1, .int a0)] := hl
  unfold wp_letterNode at h
  refine lv_aload_n hx hb dX12_letterNode_0 rfl (lv_at hl 0 rfl) ?_
  refine mv_get (v := .ref (E.2.2.1 78)) hX hC 108 (Nat.le_of_ble_eq_true rfl) wd_1508 rfl dX12_letterNode_1 ?_
  refine lv_iload_n hx hb dX12_letterNode_4 rfl (lv_at hl 1 rfl) ?_
  refine mq_ild (n := 8) hX hC 78 rfl rfl dX12_letterNode_5 h (fun z1 h => ?_)
  refine lv_if_ne (tgt := 18) hx hb dX12_letterNode_6 (by decide) (fun c2 => ?_) (fun c2 => ?_)
  · have h := h.1 c2
    refine lv_aload_n hx hb dX12_letterNode_18 rfl (lv_at hl 0 rfl) ?_
    refine mv_get (v := .ref (E.2.2.1 79)) hX hC 109 (Nat.le_of_ble_eq_true rfl) wd_1509 rfl dX12_letterNode_19 ?_
    refine lv_bipush (v := 50) hx hb dX12_letterNode_22 (by decide) ?_
    refine lv_iload_n hx hb dX12_letterNode_24 rfl (lv_at hl 1 rfl) ?_
    refine lq_imul hx hb dX12_letterNode_25 h (fun z3 h => ?_)
    refine mq_ild (n := 400) hX hC 79 rfl rfl dX12_letterNode_26 h (fun z4 h => ?_)
    refine lv_istore_n (lv' := [(2, .int z4), (0, .ref E.2.1), (1, .int a0)]) hx hb dX12_letterNode_27 rfl hl (by decide) rfl (fun ls hl => ?_)
    refine lv_aload_n hx hb dX12_letterNode_28 rfl (lv_at hl 1 rfl) ?_
    refine mv_get (v := .ref (E.2.2.1 78)) hX hC 108 (Nat.le_of_ble_eq_true rfl) wd_1508 rfl dX12_letterNode_29 ?_
    refine lv_iload_n hx hb dX12_letterNode_32 rfl (lv_at hl 2 rfl) ?_
    refine lv_dup2_11 hx hb dX12_letterNode_33 rfl rfl ?_
    refine mq_ild (n := 8) hX hC 78 rfl rfl dX12_letterNode_34 h (fun z5 h => ?_)
    refine lv_iconst (v := 1) hx hb dX12_letterNode_35 (by decide) ?_
    refine lq_isub hx hb dX12_letterNode_36 h (fun z6 h => ?_)
    refine mq_ist (n := 8) (v := z6) hX hC 78 rfl rfl mf_78 dX12_letterNode_37 h.1 h.2 (fun S7 H locs hC h => ?_)
    refine lv_iconst (v := 0) hx hb dX12_letterNode_38 (by decide) ?_
    refine lv_istore_n (lv' := [(3, .int 0), (2, .int z4), (0, .ref E.2.1), (1, .int a0)]) hx hb dX12_letterNode_39 rfl hl (by decide) rfl (fun ls hl => ?_)
    obtain ⟨n9, h⟩ := h
    exact cut40 n9 a0 z4 0 S7 _ _ _ h hC (lv_sub hl [2, 3, 1, 0] rfl)
  · have h := h.2 c2
    refine lv_aload_n hx hb dX12_letterNode_9 rfl (lv_at hl 0 rfl) ?_
    refine lv_iconst (v := 3) hx hb dX12_letterNode_10 (by decide) ?_
    refine lv_iconst (v := 0) hx hb dX12_letterNode_11 (by decide) ?_
    refine lv_iload_n hx hb dX12_letterNode_12 rfl (lv_at hl 1 rfl) ?_
    refine mv_calli [.int 3, .int 0, .int a0] (rest := []) hX hC (ct_newNode l S 3 0 a0 _ h E _) (cw_X12_newNode hts (by omega) (by omega)) rfl hl.1 (Nat.le_of_ble_eq_true rfl) ⟨Nat.zero_le _, Nat.zero_le _⟩ dX12_letterNode_13 (fun r8 S8 H locs hC h => ?_)
    refine lv_istore_n (lv' := [(2, .int r8), (0, .ref E.2.1), (1, .int a0)]) hx hb dX12_letterNode_16 rfl hl (by decide) rfl (fun ls hl => ?_)
    exact hret _ _ _ _ _ hC h dX12_letterNode_17
def wp_live_149 (K : mS → Int32 → Prop) (k56 : Int32 × Int32 × mS → Prop) (x3 : Int32) (x4 : Int32) (S : mS) : Prop := k56 (x3, x4, S)
def wp_live_136 (K : mS → Int32 → Prop) (k56 : Int32 × Int32 × mS → Prop) (x3 : Int32) (x4 : Int32) (x5 : Int32) (S : mS) : Prop := inR x4 24 ∧ ∀ z24 : Int32, z24 = S.2.1 23 (ix x4) → wp_goOn x5 z24 S (fun (S25 : mS) => wp_live_149 K k56 x3 x4 S25)
def wp_live_120 (K : mS → Int32 → Prop) (k56 : Int32 × Int32 × mS → Prop) (x3 : Int32) (x4 : Int32) (x5 : Int32) (x6 : Int32) (S : mS) : Prop := ((x6 = 0 → wp_live_136 K k56 x3 x4 x5 S) ∧ (¬ x6 = 0 → inR x5 24000 ∧ ∀ z22 : Int32, z22 = S.2.1 15 (ix x5) → ((z22 = 2 → wp_live_149 K k56 x3 x4 S) ∧ (¬ z22 = 2 → wp_live_136 K k56 x3 x4 x5 S))))
def wp_live_100 (K : mS → Int32 → Prop) (k56 : Int32 × Int32 × mS → Prop) (x3 : Int32) (x4 : Int32) (x5 : Int32) (y0 : Int32) (S : mS) : Prop := ((y0 = 0 → wp_live_120 K k56 x3 x4 x5 y0 S) ∧ (¬ y0 = 0 → inR x5 24000 ∧ ∀ z19 : Int32, z19 = S.2.1 15 (ix x5) → ((¬ z19 = 1 → wp_live_120 K k56 x3 x4 x5 y0 S) ∧ (z19 = 1 → K S 1))))
def wp_live_56 (K : mS → Int32 → Prop) (k56 : Int32 × Int32 × mS → Prop) (x3 : Int32) (x4 : Int32) (S : mS) : Prop := (((S.1 21) ≤ 0 → K S 0) ∧ (¬ (S.1 21) ≤ 0 → ∀ z13 : Int32, z13 = (S.1 21) - 1 → ∀ S14 : mS, S14 = sZ S 21 z13 → inR (S14.1 21) 12000 ∧ ∀ z15 : Int32, z15 = S14.2.1 50 (ix (S14.1 21)) → inR z15 24000 ∧ ∀ z16 : Int32, z16 = S14.2.1 16 (ix z15) → ((¬ z16 = x3 → wp_live_100 K k56 x3 x4 z15 0 S14) ∧ (z16 = x3 → wp_live_100 K k56 x3 x4 z15 1 S14))))
def ls_live_56 (K : mS → Int32 → Prop) (k56 : Int32 × Int32 × mS → Prop) (u : Int32 × Int32 × mS) : Prop := wp_live_56 K k56 u.1 u.2.1 u.2.2
def wp_live (a0 : Int32) (a1 : Int32) (a2 : Int32) (S : mS) (K : mS → Int32 → Prop) : Prop := ∀ S1 : mS, S1 = sZ S 0 0 → wp_isState a0 a1 S1 (fun (S2 : mS) (r2 : Int32) => ((r2 = 0 → K S2 (-1)) ∧ (¬ r2 = 0 → ((a2 < 0 → K S2 (-1)) ∧ (¬ a2 < 0 → ∀ z5 : Int32, z5 = 12 * (S2.1 5) → ∀ z6 : Int32, z6 = z5 + a0 → inR z6 24 ∧ ∀ z7 : Int32, z7 = S2.2.1 8 (ix z6) → ((a2 < z7 → ∀ z9 : Int32, z9 = 12 * (S2.1 5) → ∀ z10 : Int32, z10 = z9 + a0 → wp_from z10 a1 S2 (fun (S11 : mS) => (∃ n9, it (ls_live_56 K) n9 (a2, z10, S11)))) ∧ (¬ a2 < z7 → K S2 (-1))))))))
theorem cw_X12_isState {R : Room} {s : State} {args : Array Value} {fr lo : Nat} (hts : ∀ w ∈ tb, w.before args s = true) (h1 : fr + 1 ≤ R.frames) (h2 : 8 + (3 + 11) + lo ≤ R.locals) : CallW R s args RX12 RX12 535 yX12_isState cX12_isState 3 (some .boolean) (.code yX12_isState cX12_isState 3 (some .boolean) :: tb) (mRm fr lo) 0 0 2 := cwV 2 hts (gd_V wd_1962 wd_1964 sl_X12_isState wd_15 wd_1965) rfl rfl rfl (by decide +kernel) ⟨h1, h2⟩
theorem cw_X12_from {R : Room} {s : State} {args : Array Value} {fr lo : Nat} (hts : ∀ w ∈ tb, w.before args s = true) (h1 : fr + 1 ≤ R.frames) (h2 : 8 + (4 + 11) + lo ≤ R.locals) : CallW R s args RX12 RX12 539 yX12_from cX12_from 4 none (.code yX12_from cX12_from 4 none :: tb) (mRm fr lo) 0 0 2 := cwV 2 hts (gd_V wd_1966 wd_1968 sl_X12_from wd_15 wd_1969) rfl rfl rfl (by decide +kernel) ⟨h1, h2⟩
set_option maxHeartbeats 4000000 in
set_option maxRecDepth 100000 in
theorem ct_live (l : Launch) (S : mS) (a0 : Int32) (a1 : Int32) (a2 : Int32) (K : mS → Int32 → Prop) (h : wp_live a0 a1 a2 S K) : mMi l yX12_live cX12_live 7 (some .int) 5 120 (fun E => [.int a0, .int a1, .int a2]) S K := by
  refine mv_ofi (by decide) rfl (fun _ => Nat.le_of_ble_eq_true rfl) ?_
  intro E p e R s m args below meth c A ls Q hRf hRl hX hC hl hret
  have hx := hX.1.1
  have hb := hX.1.2.1
  have hown := hX.1.2.2.2.1
  have hts := hX.1.2.2.2.2
  have cut56 : ∀ (n56 : Nat) (x3 : Int32) (x4 : Int32) (S : mS) (H : Heap) (locs : List Loc) (ls : Array Slot), it (ls_live_56 K) n56 (x3, x4, S) → mC E A s.heap S H locs → lv_has ls 7 [(0, .ref E.2.1), (3, .int x3), (4, .int x4)] → W p l e R s m args below meth c H locs 0 0 Q (F0 m 56 ls []) := by
    intro n56
    induction n56 with
    | zero => intro x3 x4 S H locs ls h hC hl; exact h.elim
    | succ n56 ih56 =>
      have cut149 : ∀ (x3 : Int32) (x4 : Int32) (S : mS) (H : Heap) (locs : List Loc) (ls : Array Slot), wp_live_149 K (it (ls_live_56 K) n56) x3 x4 S → mC E A s.heap S H locs → lv_has ls 7 [(0, .ref E.2.1), (3, .int x3), (4, .int x4)] → W p l e R s m args below meth c H locs 0 0 Q (F0 m 149 ls []) := by
        intro x3 x4 S H locs ls h hC hl
        unfold wp_live_149 at h
        refine lv_goto (tgt := 56) hx hb dX12_live_149 (by decide) ?_
        exact ih56 x3 x4 S _ _ _ h hC (lv_sub hl [0, 1, 2] rfl)
      have cut136 : ∀ (x3 : Int32) (x4 : Int32) (x5 : Int32) (S : mS) (H : Heap) (locs : List Loc) (ls : Array Slot), wp_live_136 K (it (ls_live_56 K) n56) x3 x4 x5 S → mC E A s.heap S H locs → lv_has ls 7 [(0, .ref E.2.1), (3, .int x3), (4, .int x4), (5, .int x5)] → W p l e R s m args below meth c H locs 0 0 Q (F0 m 136 ls []) := by
        intro x3 x4 x5 S H locs ls h hC hl
        unfold wp_live_136 at h
        refine lv_aload_n hx hb dX12_live_136 rfl (lv_at hl 0 rfl) ?_
        refine lv_iload hx hb dX12_live_137 (lv_at hl 3 rfl) ?_
        refine lv_aload_n hx hb dX12_live_139 rfl (lv_at hl 0 rfl) ?_
        refine mv_get (v := .ref (E.2.2.1 23)) hX hC 33 (Nat.le_of_ble_eq_true rfl) wd_1433 rfl dX12_live_140 ?_
        refine lv_iload hx hb dX12_live_143 (lv_at hl 2 rfl) ?_
        refine mq_ild (n := 24) hX hC 23 rfl rfl dX12_live_145 h (fun z24 h => ?_)
        refine mv_callv [.int x5, .int z24] (rest := []) hX hC (ct_goOn l S x5 z24 _ h E _) (cw_X12_goOn hts (by omega) (by omega)) rfl hl.1 (Nat.le_of_ble_eq_true rfl) ⟨Nat.zero_le _, Nat.zero_le _⟩ dX12_live_146 (fun S25 H locs hC h => ?_)
        exact cut149 x3 x4 S25 _ _ _ h hC (lv_sub hl [0, 1, 2] rfl)
      have cut120 : ∀ (x3 : Int32) (x4 : Int32) (x5 : Int32) (x6 : Int32) (S : mS) (H : Heap) (locs : List Loc) (ls : Array Slot), wp_live_120 K (it (ls_live_56 K) n56) x3 x4 x5 x6 S → mC E A s.heap S H locs → lv_has ls 7 [(0, .ref E.2.1), (3, .int x3), (4, .int x4), (5, .int x5), (6, .int x6)] → W p l e R s m args below meth c H locs 0 0 Q (F0 m 120 ls []) := by
        intro x3 x4 x5 x6 S H locs ls h hC hl
        unfold wp_live_120 at h
        refine lv_iload hx hb dX12_live_120 (lv_at hl 4 rfl) ?_
        refine lv_if_eq (tgt := 136) hx hb dX12_live_122 (by decide) (fun c21 => ?_) (fun c21 => ?_)
        · have h := h.1 c21
          exact cut136 x3 x4 x5 S _ _ _ h hC (lv_sub hl [0, 1, 2, 3] rfl)
        · have h := h.2 c21
          refine lv_aload_n hx hb dX12_live_125 rfl (lv_at hl 0 rfl) ?_
          refine mv_get (v := .ref (E.2.2.1 15)) hX hC 24 (Nat.le_of_ble_eq_true rfl) wd_1424 rfl dX12_live_126 ?_
          refine lv_iload hx hb dX12_live_129 (lv_at hl 3 rfl) ?_
          refine mq_ild (n := 24000) hX hC 15 rfl rfl dX12_live_131 h (fun z22 h => ?_)
          refine lv_iconst (v := 2) hx hb dX12_live_132 (by decide) ?_
          refine lv_icmp_eq (tgt := 149) hx hb dX12_live_133 (by decide) (fun c23 => ?_) (fun c23 => ?_)
          · have h := h.1 c23
            exact cut149 x3 x4 S _ _ _ h hC (lv_sub hl [0, 1, 2] rfl)
          · have h := h.2 c23
            exact cut136 x3 x4 x5 S _ _ _ h hC (lv_sub hl [0, 1, 2, 3] rfl)
      have cut100 : ∀ (x3 : Int32) (x4 : Int32) (x5 : Int32) (y0 : Int32) (S : mS) (H : Heap) (locs : List Loc) (ls : Array Slot), wp_live_100 K (it (ls_live_56 K) n56) x3 x4 x5 y0 S → mC E A s.heap S H locs → lv_has ls 7 [(0, .ref E.2.1), (3, .int x3), (4, .int x4), (5, .int x5)] → W p l e R s m args below meth c H locs 0 0 Q (F0 m 100 ls [.int y0]) := by
        intro x3 x4 x5 y0 S H locs ls h hC hl
        unfold wp_live_100 at h
        refine lv_istore (lv' := [(6, .int y0), (0, .ref E.2.1), (3, .int x3), (4, .int x4), (5, .int x5)]) hx hb dX12_live_100 hl (by decide) rfl (fun ls hl => ?_)
        refine lv_iload hx hb dX12_live_102 (lv_at hl 0 rfl) ?_
        refine lv_if_eq (tgt := 120) hx hb dX12_live_104 (by decide) (fun c18 => ?_) (fun c18 => ?_)
        · have h := h.1 c18
          exact cut120 x3 x4 x5 y0 S _ _ _ h hC (lv_sub hl [1, 2, 3, 4, 0] rfl)
        · have h := h.2 c18
          refine lv_aload_n hx hb dX12_live_107 rfl (lv_at hl 1 rfl) ?_
          refine mv_get (v := .ref (E.2.2.1 15)) hX hC 24 (Nat.le_of_ble_eq_true rfl) wd_1424 rfl dX12_live_108 ?_
          refine lv_iload hx hb dX12_live_111 (lv_at hl 4 rfl) ?_
          refine mq_ild (n := 24000) hX hC 15 rfl rfl dX12_live_113 h (fun z19 h => ?_)
          refine lv_iconst (v := 1) hx hb dX12_live_114 (by decide) ?_
          refine lv_icmp_ne (tgt := 120) hx hb dX12_live_115 (by decide) (fun c20 => ?_) (fun c20 => ?_)
          · have h := h.1 c20
            exact cut120 x3 x4 x5 y0 S _ _ _ h hC (lv_sub hl [1, 2, 3, 4, 0] rfl)
          · have h := h.2 c20
            refine lv_iconst (v := 1) hx hb dX12_live_118 (by decide) ?_
            exact hret _ _ _ _ _ _ hC h dX12_live_119
      intro x3 x4 S H locs ls h hC hl
      have h : wp_live_56 K (it (ls_live_56 K) n56) x3 x4 S := h
      unfold wp_live_56 at h
      refine lv_aload_n hx hb dX12_live_56 rfl (lv_at hl 0 rfl) ?_
      refine mv_get (v := .int (S.1 21)) hX hC 73 (Nat.le_of_ble_eq_true rfl) wd_1473 rfl dX12_live_57 ?_
      refine lv_if_le (tgt := 152) hx hb dX12_live_60 (by decide) (fun c12 => ?_) (fun c12 => ?_)
      · have h := h.1 c12
        refine lv_iconst (v := 0) hx hb dX12_live_152 (by decide) ?_
        exact hret _ _ _ _ _ _ hC h dX12_live_153
      · have h := h.2 c12
        refine lv_aload_n hx hb dX12_live_63 rfl (lv_at hl 0 rfl) ?_
        refine lv_dup hx hb dX12_live_64 rfl ?_
        refine mv_get (v := .int (S.1 21)) hX hC 73 (Nat.le_of_ble_eq_true rfl) wd_1473 rfl dX12_live_65 ?_
        refine lv_iconst (v := 1) hx hb dX12_live_68 (by decide) ?_
        refine lq_isub hx hb dX12_live_69 h (fun z13 h => ?_)
        refine mq_put (v := z13) hX hC 73 21 (Nat.le_of_ble_eq_true rfl) wd_1473 rfl rfl rfl mz_21 dX12_live_70 h (fun S14 H locs hC h => ?_)
        refine lv_aload_n hx hb dX12_live_73 rfl (lv_at hl 0 rfl) ?_
        refine mv_get (v := .ref (E.2.2.1 50)) hX hC 72 (Nat.le_of_ble_eq_true rfl) wd_1472 rfl dX12_live_74 ?_
        refine lv_aload_n hx hb dX12_live_77 rfl (lv_at hl 0 rfl) ?_
        refine mv_get (v := .int (S14.1 21)) hX hC 73 (Nat.le_of_ble_eq_true rfl) wd_1473 rfl dX12_live_78 ?_
        refine mq_ild (n := 12000) hX hC 50 rfl rfl dX12_live_81 h (fun z15 h => ?_)
        refine lv_istore (lv' := [(5, .int z15), (0, .ref E.2.1), (3, .int x3), (4, .int x4)]) hx hb dX12_live_82 hl (by decide) rfl (fun ls hl => ?_)
        refine lv_aload_n hx hb dX12_live_84 rfl (lv_at hl 1 rfl) ?_
        refine mv_get (v := .ref (E.2.2.1 16)) hX hC 25 (Nat.le_of_ble_eq_true rfl) wd_1425 rfl dX12_live_85 ?_
        refine lv_iload hx hb dX12_live_88 (lv_at hl 0 rfl) ?_
        refine mq_ild (n := 24000) hX hC 16 rfl rfl dX12_live_90 h (fun z16 h => ?_)
        refine lv_iload_n hx hb dX12_live_91 rfl (lv_at hl 2 rfl) ?_
        refine lv_icmp_ne (tgt := 99) hx hb dX12_live_92 (by decide) (fun c17 => ?_) (fun c17 => ?_)
        · have h := h.1 c17
          refine lv_iconst (v := 0) hx hb dX12_live_99 (by decide) ?_
          exact cut100 x3 x4 z15 0 S14 _ _ _ h hC (lv_sub hl [1, 2, 3, 0] rfl)
        · have h := h.2 c17
          refine lv_iconst (v := 1) hx hb dX12_live_95 (by decide) ?_
          refine lv_goto (tgt := 100) hx hb dX12_live_96 (by decide) ?_
          exact cut100 x3 x4 z15 1 S14 _ _ _ h hC (lv_sub hl [1, 2, 3, 0] rfl)
  have hl : lv_has ls 7 [(0, .ref E.2.1), (1, .int a0), (2, .int a1), (3, .int a2)] := hl
  unfold wp_live at h
  refine lv_aload_n hx hb dX12_live_0 rfl (lv_at hl 0 rfl) ?_
  refine lv_iconst (v := 0) hx hb dX12_live_1 (by decide) ?_
  refine mq_put (v := 0) hX hC 0 0 (Nat.le_of_ble_eq_true rfl) wd_1400 rfl rfl rfl mz_0 dX12_live_2 h (fun S1 H locs hC h => ?_)
  refine lv_aload_n hx hb dX12_live_5 rfl (lv_at hl 0 rfl) ?_
  refine lv_iload_n hx hb dX12_live_6 rfl (lv_at hl 1 rfl) ?_
  refine lv_iload_n hx hb dX12_live_7 rfl (lv_at hl 2 rfl) ?_
  refine mv_calli [.int a0, .int a1] (rest := []) hX hC (ct_isState l S1 a0 a1 _ h E _) (cw_X12_isState hts (by omega) (by omega)) rfl hl.1 (Nat.le_of_ble_eq_true rfl) ⟨Nat.zero_le _, Nat.zero_le _⟩ dX12_live_8 (fun r2 S2 H locs hC h => ?_)
  refine lv_if_eq (tgt := 36) hx hb dX12_live_11 (by decide) (fun c3 => ?_) (fun c3 => ?_)
  · have h := h.1 c3
    refine lv_iconst (v := -1) hx hb dX12_live_36 (by decide) ?_
    exact hret _ _ _ _ _ _ hC h dX12_live_37
  · have h := h.2 c3
    refine lv_iload_n hx hb dX12_live_14 rfl (lv_at hl 3 rfl) ?_
    refine lv_if_lt (tgt := 36) hx hb dX12_live_15 (by decide) (fun c4 => ?_) (fun c4 => ?_)
    · have h := h.1 c4
      refine lv_iconst (v := -1) hx hb dX12_live_36 (by decide) ?_
      exact hret _ _ _ _ _ _ hC h dX12_live_37
    · have h := h.2 c4
      refine lv_iload_n hx hb dX12_live_18 rfl (lv_at hl 3 rfl) ?_
      refine lv_aload_n hx hb dX12_live_19 rfl (lv_at hl 0 rfl) ?_
      refine mv_get (v := .ref (E.2.2.1 8)) hX hC 16 (Nat.le_of_ble_eq_true rfl) wd_1416 rfl dX12_live_20 ?_
      refine lv_bipush (v := 12) hx hb dX12_live_23 (by decide) ?_
      refine lv_aload_n hx hb dX12_live_25 rfl (lv_at hl 0 rfl) ?_
      refine mv_get (v := .int (S2.1 5)) hX hC 11 (Nat.le_of_ble_eq_true rfl) wd_1411 rfl dX12_live_26 ?_
      refine lq_imul hx hb dX12_live_29 h (fun z5 h => ?_)
      refine lv_iload_n hx hb dX12_live_30 rfl (lv_at hl 1 rfl) ?_
      refine lq_iadd hx hb dX12_live_31 h (fun z6 h => ?_)
      refine mq_ild (n := 24) hX hC 8 rfl rfl dX12_live_32 h (fun z7 h => ?_)
      refine lv_icmp_lt (tgt := 38) hx hb dX12_live_33 (by decide) (fun c8 => ?_) (fun c8 => ?_)
      · have h := h.1 c8
        refine lv_bipush (v := 12) hx hb dX12_live_38 (by decide) ?_
        refine lv_aload_n hx hb dX12_live_40 rfl (lv_at hl 0 rfl) ?_
        refine mv_get (v := .int (S2.1 5)) hX hC 11 (Nat.le_of_ble_eq_true rfl) wd_1411 rfl dX12_live_41 ?_
        refine lq_imul hx hb dX12_live_44 h (fun z9 h => ?_)
        refine lv_iload_n hx hb dX12_live_45 rfl (lv_at hl 1 rfl) ?_
        refine lq_iadd hx hb dX12_live_46 h (fun z10 h => ?_)
        refine lv_istore (lv' := [(4, .int z10), (0, .ref E.2.1), (1, .int a0), (2, .int a1), (3, .int a2)]) hx hb dX12_live_47 hl (by decide) rfl (fun ls hl => ?_)
        refine lv_aload_n hx hb dX12_live_49 rfl (lv_at hl 1 rfl) ?_
        refine lv_iload hx hb dX12_live_50 (lv_at hl 0 rfl) ?_
        refine lv_iload_n hx hb dX12_live_52 rfl (lv_at hl 3 rfl) ?_
        refine mv_callv [.int z10, .int a1] (rest := []) hX hC (ct_from l S2 z10 a1 _ h E _) (cw_X12_from hts (by omega) (by omega)) rfl hl.1 (Nat.le_of_ble_eq_true rfl) ⟨Nat.zero_le _, Nat.zero_le _⟩ dX12_live_53 (fun S11 H locs hC h => ?_)
        obtain ⟨n9, h⟩ := h
        exact cut56 n9 a2 z10 S11 _ _ _ h hC (lv_sub hl [1, 4, 0] rfl)
      · have h := h.2 c8
        refine lv_iconst (v := -1) hx hb dX12_live_36 (by decide) ?_
        exact hret _ _ _ _ _ _ hC h dX12_live_37
def wp_lost (a0 : Int32) (a1 : Int32) (S : mS) (K : mS → Int32 → Prop) : Prop := ∀ S1 : mS, S1 = sZ S 0 0 → ((a0 < 0 → K S1 (-1)) ∧ (¬ a0 < 0 → (((S1.1 28) ≤ a0 → K S1 (-1)) ∧ (¬ (S1.1 28) ≤ a0 → ((a0 < 300 → ((¬ a1 = 0 → ((¬ a1 = 1 → K S1 (-1)) ∧ (a1 = 1 → inR a0 300 ∧ ∀ z7 : Int32, z7 = S1.2.1 77 (ix a0) → K S1 z7))) ∧ (a1 = 0 → inR a0 300 ∧ ∀ z8 : Int32, z8 = S1.2.1 76 (ix a0) → K S1 z8))) ∧ (¬ a0 < 300 → K S1 (-1)))))))
set_option maxHeartbeats 4000000 in
set_option maxRecDepth 100000 in
theorem ct_lost (l : Launch) (S : mS) (a0 : Int32) (a1 : Int32) (K : mS → Int32 → Prop) (h : wp_lost a0 a1 S K) : mMi l yX12_lost cX12_lost 3 (some .int) 0 0 (fun E => [.int a0, .int a1]) S K := by
  refine mv_ofi (by decide) rfl (fun _ => Nat.le_of_ble_eq_true rfl) ?_
  intro E p e R s m args below meth c A ls Q hRf hRl hX hC hl hret
  have hx := hX.1.1
  have hb := hX.1.2.1
  have hown := hX.1.2.2.2.1
  have hts := hX.1.2.2.2.2
  have hl : lv_has ls 3 [(0, .ref E.2.1), (1, .int a0), (2, .int a1)] := hl
  unfold wp_lost at h
  refine lv_aload_n hx hb dX12_lost_0 rfl (lv_at hl 0 rfl) ?_
  refine lv_iconst (v := 0) hx hb dX12_lost_1 (by decide) ?_
  refine mq_put (v := 0) hX hC 0 0 (Nat.le_of_ble_eq_true rfl) wd_1400 rfl rfl rfl mz_0 dX12_lost_2 h (fun S1 H locs hC h => ?_)
  refine lv_iload_n hx hb dX12_lost_5 rfl (lv_at hl 1 rfl) ?_
  refine lv_if_lt (tgt := 24) hx hb dX12_lost_6 (by decide) (fun c2 => ?_) (fun c2 => ?_)
  · have h := h.1 c2
    refine lv_iconst (v := -1) hx hb dX12_lost_24 (by decide) ?_
    exact hret _ _ _ _ _ _ hC h dX12_lost_25
  · have h := h.2 c2
    refine lv_iload_n hx hb dX12_lost_9 rfl (lv_at hl 1 rfl) ?_
    refine lv_aload_n hx hb dX12_lost_10 rfl (lv_at hl 0 rfl) ?_
    refine mv_get (v := .int (S1.1 28)) hX hC 105 (Nat.le_of_ble_eq_true rfl) wd_1505 rfl dX12_lost_11 ?_
    refine lv_icmp_ge (tgt := 24) hx hb dX12_lost_14 (by decide) (fun c3 => ?_) (fun c3 => ?_)
    · have h := h.1 c3
      refine lv_iconst (v := -1) hx hb dX12_lost_24 (by decide) ?_
      exact hret _ _ _ _ _ _ hC h dX12_lost_25
    · have h := h.2 c3
      refine lv_iload_n hx hb dX12_lost_17 rfl (lv_at hl 1 rfl) ?_
      refine lv_sipush (v := 300) hx hb dX12_lost_18 (by decide) ?_
      refine lv_icmp_lt (tgt := 26) hx hb dX12_lost_21 (by decide) (fun c4 => ?_) (fun c4 => ?_)
      · have h := h.1 c4
        refine lv_iload_n hx hb dX12_lost_26 rfl (lv_at hl 2 rfl) ?_
        refine lv_if_ne (tgt := 39) hx hb dX12_lost_27 (by decide) (fun c5 => ?_) (fun c5 => ?_)
        · have h := h.1 c5
          refine lv_iload_n hx hb dX12_lost_39 rfl (lv_at hl 2 rfl) ?_
          refine lv_iconst (v := 1) hx hb dX12_lost_40 (by decide) ?_
          refine lv_icmp_ne (tgt := 53) hx hb dX12_lost_41 (by decide) (fun c6 => ?_) (fun c6 => ?_)
          · have h := h.1 c6
            refine lv_iconst (v := -1) hx hb dX12_lost_53 (by decide) ?_
            exact hret _ _ _ _ _ _ hC h dX12_lost_54
          · have h := h.2 c6
            refine lv_aload_n hx hb dX12_lost_44 rfl (lv_at hl 0 rfl) ?_
            refine mv_get (v := .ref (E.2.2.1 77)) hX hC 107 (Nat.le_of_ble_eq_true rfl) wd_1507 rfl dX12_lost_45 ?_
            refine lv_iload_n hx hb dX12_lost_48 rfl (lv_at hl 1 rfl) ?_
            refine mq_ild (n := 300) hX hC 77 rfl rfl dX12_lost_49 h (fun z7 h => ?_)
            refine lv_goto (tgt := 54) hx hb dX12_lost_50 (by decide) ?_
            exact hret _ _ _ _ _ _ hC h dX12_lost_54
        · have h := h.2 c5
          refine lv_aload_n hx hb dX12_lost_30 rfl (lv_at hl 0 rfl) ?_
          refine mv_get (v := .ref (E.2.2.1 76)) hX hC 106 (Nat.le_of_ble_eq_true rfl) wd_1506 rfl dX12_lost_31 ?_
          refine lv_iload_n hx hb dX12_lost_34 rfl (lv_at hl 1 rfl) ?_
          refine mq_ild (n := 300) hX hC 76 rfl rfl dX12_lost_35 h (fun z8 h => ?_)
          refine lv_goto (tgt := 54) hx hb dX12_lost_36 (by decide) ?_
          exact hret _ _ _ _ _ _ hC h dX12_lost_54
      · have h := h.2 c4
        refine lv_iconst (v := -1) hx hb dX12_lost_24 (by decide) ?_
        exact hret _ _ _ _ _ _ hC h dX12_lost_25
def wp_named (a0 : Int32) (S : mS) (K : mS → Int32 → Prop) : Prop := ∀ S1 : mS, S1 = sZ S 0 0 → wp_cutAll S1 (fun (S2 : mS) => inR 0 4002 ∧ ∀ z3 : Int32, z3 = S2.2.1 1 (ix 0) → ((¬ z3 = 1 → K S2 (-1)) ∧ (z3 = 1 → inR 1 4002 ∧ ∀ z5 : Int32, z5 = S2.2.1 1 (ix 1) → ((¬ z5 = 0 → K S2 (-1)) ∧ (z5 = 0 → ((a0 < (-1) → K S2 (-1)) ∧ (¬ a0 < (-1) → inR (S2.1 5) 2 ∧ ∀ z8 : Int32, z8 = S2.2.1 5 (ix (S2.1 5)) → ((a0 < z8 → ∀ z10 : Int32, z10 = 12 * (S2.1 5) → ∀ z11 : Int32, z11 = z10 + a0 → ((0 ≤ a0 → ∀ z13 : Int32, z13 = 12 * z11 → inR z11 24 ∧ ∀ z14 : Int32, z14 = S2.2.1 8 (ix z11) → inR 0 4002 ∧ ∀ z15 : Int64, z15 = S2.2.2 3 (ix 0) → wp_find_c z13 z14 z15 S2 (fun (S16 : mS) (r16 : Int32) => K S16 r16)) ∧ (¬ 0 ≤ a0 → ∀ z17 : Int32, z17 = 12 * (S2.1 5) → inR (S2.1 5) 2 ∧ ∀ z18 : Int32, z18 = S2.2.1 5 (ix (S2.1 5)) → inR 0 4002 ∧ ∀ z19 : Int64, z19 = S2.2.2 3 (ix 0) → wp_find_r z17 z18 z19 S2 (fun (S20 : mS) (r20 : Int32) => K S20 r20)))) ∧ (¬ a0 < z8 → K S2 (-1))))))))))
theorem cw_X12_cutAll {R : Room} {s : State} {args : Array Value} {fr lo : Nat} (hts : ∀ w ∈ tb, w.before args s = true) (h1 : fr + 1 ≤ R.frames) (h2 : 8 + (7 + 11) + lo ≤ R.locals) : CallW R s args RX12 RX12 353 yX12_cutAll cX12_cutAll 7 none (.code yX12_cutAll cX12_cutAll 7 none :: tb) (mRm fr lo) 0 0 0 := cwV 0 hts (gd_V wd_1790 wd_1792 sl_X12_cutAll wd_15 wd_1793) rfl rfl rfl (by decide +kernel) ⟨h1, h2⟩
set_option maxHeartbeats 4000000 in
set_option maxRecDepth 100000 in
theorem ct_named (l : Launch) (S : mS) (a0 : Int32) (K : mS → Int32 → Prop) (h : wp_named a0 S K) : mMi l yX12_named cX12_named 3 (some .int) 3 66 (fun E => [.int a0]) S K := by
  refine mv_ofi (by decide) rfl (fun _ => Nat.le_of_ble_eq_true rfl) ?_
  intro E p e R s m args below meth c A ls Q hRf hRl hX hC hl hret
  have hx := hX.1.1
  have hb := hX.1.2.1
  have hown := hX.1.2.2.2.1
  have hts := hX.1.2.2.2.2
  have hl : lv_has ls 3 [(0, .ref E.2.1), (1, .int a0)] := hl
  unfold wp_named at h
  refine lv_aload_n hx hb dX12_named_0 rfl (lv_at hl 0 rfl) ?_
  refine lv_iconst (v := 0) hx hb dX12_named_1 (by decide) ?_
  refine mq_put (v := 0) hX hC 0 0 (Nat.le_of_ble_eq_true rfl) wd_1400 rfl rfl rfl mz_0 dX12_named_2 h (fun S1 H locs hC h => ?_)
  refine lv_aload_n hx hb dX12_named_5 rfl (lv_at hl 0 rfl) ?_
  refine mv_callv [] (rest := []) hX hC (ct_cutAll l S1 _ h E _) (cw_X12_cutAll hts (by omega) (by omega)) rfl hl.1 (Nat.le_of_ble_eq_true rfl) ⟨Nat.zero_le _, Nat.zero_le _⟩ dX12_named_6 (fun S2 H locs hC h => ?_)
  refine lv_aload_n hx hb dX12_named_9 rfl (lv_at hl 0 rfl) ?_
  refine mv_get (v := .ref (E.2.2.1 1)) hX hC 4 (Nat.le_of_ble_eq_true rfl) wd_1404 rfl dX12_named_10 ?_
  refine lv_iconst (v := 0) hx hb dX12_named_13 (by decide) ?_
  refine mq_ild (n := 4002) hX hC 1 rfl rfl dX12_named_14 h (fun z3 h => ?_)
  refine lv_iconst (v := 1) hx hb dX12_named_15 (by decide) ?_
  refine lv_icmp_ne (tgt := 46) hx hb dX12_named_16 (by decide) (fun c4 => ?_) (fun c4 => ?_)
  · have h := h.1 c4
    refine lv_iconst (v := -1) hx hb dX12_named_46 (by decide) ?_
    exact hret _ _ _ _ _ _ hC h dX12_named_47
  · have h := h.2 c4
    refine lv_aload_n hx hb dX12_named_19 rfl (lv_at hl 0 rfl) ?_
    refine mv_get (v := .ref (E.2.2.1 1)) hX hC 4 (Nat.le_of_ble_eq_true rfl) wd_1404 rfl dX12_named_20 ?_
    refine lv_iconst (v := 1) hx hb dX12_named_23 (by decide) ?_
    refine mq_ild (n := 4002) hX hC 1 rfl rfl dX12_named_24 h (fun z5 h => ?_)
    refine lv_if_ne (tgt := 46) hx hb dX12_named_25 (by decide) (fun c6 => ?_) (fun c6 => ?_)
    · have h := h.1 c6
      refine lv_iconst (v := -1) hx hb dX12_named_46 (by decide) ?_
      exact hret _ _ _ _ _ _ hC h dX12_named_47
    · have h := h.2 c6
      refine lv_iload_n hx hb dX12_named_28 rfl (lv_at hl 1 rfl) ?_
      refine lv_iconst (v := -1) hx hb dX12_named_29 (by decide) ?_
      refine lv_icmp_lt (tgt := 46) hx hb dX12_named_30 (by decide) (fun c7 => ?_) (fun c7 => ?_)
      · have h := h.1 c7
        refine lv_iconst (v := -1) hx hb dX12_named_46 (by decide) ?_
        exact hret _ _ _ _ _ _ hC h dX12_named_47
      · have h := h.2 c7
        refine lv_iload_n hx hb dX12_named_33 rfl (lv_at hl 1 rfl) ?_
        refine lv_aload_n hx hb dX12_named_34 rfl (lv_at hl 0 rfl) ?_
        refine mv_get (v := .ref (E.2.2.1 5)) hX hC 13 (Nat.le_of_ble_eq_true rfl) wd_1413 rfl dX12_named_35 ?_
        refine lv_aload_n hx hb dX12_named_38 rfl (lv_at hl 0 rfl) ?_
        refine mv_get (v := .int (S2.1 5)) hX hC 11 (Nat.le_of_ble_eq_true rfl) wd_1411 rfl dX12_named_39 ?_
        refine mq_ild (n := 2) hX hC 5 rfl rfl dX12_named_42 h (fun z8 h => ?_)
        refine lv_icmp_lt (tgt := 48) hx hb dX12_named_43 (by decide) (fun c9 => ?_) (fun c9 => ?_)
        · have h := h.1 c9
          refine lv_bipush (v := 12) hx hb dX12_named_48 (by decide) ?_
          refine lv_aload_n hx hb dX12_named_50 rfl (lv_at hl 0 rfl) ?_
          refine mv_get (v := .int (S2.1 5)) hX hC 11 (Nat.le_of_ble_eq_true rfl) wd_1411 rfl dX12_named_51 ?_
          refine lq_imul hx hb dX12_named_54 h (fun z10 h => ?_)
          refine lv_iload_n hx hb dX12_named_55 rfl (lv_at hl 1 rfl) ?_
          refine lq_iadd hx hb dX12_named_56 h (fun z11 h => ?_)
          refine lv_istore_n (lv' := [(2, .int z11), (0, .ref E.2.1), (1, .int a0)]) hx hb dX12_named_57 rfl hl (by decide) rfl (fun ls hl => ?_)
          refine lv_iload_n hx hb dX12_named_58 rfl (lv_at hl 2 rfl) ?_
          refine lv_if_ge (tgt := 95) hx hb dX12_named_59 (by decide) (fun c12 => ?_) (fun c12 => ?_)
          · have h := h.1 c12
            refine lv_aload_n hx hb dX12_named_95 rfl (lv_at hl 1 rfl) ?_
            refine lv_aload_n hx hb dX12_named_96 rfl (lv_at hl 1 rfl) ?_
            refine mv_get (v := .ref (E.2.2.1 9)) hX hC 17 (Nat.le_of_ble_eq_true rfl) wd_1417 rfl dX12_named_97 ?_
            refine lv_bipush (v := 12) hx hb dX12_named_100 (by decide) ?_
            refine lv_iload_n hx hb dX12_named_102 rfl (lv_at hl 0 rfl) ?_
            refine lq_imul hx hb dX12_named_103 h (fun z13 h => ?_)
            refine lv_aload_n hx hb dX12_named_104 rfl (lv_at hl 1 rfl) ?_
            refine mv_get (v := .ref (E.2.2.1 8)) hX hC 16 (Nat.le_of_ble_eq_true rfl) wd_1416 rfl dX12_named_105 ?_
            refine lv_iload_n hx hb dX12_named_108 rfl (lv_at hl 0 rfl) ?_
            refine mq_ild (n := 24) hX hC 8 rfl rfl dX12_named_109 h (fun z14 h => ?_)
            refine lv_aload_n hx hb dX12_named_110 rfl (lv_at hl 1 rfl) ?_
            refine mv_get (v := .ref (E.2.2.1 3)) hX hC 6 (Nat.le_of_ble_eq_true rfl) wd_1406 rfl dX12_named_111 ?_
            refine lv_iconst (v := 0) hx hb dX12_named_114 (by decide) ?_
            refine mq_lld (n := 4002) hX hC 3 rfl rfl dX12_named_115 h (fun z15 h => ?_)
            refine mv_calli [.ref (E.2.2.1 9), .int z13, .int z14, .long z15] (rest := []) hX hC (ct_find_c l S2 z13 z14 z15 _ h E _) (cw_X12_find hts (by omega) (by omega)) rfl hl.1 (Nat.le_of_ble_eq_true rfl) ⟨Nat.zero_le _, Nat.zero_le _⟩ dX12_named_116 (fun r16 S16 H locs hC h => ?_)
            exact hret _ _ _ _ _ _ hC h dX12_named_119
          · have h := h.2 c12
            refine lv_aload_n hx hb dX12_named_62 rfl (lv_at hl 1 rfl) ?_
            refine lv_aload_n hx hb dX12_named_63 rfl (lv_at hl 1 rfl) ?_
            refine mv_get (v := .ref (E.2.2.1 6)) hX hC 14 (Nat.le_of_ble_eq_true rfl) wd_1414 rfl dX12_named_64 ?_
            refine lv_bipush (v := 12) hx hb dX12_named_67 (by decide) ?_
            refine lv_aload_n hx hb dX12_named_69 rfl (lv_at hl 1 rfl) ?_
            refine mv_get (v := .int (S2.1 5)) hX hC 11 (Nat.le_of_ble_eq_true rfl) wd_1411 rfl dX12_named_70 ?_
            refine lq_imul hx hb dX12_named_73 h (fun z17 h => ?_)
            refine lv_aload_n hx hb dX12_named_74 rfl (lv_at hl 1 rfl) ?_
            refine mv_get (v := .ref (E.2.2.1 5)) hX hC 13 (Nat.le_of_ble_eq_true rfl) wd_1413 rfl dX12_named_75 ?_
            refine lv_aload_n hx hb dX12_named_78 rfl (lv_at hl 1 rfl) ?_
            refine mv_get (v := .int (S2.1 5)) hX hC 11 (Nat.le_of_ble_eq_true rfl) wd_1411 rfl dX12_named_79 ?_
            refine mq_ild (n := 2) hX hC 5 rfl rfl dX12_named_82 h (fun z18 h => ?_)
            refine lv_aload_n hx hb dX12_named_83 rfl (lv_at hl 1 rfl) ?_
            refine mv_get (v := .ref (E.2.2.1 3)) hX hC 6 (Nat.le_of_ble_eq_true rfl) wd_1406 rfl dX12_named_84 ?_
            refine lv_iconst (v := 0) hx hb dX12_named_87 (by decide) ?_
            refine mq_lld (n := 4002) hX hC 3 rfl rfl dX12_named_88 h (fun z19 h => ?_)
            refine mv_calli [.ref (E.2.2.1 6), .int z17, .int z18, .long z19] (rest := []) hX hC (ct_find_r l S2 z17 z18 z19 _ h E _) (cw_X12_find hts (by omega) (by omega)) rfl hl.1 (Nat.le_of_ble_eq_true rfl) ⟨Nat.zero_le _, Nat.zero_le _⟩ dX12_named_89 (fun r20 S20 H locs hC h => ?_)
            refine lv_goto (tgt := 119) hx hb dX12_named_92 (by decide) ?_
            exact hret _ _ _ _ _ _ hC h dX12_named_119
        · have h := h.2 c9
          refine lv_iconst (v := -1) hx hb dX12_named_46 (by decide) ?_
          exact hret _ _ _ _ _ _ hC h dX12_named_47
def wp_next_154 (K : mS → Int32 → Prop) (k46 : Int32 × Int32 × Int32 × mS → Prop) (x3 : Int32) (x4 : Int32) (x5 : Int32) (S : mS) : Prop := k46 (x3, x4, x5, S)
def wp_next_139 (K : mS → Int32 → Prop) (k46 : Int32 × Int32 × Int32 × mS → Prop) (x3 : Int32) (x4 : Int32) (x6 : Int32) (y0 : Int32) (S : mS) : Prop := inR x4 24 ∧ ∀ z24 : Int32, z24 = S.2.1 23 (ix x4) → wp_goOn x6 z24 S (fun (S25 : mS) => wp_next_154 K k46 x3 x4 y0 S25)
def wp_next_138 (K : mS → Int32 → Prop) (k46 : Int32 × Int32 × Int32 × mS → Prop) (x3 : Int32) (x4 : Int32) (x6 : Int32) (S : mS) : Prop := wp_next_139 K k46 x3 x4 x6 0 S
def wp_next_134 (K : mS → Int32 → Prop) (k46 : Int32 × Int32 × Int32 × mS → Prop) (x3 : Int32) (x4 : Int32) (x6 : Int32) (S : mS) : Prop := wp_next_139 K k46 x3 x4 x6 1 S
def wp_next_108 (K : mS → Int32 → Prop) (k46 : Int32 × Int32 × Int32 × mS → Prop) (x3 : Int32) (x4 : Int32) (y0 : Int32) (S : mS) : Prop := wp_next_154 K k46 x3 x4 y0 S
def wp_next_103 (K : mS → Int32 → Prop) (k46 : Int32 × Int32 × Int32 × mS → Prop) (x3 : Int32) (x4 : Int32) (S : mS) : Prop := wp_next_108 K k46 x3 x4 1 S
def wp_next_46 (K : mS → Int32 → Prop) (k46 : Int32 × Int32 × Int32 × mS → Prop) (x3 : Int32) (x4 : Int32) (x5 : Int32) (S : mS) : Prop := (((S.1 21) ≤ 0 → ((x5 = 0 → K S 0) ∧ (¬ x5 = 0 → K S 1))) ∧ (¬ (S.1 21) ≤ 0 → ∀ z11 : Int32, z11 = (S.1 21) - 1 → ∀ S12 : mS, S12 = sZ S 21 z11 → inR (S12.1 21) 12000 ∧ ∀ z13 : Int32, z13 = S12.2.1 50 (ix (S12.1 21)) → inR z13 24000 ∧ ∀ z14 : Int32, z14 = S12.2.1 15 (ix z13) → ((¬ z14 = 3 → ((¬ x5 = 0 → wp_next_134 K k46 x3 x4 z13 S12) ∧ (x5 = 0 → inR z13 24000 ∧ ∀ z17 : Int32, z17 = S12.2.1 15 (ix z13) → ((¬ z17 = 6 → wp_next_138 K k46 x3 x4 z13 S12) ∧ (z17 = 6 → ((¬ x3 = 0 → wp_next_138 K k46 x3 x4 z13 S12) ∧ (x3 = 0 → wp_next_134 K k46 x3 x4 z13 S12))))))) ∧ (z14 = 3 → ((¬ x5 = 0 → wp_next_103 K k46 x3 x4 S12) ∧ (x5 = 0 → inR z13 24000 ∧ ∀ z21 : Int32, z21 = S12.2.1 16 (ix z13) → ∀ z22 : Int32, z22 = z21 + 1 → ((¬ z22 = x3 → wp_next_108 K k46 x3 x4 0 S12) ∧ (z22 = x3 → wp_next_103 K k46 x3 x4 S12))))))))
def ls_next_46 (K : mS → Int32 → Prop) (k46 : Int32 × Int32 × Int32 × mS → Prop) (u : Int32 × Int32 × Int32 × mS) : Prop := wp_next_46 K k46 u.1 u.2.1 u.2.2.1 u.2.2.2
def wp_next (a0 : Int32) (a1 : Int32) (a2 : Int32) (S : mS) (K : mS → Int32 → Prop) : Prop := ∀ S1 : mS, S1 = sZ S 0 0 → wp_isState a0 a1 S1 (fun (S2 : mS) (r2 : Int32) => ((r2 = 0 → K S2 (-1)) ∧ (¬ r2 = 0 → wp_isState a0 a2 S2 (fun (S4 : mS) (r4 : Int32) => ((¬ r4 = 0 → ∀ z6 : Int32, z6 = 12 * (S4.1 5) → ∀ z7 : Int32, z7 = z6 + a0 → wp_from z7 a1 S4 (fun (S8 : mS) => (∃ n9, it (ls_next_46 K) n9 (a2, z7, 0, S8)))) ∧ (r4 = 0 → K S4 (-1)))))))
set_option maxHeartbeats 4000000 in
set_option maxRecDepth 100000 in
theorem ct_next (l : Launch) (S : mS) (a0 : Int32) (a1 : Int32) (a2 : Int32) (K : mS → Int32 → Prop) (h : wp_next a0 a1 a2 S K) : mMi l yX12_next cX12_next 7 (some .int) 5 120 (fun E => [.int a0, .int a1, .int a2]) S K := by
  refine mv_ofi (by decide) rfl (fun _ => Nat.le_of_ble_eq_true rfl) ?_
  intro E p e R s m args below meth c A ls Q hRf hRl hX hC hl hret
  have hx := hX.1.1
  have hb := hX.1.2.1
  have hown := hX.1.2.2.2.1
  have hts := hX.1.2.2.2.2
  have cut46 : ∀ (n46 : Nat) (x3 : Int32) (x4 : Int32) (x5 : Int32) (S : mS) (H : Heap) (locs : List Loc) (ls : Array Slot), it (ls_next_46 K) n46 (x3, x4, x5, S) → mC E A s.heap S H locs → lv_has ls 7 [(0, .ref E.2.1), (3, .int x3), (4, .int x4), (5, .int x5)] → W p l e R s m args below meth c H locs 0 0 Q (F0 m 46 ls []) := by
    intro n46
    induction n46 with
    | zero => intro x3 x4 x5 S H locs ls h hC hl; exact h.elim
    | succ n46 ih46 =>
      have cut154 : ∀ (x3 : Int32) (x4 : Int32) (x5 : Int32) (S : mS) (H : Heap) (locs : List Loc) (ls : Array Slot), wp_next_154 K (it (ls_next_46 K) n46) x3 x4 x5 S → mC E A s.heap S H locs → lv_has ls 7 [(0, .ref E.2.1), (3, .int x3), (4, .int x4), (5, .int x5)] → W p l e R s m args below meth c H locs 0 0 Q (F0 m 154 ls []) := by
        intro x3 x4 x5 S H locs ls h hC hl
        unfold wp_next_154 at h
        refine lv_goto (tgt := 46) hx hb dX12_next_154 (by decide) ?_
        exact ih46 x3 x4 x5 S _ _ _ h hC (lv_sub hl [0, 1, 2, 3] rfl)
      have cut139 : ∀ (x3 : Int32) (x4 : Int32) (x6 : Int32) (y0 : Int32) (S : mS) (H : Heap) (locs : List Loc) (ls : Array Slot), wp_next_139 K (it (ls_next_46 K) n46) x3 x4 x6 y0 S → mC E A s.heap S H locs → lv_has ls 7 [(0, .ref E.2.1), (3, .int x3), (4, .int x4), (6, .int x6)] → W p l e R s m args below meth c H locs 0 0 Q (F0 m 139 ls [.int y0]) := by
        intro x3 x4 x6 y0 S H locs ls h hC hl
        unfold wp_next_139 at h
        refine lv_istore (lv' := [(5, .int y0), (0, .ref E.2.1), (3, .int x3), (4, .int x4), (6, .int x6)]) hx hb dX12_next_139 hl (by decide) rfl (fun ls hl => ?_)
        refine lv_aload_n hx hb dX12_next_141 rfl (lv_at hl 1 rfl) ?_
        refine lv_iload hx hb dX12_next_142 (lv_at hl 4 rfl) ?_
        refine lv_aload_n hx hb dX12_next_144 rfl (lv_at hl 1 rfl) ?_
        refine mv_get (v := .ref (E.2.2.1 23)) hX hC 33 (Nat.le_of_ble_eq_true rfl) wd_1433 rfl dX12_next_145 ?_
        refine lv_iload hx hb dX12_next_148 (lv_at hl 3 rfl) ?_
        refine mq_ild (n := 24) hX hC 23 rfl rfl dX12_next_150 h (fun z24 h => ?_)
        refine mv_callv [.int x6, .int z24] (rest := []) hX hC (ct_goOn l S x6 z24 _ h E _) (cw_X12_goOn hts (by omega) (by omega)) rfl hl.1 (Nat.le_of_ble_eq_true rfl) ⟨Nat.zero_le _, Nat.zero_le _⟩ dX12_next_151 (fun S25 H locs hC h => ?_)
        exact cut154 x3 x4 y0 S25 _ _ _ h hC (lv_sub hl [1, 2, 3, 0] rfl)
      have cut138 : ∀ (x3 : Int32) (x4 : Int32) (x6 : Int32) (S : mS) (H : Heap) (locs : List Loc) (ls : Array Slot), wp_next_138 K (it (ls_next_46 K) n46) x3 x4 x6 S → mC E A s.heap S H locs → lv_has ls 7 [(0, .ref E.2.1), (3, .int x3), (4, .int x4), (6, .int x6)] → W p l e R s m args below meth c H locs 0 0 Q (F0 m 138 ls []) := by
        intro x3 x4 x6 S H locs ls h hC hl
        unfold wp_next_138 at h
        refine lv_iconst (v := 0) hx hb dX12_next_138 (by decide) ?_
        exact cut139 x3 x4 x6 0 S _ _ _ h hC (lv_sub hl [0, 1, 2, 3] rfl)
      have cut134 : ∀ (x3 : Int32) (x4 : Int32) (x6 : Int32) (S : mS) (H : Heap) (locs : List Loc) (ls : Array Slot), wp_next_134 K (it (ls_next_46 K) n46) x3 x4 x6 S → mC E A s.heap S H locs → lv_has ls 7 [(0, .ref E.2.1), (3, .int x3), (4, .int x4), (6, .int x6)] → W p l e R s m args below meth c H locs 0 0 Q (F0 m 134 ls []) := by
        intro x3 x4 x6 S H locs ls h hC hl
        unfold wp_next_134 at h
        refine lv_iconst (v := 1) hx hb dX12_next_134 (by decide) ?_
        refine lv_goto (tgt := 139) hx hb dX12_next_135 (by decide) ?_
        exact cut139 x3 x4 x6 1 S _ _ _ h hC (lv_sub hl [0, 1, 2, 3] rfl)
      have cut108 : ∀ (x3 : Int32) (x4 : Int32) (y0 : Int32) (S : mS) (H : Heap) (locs : List Loc) (ls : Array Slot), wp_next_108 K (it (ls_next_46 K) n46) x3 x4 y0 S → mC E A s.heap S H locs → lv_has ls 7 [(0, .ref E.2.1), (3, .int x3), (4, .int x4)] → W p l e R s m args below meth c H locs 0 0 Q (F0 m 108 ls [.int y0]) := by
        intro x3 x4 y0 S H locs ls h hC hl
        unfold wp_next_108 at h
        refine lv_istore (lv' := [(5, .int y0), (0, .ref E.2.1), (3, .int x3), (4, .int x4)]) hx hb dX12_next_108 hl (by decide) rfl (fun ls hl => ?_)
        refine lv_goto (tgt := 154) hx hb dX12_next_110 (by decide) ?_
        exact cut154 x3 x4 y0 S _ _ _ h hC (lv_sub hl [1, 2, 3, 0] rfl)
      have cut103 : ∀ (x3 : Int32) (x4 : Int32) (S : mS) (H : Heap) (locs : List Loc) (ls : Array Slot), wp_next_103 K (it (ls_next_46 K) n46) x3 x4 S → mC E A s.heap S H locs → lv_has ls 7 [(0, .ref E.2.1), (3, .int x3), (4, .int x4)] → W p l e R s m args below meth c H locs 0 0 Q (F0 m 103 ls []) := by
        intro x3 x4 S H locs ls h hC hl
        unfold wp_next_103 at h
        refine lv_iconst (v := 1) hx hb dX12_next_103 (by decide) ?_
        refine lv_goto (tgt := 108) hx hb dX12_next_104 (by decide) ?_
        exact cut108 x3 x4 1 S _ _ _ h hC (lv_sub hl [0, 1, 2] rfl)
      intro x3 x4 x5 S H locs ls h hC hl
      have h : wp_next_46 K (it (ls_next_46 K) n46) x3 x4 x5 S := h
      unfold wp_next_46 at h
      refine lv_aload_n hx hb dX12_next_46 rfl (lv_at hl 0 rfl) ?_
      refine mv_get (v := .int (S.1 21)) hX hC 73 (Nat.le_of_ble_eq_true rfl) wd_1473 rfl dX12_next_47 ?_
      refine lv_if_le (tgt := 157) hx hb dX12_next_50 (by decide) (fun c9 => ?_) (fun c9 => ?_)
      · have h := h.1 c9
        refine lv_iload hx hb dX12_next_157 (lv_at hl 3 rfl) ?_
        refine lv_if_eq (tgt := 166) hx hb dX12_next_159 (by decide) (fun c10 => ?_) (fun c10 => ?_)
        · have h := h.1 c10
          refine lv_iconst (v := 0) hx hb dX12_next_166 (by decide) ?_
          exact hret _ _ _ _ _ _ hC h dX12_next_167
        · have h := h.2 c10
          refine lv_iconst (v := 1) hx hb dX12_next_162 (by decide) ?_
          refine lv_goto (tgt := 167) hx hb dX12_next_163 (by decide) ?_
          exact hret _ _ _ _ _ _ hC h dX12_next_167
      · have h := h.2 c9
        refine lv_aload_n hx hb dX12_next_53 rfl (lv_at hl 0 rfl) ?_
        refine lv_dup hx hb dX12_next_54 rfl ?_
        refine mv_get (v := .int (S.1 21)) hX hC 73 (Nat.le_of_ble_eq_true rfl) wd_1473 rfl dX12_next_55 ?_
        refine lv_iconst (v := 1) hx hb dX12_next_58 (by decide) ?_
        refine lq_isub hx hb dX12_next_59 h (fun z11 h => ?_)
        refine mq_put (v := z11) hX hC 73 21 (Nat.le_of_ble_eq_true rfl) wd_1473 rfl rfl rfl mz_21 dX12_next_60 h (fun S12 H locs hC h => ?_)
        refine lv_aload_n hx hb dX12_next_63 rfl (lv_at hl 0 rfl) ?_
        refine mv_get (v := .ref (E.2.2.1 50)) hX hC 72 (Nat.le_of_ble_eq_true rfl) wd_1472 rfl dX12_next_64 ?_
        refine lv_aload_n hx hb dX12_next_67 rfl (lv_at hl 0 rfl) ?_
        refine mv_get (v := .int (S12.1 21)) hX hC 73 (Nat.le_of_ble_eq_true rfl) wd_1473 rfl dX12_next_68 ?_
        refine mq_ild (n := 12000) hX hC 50 rfl rfl dX12_next_71 h (fun z13 h => ?_)
        refine lv_istore (lv' := [(6, .int z13), (0, .ref E.2.1), (3, .int x3), (4, .int x4), (5, .int x5)]) hx hb dX12_next_72 hl (by decide) rfl (fun ls hl => ?_)
        refine lv_aload_n hx hb dX12_next_74 rfl (lv_at hl 1 rfl) ?_
        refine mv_get (v := .ref (E.2.2.1 15)) hX hC 24 (Nat.le_of_ble_eq_true rfl) wd_1424 rfl dX12_next_75 ?_
        refine lv_iload hx hb dX12_next_78 (lv_at hl 0 rfl) ?_
        refine mq_ild (n := 24000) hX hC 15 rfl rfl dX12_next_80 h (fun z14 h => ?_)
        refine lv_iconst (v := 3) hx hb dX12_next_81 (by decide) ?_
        refine lv_icmp_ne (tgt := 113) hx hb dX12_next_82 (by decide) (fun c15 => ?_) (fun c15 => ?_)
        · have h := h.1 c15
          refine lv_iload hx hb dX12_next_113 (lv_at hl 4 rfl) ?_
          refine lv_if_ne (tgt := 134) hx hb dX12_next_115 (by decide) (fun c16 => ?_) (fun c16 => ?_)
          · have h := h.1 c16
            exact cut134 x3 x4 z13 S12 _ _ _ h hC (lv_sub hl [1, 2, 3, 0] rfl)
          · have h := h.2 c16
            refine lv_aload_n hx hb dX12_next_118 rfl (lv_at hl 1 rfl) ?_
            refine mv_get (v := .ref (E.2.2.1 15)) hX hC 24 (Nat.le_of_ble_eq_true rfl) wd_1424 rfl dX12_next_119 ?_
            refine lv_iload hx hb dX12_next_122 (lv_at hl 0 rfl) ?_
            refine mq_ild (n := 24000) hX hC 15 rfl rfl dX12_next_124 h (fun z17 h => ?_)
            refine lv_bipush (v := 6) hx hb dX12_next_125 (by decide) ?_
            refine lv_icmp_ne (tgt := 138) hx hb dX12_next_127 (by decide) (fun c18 => ?_) (fun c18 => ?_)
            · have h := h.1 c18
              exact cut138 x3 x4 z13 S12 _ _ _ h hC (lv_sub hl [1, 2, 3, 0] rfl)
            · have h := h.2 c18
              refine lv_iload_n hx hb dX12_next_130 rfl (lv_at hl 2 rfl) ?_
              refine lv_if_ne (tgt := 138) hx hb dX12_next_131 (by decide) (fun c19 => ?_) (fun c19 => ?_)
              · have h := h.1 c19
                exact cut138 x3 x4 z13 S12 _ _ _ h hC (lv_sub hl [1, 2, 3, 0] rfl)
              · have h := h.2 c19
                exact cut134 x3 x4 z13 S12 _ _ _ h hC (lv_sub hl [1, 2, 3, 0] rfl)
        · have h := h.2 c15
          refine lv_iload hx hb dX12_next_85 (lv_at hl 4 rfl) ?_
          refine lv_if_ne (tgt := 103) hx hb dX12_next_87 (by decide) (fun c20 => ?_) (fun c20 => ?_)
          · have h := h.1 c20
            exact cut103 x3 x4 S12 _ _ _ h hC (lv_sub hl [1, 2, 3] rfl)
          · have h := h.2 c20
            refine lv_aload_n hx hb dX12_next_90 rfl (lv_at hl 1 rfl) ?_
            refine mv_get (v := .ref (E.2.2.1 16)) hX hC 25 (Nat.le_of_ble_eq_true rfl) wd_1425 rfl dX12_next_91 ?_
            refine lv_iload hx hb dX12_next_94 (lv_at hl 0 rfl) ?_
            refine mq_ild (n := 24000) hX hC 16 rfl rfl dX12_next_96 h (fun z21 h => ?_)
            refine lv_iconst (v := 1) hx hb dX12_next_97 (by decide) ?_
            refine lq_iadd hx hb dX12_next_98 h (fun z22 h => ?_)
            refine lv_iload_n hx hb dX12_next_99 rfl (lv_at hl 2 rfl) ?_
            refine lv_icmp_ne (tgt := 107) hx hb dX12_next_100 (by decide) (fun c23 => ?_) (fun c23 => ?_)
            · have h := h.1 c23
              refine lv_iconst (v := 0) hx hb dX12_next_107 (by decide) ?_
              exact cut108 x3 x4 0 S12 _ _ _ h hC (lv_sub hl [1, 2, 3] rfl)
            · have h := h.2 c23
              exact cut103 x3 x4 S12 _ _ _ h hC (lv_sub hl [1, 2, 3] rfl)
  have hl : lv_has ls 7 [(0, .ref E.2.1), (1, .int a0), (2, .int a1), (3, .int a2)] := hl
  unfold wp_next at h
  refine lv_aload_n hx hb dX12_next_0 rfl (lv_at hl 0 rfl) ?_
  refine lv_iconst (v := 0) hx hb dX12_next_1 (by decide) ?_
  refine mq_put (v := 0) hX hC 0 0 (Nat.le_of_ble_eq_true rfl) wd_1400 rfl rfl rfl mz_0 dX12_next_2 h (fun S1 H locs hC h => ?_)
  refine lv_aload_n hx hb dX12_next_5 rfl (lv_at hl 0 rfl) ?_
  refine lv_iload_n hx hb dX12_next_6 rfl (lv_at hl 1 rfl) ?_
  refine lv_iload_n hx hb dX12_next_7 rfl (lv_at hl 2 rfl) ?_
  refine mv_calli [.int a0, .int a1] (rest := []) hX hC (ct_isState l S1 a0 a1 _ h E _) (cw_X12_isState hts (by omega) (by omega)) rfl hl.1 (Nat.le_of_ble_eq_true rfl) ⟨Nat.zero_le _, Nat.zero_le _⟩ dX12_next_8 (fun r2 S2 H locs hC h => ?_)
  refine lv_if_eq (tgt := 23) hx hb dX12_next_11 (by decide) (fun c3 => ?_) (fun c3 => ?_)
  · have h := h.1 c3
    refine lv_iconst (v := -1) hx hb dX12_next_23 (by decide) ?_
    exact hret _ _ _ _ _ _ hC h dX12_next_24
  · have h := h.2 c3
    refine lv_aload_n hx hb dX12_next_14 rfl (lv_at hl 0 rfl) ?_
    refine lv_iload_n hx hb dX12_next_15 rfl (lv_at hl 1 rfl) ?_
    refine lv_iload_n hx hb dX12_next_16 rfl (lv_at hl 3 rfl) ?_
    refine mv_calli [.int a0, .int a2] (rest := []) hX hC (ct_isState l S2 a0 a2 _ h E _) (cw_X12_isState hts (by omega) (by omega)) rfl hl.1 (Nat.le_of_ble_eq_true rfl) ⟨Nat.zero_le _, Nat.zero_le _⟩ dX12_next_17 (fun r4 S4 H locs hC h => ?_)
    refine lv_if_ne (tgt := 25) hx hb dX12_next_20 (by decide) (fun c5 => ?_) (fun c5 => ?_)
    · have h := h.1 c5
      refine lv_bipush (v := 12) hx hb dX12_next_25 (by decide) ?_
      refine lv_aload_n hx hb dX12_next_27 rfl (lv_at hl 0 rfl) ?_
      refine mv_get (v := .int (S4.1 5)) hX hC 11 (Nat.le_of_ble_eq_true rfl) wd_1411 rfl dX12_next_28 ?_
      refine lq_imul hx hb dX12_next_31 h (fun z6 h => ?_)
      refine lv_iload_n hx hb dX12_next_32 rfl (lv_at hl 1 rfl) ?_
      refine lq_iadd hx hb dX12_next_33 h (fun z7 h => ?_)
      refine lv_istore (lv' := [(4, .int z7), (0, .ref E.2.1), (1, .int a0), (2, .int a1), (3, .int a2)]) hx hb dX12_next_34 hl (by decide) rfl (fun ls hl => ?_)
      refine lv_aload_n hx hb dX12_next_36 rfl (lv_at hl 1 rfl) ?_
      refine lv_iload hx hb dX12_next_37 (lv_at hl 0 rfl) ?_
      refine lv_iload_n hx hb dX12_next_39 rfl (lv_at hl 3 rfl) ?_
      refine mv_callv [.int z7, .int a1] (rest := []) hX hC (ct_from l S4 z7 a1 _ h E _) (cw_X12_from hts (by omega) (by omega)) rfl hl.1 (Nat.le_of_ble_eq_true rfl) ⟨Nat.zero_le _, Nat.zero_le _⟩ dX12_next_40 (fun S8 H locs hC h => ?_)
      refine lv_iconst (v := 0) hx hb dX12_next_43 (by decide) ?_
      refine lv_istore (lv' := [(5, .int 0), (4, .int z7), (0, .ref E.2.1), (1, .int a0), (2, .int a1), (3, .int a2)]) hx hb dX12_next_44 hl (by decide) rfl (fun ls hl => ?_)
      obtain ⟨n9, h⟩ := h
      exact cut46 n9 a2 z7 0 S8 _ _ _ h hC (lv_sub hl [2, 5, 1, 0] rfl)
    · have h := h.2 c5
      refine lv_iconst (v := -1) hx hb dX12_next_23 (by decide) ?_
      exact hret _ _ _ _ _ _ hC h dX12_next_24
def wp_notePut_33 (K : mS → Prop) (S : mS) : Prop := ∀ z4 : Int32, z4 = (S.1 27) + 1 → ∀ S5 : mS, S5 = sZ S 27 z4 → K S5
def wp_notePut (a0 : Int32) (S : mS) (K : mS → Prop) : Prop := ((300 ≤ (S.1 27) → wp_notePut_33 K S) ∧ (¬ 300 ≤ (S.1 27) → inR (S.1 27) 300 ∧ ∀ S2 : mS, S2 = sF S 74 (ix (S.1 27)) (S.1 33) → inR (S2.1 27) 300 ∧ ∀ S3 : mS, S3 = sF S2 75 (ix (S2.1 27)) a0 → wp_notePut_33 K S3))
set_option maxHeartbeats 4000000 in
set_option maxRecDepth 100000 in
theorem ct_notePut (l : Launch) (S : mS) (a0 : Int32) (K : mS → Prop) (h : wp_notePut a0 S K) : mMv l yX12_notePut cX12_notePut 2 none 0 0 (fun E => [.int a0]) S K := by
  refine mv_ofv (by decide) rfl (fun _ => Nat.le_of_ble_eq_true rfl) ?_
  intro E p e R s m args below meth c A ls Q hRf hRl hX hC hl hret
  have hx := hX.1.1
  have hb := hX.1.2.1
  have hown := hX.1.2.2.2.1
  have hts := hX.1.2.2.2.2
  have cut33 : ∀ (S : mS) (H : Heap) (locs : List Loc) (ls : Array Slot), wp_notePut_33 K S → mC E A s.heap S H locs → lv_has ls 2 [(0, .ref E.2.1)] → W p l e R s m args below meth c H locs 0 0 Q (F0 m 33 ls []) := by
    intro S H locs ls h hC hl
    unfold wp_notePut_33 at h
    refine lv_aload_n hx hb dX12_notePut_33 rfl (lv_at hl 0 rfl) ?_
    refine lv_dup hx hb dX12_notePut_34 rfl ?_
    refine mv_get (v := .int (S.1 27)) hX hC 102 (Nat.le_of_ble_eq_true rfl) wd_1502 rfl dX12_notePut_35 ?_
    refine lv_iconst (v := 1) hx hb dX12_notePut_38 (by decide) ?_
    refine lq_iadd hx hb dX12_notePut_39 h (fun z4 h => ?_)
    refine mq_put (v := z4) hX hC 102 27 (Nat.le_of_ble_eq_true rfl) wd_1502 rfl rfl rfl mz_27 dX12_notePut_40 h (fun S5 H locs hC h => ?_)
    exact hret _ _ _ _ _ hC h dX12_notePut_43
  have hl : lv_has ls 2 [(0, .ref E.2.1), (1, .int a0)] := hl
  unfold wp_notePut at h
  refine lv_aload_n hx hb dX12_notePut_0 rfl (lv_at hl 0 rfl) ?_
  refine mv_get (v := .int (S.1 27)) hX hC 102 (Nat.le_of_ble_eq_true rfl) wd_1502 rfl dX12_notePut_1 ?_
  refine lv_sipush (v := 300) hx hb dX12_notePut_4 (by decide) ?_
  refine lv_icmp_ge (tgt := 33) hx hb dX12_notePut_7 (by decide) (fun c1 => ?_) (fun c1 => ?_)
  · have h := h.1 c1
    exact cut33 S _ _ _ h hC (lv_sub hl [0] rfl)
  · have h := h.2 c1
    refine lv_aload_n hx hb dX12_notePut_10 rfl (lv_at hl 0 rfl) ?_
    refine mv_get (v := .ref (E.2.2.1 74)) hX hC 103 (Nat.le_of_ble_eq_true rfl) wd_1503 rfl dX12_notePut_11 ?_
    refine lv_aload_n hx hb dX12_notePut_14 rfl (lv_at hl 0 rfl) ?_
    refine mv_get (v := .int (S.1 27)) hX hC 102 (Nat.le_of_ble_eq_true rfl) wd_1502 rfl dX12_notePut_15 ?_
    refine lv_aload_n hx hb dX12_notePut_18 rfl (lv_at hl 0 rfl) ?_
    refine mv_get (v := .int (S.1 33)) hX hC 123 (Nat.le_of_ble_eq_true rfl) wd_1523 rfl dX12_notePut_19 ?_
    refine mq_ist (n := 300) (v := S.1 33) hX hC 74 rfl rfl mf_74 dX12_notePut_22 h.1 h.2 (fun S2 H locs hC h => ?_)
    refine lv_aload_n hx hb dX12_notePut_23 rfl (lv_at hl 0 rfl) ?_
    refine mv_get (v := .ref (E.2.2.1 75)) hX hC 104 (Nat.le_of_ble_eq_true rfl) wd_1504 rfl dX12_notePut_24 ?_
    refine lv_aload_n hx hb dX12_notePut_27 rfl (lv_at hl 0 rfl) ?_
    refine mv_get (v := .int (S2.1 27)) hX hC 102 (Nat.le_of_ble_eq_true rfl) wd_1502 rfl dX12_notePut_28 ?_
    refine lv_iload_n hx hb dX12_notePut_31 rfl (lv_at hl 1 rfl) ?_
    refine mq_ist (n := 300) (v := a0) hX hC 75 rfl rfl mf_75 dX12_notePut_32 h.1 h.2 (fun S3 H locs hC h => ?_)
    exact cut33 S3 _ _ _ h hC (lv_sub hl [0] rfl)
def wp_pop (S : mS) (K : mS → Int32 → Prop) : Prop := ∀ z1 : Int32, z1 = (S.1 31) - 1 → ∀ S2 : mS, S2 = sZ S 31 z1 → inR (S2.1 31) 4000 ∧ ∀ z3 : Int32, z3 = S2.2.1 88 (ix (S2.1 31)) → K S2 z3
set_option maxHeartbeats 4000000 in
set_option maxRecDepth 100000 in
theorem ct_pop (l : Launch) (S : mS) (K : mS → Int32 → Prop) (h : wp_pop S K) : mMi l yX12_pop cX12_pop 1 (some .int) 0 0 (fun E => []) S K := by
  refine mv_ofi (by decide) rfl (fun _ => Nat.le_of_ble_eq_true rfl) ?_
  intro E p e R s m args below meth c A ls Q hRf hRl hX hC hl hret
  have hx := hX.1.1
  have hb := hX.1.2.1
  have hown := hX.1.2.2.2.1
  have hts := hX.1.2.2.2.2
  have hl : lv_has ls 1 [(0, .ref E.2.1)] := hl
  unfold wp_pop at h
  refine lv_aload_n hx hb dX12_pop_0 rfl (lv_at hl 0 rfl) ?_
  refine lv_dup hx hb dX12_pop_1 rfl ?_
  refine mv_get (v := .int (S.1 31)) hX hC 121 (Nat.le_of_ble_eq_true rfl) wd_1521 rfl dX12_pop_2 ?_
  refine lv_iconst (v := 1) hx hb dX12_pop_5 (by decide) ?_
  refine lq_isub hx hb dX12_pop_6 h (fun z1 h => ?_)
  refine mq_put (v := z1) hX hC 121 31 (Nat.le_of_ble_eq_true rfl) wd_1521 rfl rfl rfl mz_31 dX12_pop_7 h (fun S2 H locs hC h => ?_)
  refine lv_aload_n hx hb dX12_pop_10 rfl (lv_at hl 0 rfl) ?_
  refine mv_get (v := .ref (E.2.2.1 88)) hX hC 120 (Nat.le_of_ble_eq_true rfl) wd_1520 rfl dX12_pop_11 ?_
  refine lv_aload_n hx hb dX12_pop_14 rfl (lv_at hl 0 rfl) ?_
  refine mv_get (v := .int (S2.1 31)) hX hC 121 (Nat.le_of_ble_eq_true rfl) wd_1521 rfl dX12_pop_15 ?_
  refine mq_ild (n := 4000) hX hC 88 rfl rfl dX12_pop_18 h (fun z3 h => ?_)
  exact hret _ _ _ _ _ _ hC h dX12_pop_19
