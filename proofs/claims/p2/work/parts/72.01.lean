theorem wd_1462 : (Jvm.Cond.fieldLink "SleepersModel" (391 : Nat) "SleepersModel" "of" "I") ∈ tb := tb_at 1462 (by decide +kernel) (by decide +kernel)
theorem wd_1468 : (Jvm.Cond.fieldLink "SleepersModel" (418 : Nat) "SleepersModel" "deep" "I") ∈ tb := tb_at 1468 (by decide +kernel) (by decide +kernel)
theorem wd_1469 : (Jvm.Cond.fieldLink "SleepersModel" (425 : Nat) "SleepersModel" "last" "I") ∈ tb := tb_at 1469 (by decide +kernel) (by decide +kernel)
theorem wd_1810 : (Jvm.Cond.methodLink "SleepersModel" (343 : Nat) ({ cls := "SleepersModel", name := "wrong", desc := "(I)V" } : Jvm.MethodName)) ∈ tb := tb_at 1810 (by decide +kernel) (by decide +kernel)
theorem wd_1812 : (Jvm.Cond.instanceMethod ({ cls := "SleepersModel", name := "wrong", desc := "(I)V" } : Jvm.MethodName)) ∈ tb := tb_at 1812 (by decide +kernel) (by decide +kernel)
theorem wd_1813 : (Jvm.Cond.code ({ cls := "SleepersModel", name := "wrong", desc := "(I)V" } : Jvm.MethodName) prog_14_method_10_code (2 : Nat) (Option.none : Option Jvm.ClassFile.FieldType)) ∈ tb := tb_at 1813 (by decide +kernel) (by decide +kernel)
theorem wd_1814 : (Jvm.Cond.methodLink "SleepersModel" (387 : Nat) ({ cls := "SleepersModel", name := "isName", desc := "()Z" } : Jvm.MethodName)) ∈ tb := tb_at 1814 (by decide +kernel) (by decide +kernel)
theorem wd_1816 : (Jvm.Cond.instanceMethod ({ cls := "SleepersModel", name := "isName", desc := "()Z" } : Jvm.MethodName)) ∈ tb := tb_at 1816 (by decide +kernel) (by decide +kernel)
theorem wd_1817 : (Jvm.Cond.code ({ cls := "SleepersModel", name := "isName", desc := "()Z" } : Jvm.MethodName) prog_14_method_17_code (3 : Nat) (Option.some Jvm.ClassFile.FieldType.boolean)) ∈ tb := tb_at 1817 (by decide +kernel) (by decide +kernel)
theorem wd_1818 : (Jvm.Cond.methodLink "SleepersModel" (380 : Nat) ({ cls := "SleepersModel", name := "find", desc := "([JIIJ)I" } : Jvm.MethodName)) ∈ tb := tb_at 1818 (by decide +kernel) (by decide +kernel)
theorem wd_1820 : (Jvm.Cond.instanceMethod ({ cls := "SleepersModel", name := "find", desc := "([JIIJ)I" } : Jvm.MethodName)) ∈ tb := tb_at 1820 (by decide +kernel) (by decide +kernel)
theorem wd_1821 : (Jvm.Cond.code ({ cls := "SleepersModel", name := "find", desc := "([JIIJ)I" } : Jvm.MethodName) prog_14_method_19_code (8 : Nat) (Option.some Jvm.ClassFile.FieldType.int)) ∈ tb := tb_at 1821 (by decide +kernel) (by decide +kernel)
theorem wd_1830 : (Jvm.Cond.methodLink "SleepersModel" (397 : Nat) ({ cls := "SleepersModel", name := "givenCell", desc := "(I)V" } : Jvm.MethodName)) ∈ tb := tb_at 1830 (by decide +kernel) (by decide +kernel)
theorem wd_1832 : (Jvm.Cond.instanceMethod ({ cls := "SleepersModel", name := "givenCell", desc := "(I)V" } : Jvm.MethodName)) ∈ tb := tb_at 1832 (by decide +kernel) (by decide +kernel)
theorem wd_1833 : (Jvm.Cond.code ({ cls := "SleepersModel", name := "givenCell", desc := "(I)V" } : Jvm.MethodName) prog_14_method_22_code (2 : Nat) (Option.none : Option Jvm.ClassFile.FieldType)) ∈ tb := tb_at 1833 (by decide +kernel) (by decide +kernel)
theorem wd_1838 : (Jvm.Cond.methodLink "SleepersModel" (421 : Nat) ({ cls := "SleepersModel", name := "act", desc := "(II)I" } : Jvm.MethodName)) ∈ tb := tb_at 1838 (by decide +kernel) (by decide +kernel)
theorem wd_1840 : (Jvm.Cond.instanceMethod ({ cls := "SleepersModel", name := "act", desc := "(II)I" } : Jvm.MethodName)) ∈ tb := tb_at 1840 (by decide +kernel) (by decide +kernel)
theorem wd_1841 : (Jvm.Cond.code ({ cls := "SleepersModel", name := "act", desc := "(II)I" } : Jvm.MethodName) prog_14_method_24_code (3 : Nat) (Option.some Jvm.ClassFile.FieldType.int)) ∈ tb := tb_at 1841 (by decide +kernel) (by decide +kernel)
theorem wd_1862 : (Jvm.Cond.methodLink "SleepersModel" (431 : Nat) ({ cls := "SleepersModel", name := "emit", desc := "(III)I" } : Jvm.MethodName)) ∈ tb := tb_at 1862 (by decide +kernel) (by decide +kernel)
theorem wd_1864 : (Jvm.Cond.instanceMethod ({ cls := "SleepersModel", name := "emit", desc := "(III)I" } : Jvm.MethodName)) ∈ tb := tb_at 1864 (by decide +kernel) (by decide +kernel)
theorem wd_1865 : (Jvm.Cond.code ({ cls := "SleepersModel", name := "emit", desc := "(III)I" } : Jvm.MethodName) prog_14_method_28_code (4 : Nat) (Option.some Jvm.ClassFile.FieldType.int)) ∈ tb := tb_at 1865 (by decide +kernel) (by decide +kernel)
theorem wd_1866 : (Jvm.Cond.methodLink "SleepersModel" (460 : Nat) ({ cls := "SleepersModel", name := "then", desc := "(II)I" } : Jvm.MethodName)) ∈ tb := tb_at 1866 (by decide +kernel) (by decide +kernel)
theorem wd_1868 : (Jvm.Cond.instanceMethod ({ cls := "SleepersModel", name := "then", desc := "(II)I" } : Jvm.MethodName)) ∈ tb := tb_at 1868 (by decide +kernel) (by decide +kernel)
theorem wd_1869 : (Jvm.Cond.code ({ cls := "SleepersModel", name := "then", desc := "(II)I" } : Jvm.MethodName) prog_14_method_26_code (4 : Nat) (Option.some Jvm.ClassFile.FieldType.int)) ∈ tb := tb_at 1869 (by decide +kernel) (by decide +kernel)
theorem wd_1870 : (Jvm.Cond.methodLink "SleepersModel" (435 : Nat) ({ cls := "SleepersModel", name := "lead", desc := "(I)V" } : Jvm.MethodName)) ∈ tb := tb_at 1870 (by decide +kernel) (by decide +kernel)
theorem wd_1872 : (Jvm.Cond.instanceMethod ({ cls := "SleepersModel", name := "lead", desc := "(I)V" } : Jvm.MethodName)) ∈ tb := tb_at 1872 (by decide +kernel) (by decide +kernel)
theorem wd_1873 : (Jvm.Cond.code ({ cls := "SleepersModel", name := "lead", desc := "(I)V" } : Jvm.MethodName) prog_14_method_25_code (2 : Nat) (Option.none : Option Jvm.ClassFile.FieldType)) ∈ tb := tb_at 1873 (by decide +kernel) (by decide +kernel)
theorem wd_1886 : (Jvm.Cond.methodLink "SleepersModel" (507 : Nat) ({ cls := "SleepersModel", name := "part", desc := "()V" } : Jvm.MethodName)) ∈ tb := tb_at 1886 (by decide +kernel) (by decide +kernel)
theorem wd_1888 : (Jvm.Cond.instanceMethod ({ cls := "SleepersModel", name := "part", desc := "()V" } : Jvm.MethodName)) ∈ tb := tb_at 1888 (by decide +kernel) (by decide +kernel)
theorem wd_1889 : (Jvm.Cond.code ({ cls := "SleepersModel", name := "part", desc := "()V" } : Jvm.MethodName) prog_14_method_47_code (1 : Nat) (Option.none : Option Jvm.ClassFile.FieldType)) ∈ tb := tb_at 1889 (by decide +kernel) (by decide +kernel)
theorem sl_X12_act : Cond.selects RX12 yX12_act yX12_act ∈ tb := sl_of (y := ⟨"SleepersModel", "act", "(II)I"⟩) (n := 128) (by decide +kernel) (by decide +kernel)
theorem sl_X12_emit : Cond.selects RX12 yX12_emit yX12_emit ∈ tb := sl_of (y := ⟨"SleepersModel", "emit", "(III)I"⟩) (n := 128) (by decide +kernel) (by decide +kernel)
theorem sl_X12_find : Cond.selects RX12 yX12_find yX12_find ∈ tb := sl_of (y := ⟨"SleepersModel", "find", "([JIIJ)I"⟩) (n := 128) (by decide +kernel) (by decide +kernel)
theorem sl_X12_givenCell : Cond.selects RX12 yX12_givenCell yX12_givenCell ∈ tb := sl_of (y := ⟨"SleepersModel", "givenCell", "(I)V"⟩) (n := 128) (by decide +kernel) (by decide +kernel)
theorem sl_X12_isName : Cond.selects RX12 yX12_isName yX12_isName ∈ tb := sl_of (y := ⟨"SleepersModel", "isName", "()Z"⟩) (n := 128) (by decide +kernel) (by decide +kernel)
theorem sl_X12_lead : Cond.selects RX12 yX12_lead yX12_lead ∈ tb := sl_of (y := ⟨"SleepersModel", "lead", "(I)V"⟩) (n := 128) (by decide +kernel) (by decide +kernel)
theorem sl_X12_part : Cond.selects RX12 yX12_part yX12_part ∈ tb := sl_of (y := ⟨"SleepersModel", "part", "()V"⟩) (n := 128) (by decide +kernel) (by decide +kernel)
theorem sl_X12_then : Cond.selects RX12 yX12_then yX12_then ∈ tb := sl_of (y := ⟨"SleepersModel", "then", "(II)I"⟩) (n := 128) (by decide +kernel) (by decide +kernel)
theorem sl_X12_wrong : Cond.selects RX12 yX12_wrong yX12_wrong ∈ tb := sl_of (y := ⟨"SleepersModel", "wrong", "(I)V"⟩) (n := 128) (by decide +kernel) (by decide +kernel)
theorem dX12_find_0 : decode cX12_find 0 = .ok (.iconst (-1), 1) := by decide +kernel
theorem dX12_find_1 : decode cX12_find 1 = .ok (.istore 6, 2) := by decide +kernel
theorem dX12_find_3 : decode cX12_find 3 = .ok (.iconst 0, 1) := by decide +kernel
theorem dX12_find_4 : decode cX12_find 4 = .ok (.istore 7, 2) := by decide +kernel
theorem dX12_find_6 : decode cX12_find 6 = .ok (.iload 7, 2) := by decide +kernel
theorem dX12_find_8 : decode cX12_find 8 = .ok (.iload_n 3, 1) := by decide +kernel
theorem dX12_find_9 : decode cX12_find 9 = .ok (.if_icmp .ge 30, 3) := by decide +kernel
theorem dX12_find_12 : decode cX12_find 12 = .ok (.aload_n 1, 1) := by decide +kernel
theorem dX12_find_13 : decode cX12_find 13 = .ok (.iload_n 2, 1) := by decide +kernel
theorem dX12_find_14 : decode cX12_find 14 = .ok (.iload 7, 2) := by decide +kernel
theorem dX12_find_16 : decode cX12_find 16 = .ok (.iadd, 1) := by decide +kernel
theorem dX12_find_17 : decode cX12_find 17 = .ok (.laload, 1) := by decide +kernel
theorem dX12_find_18 : decode cX12_find 18 = .ok (.lload 4, 2) := by decide +kernel
theorem dX12_find_20 : decode cX12_find 20 = .ok (.lcmp, 1) := by decide +kernel
theorem dX12_find_21 : decode cX12_find 21 = .ok (.ifCond .ne 8, 3) := by decide +kernel
theorem dX12_find_24 : decode cX12_find 24 = .ok (.iload 7, 2) := by decide +kernel
theorem dX12_find_26 : decode cX12_find 26 = .ok (.goto 5, 3) := by decide +kernel
theorem dX12_find_29 : decode cX12_find 29 = .ok (.iload 6, 2) := by decide +kernel
theorem dX12_find_31 : decode cX12_find 31 = .ok (.istore 6, 2) := by decide +kernel
theorem dX12_find_33 : decode cX12_find 33 = .ok (.iinc 7 1, 3) := by decide +kernel
theorem dX12_find_36 : decode cX12_find 36 = .ok (.goto (-30), 3) := by decide +kernel
theorem dX12_find_39 : decode cX12_find 39 = .ok (.iload 6, 2) := by decide +kernel
theorem dX12_find_41 : decode cX12_find 41 = .ok (.ireturn, 1) := by decide +kernel
theorem dX12_givenCell_0 : decode cX12_givenCell 0 = .ok (.aload_n 0, 1) := by decide +kernel
theorem dX12_givenCell_1 : decode cX12_givenCell 1 = .ok (.getfield 337, 3) := by decide +kernel
theorem dX12_givenCell_4 : decode cX12_givenCell 4 = .ok (.ifCond .ne 18, 3) := by decide +kernel
theorem dX12_givenCell_7 : decode cX12_givenCell 7 = .ok (.aload_n 0, 1) := by decide +kernel
theorem dX12_givenCell_8 : decode cX12_givenCell 8 = .ok (.invokevirtual 387, 3) := by decide +kernel
theorem dX12_givenCell_11 : decode cX12_givenCell 11 = .ok (.ifCond .ne 11, 3) := by decide +kernel
theorem dX12_givenCell_14 : decode cX12_givenCell 14 = .ok (.aload_n 0, 1) := by decide +kernel
theorem dX12_givenCell_15 : decode cX12_givenCell 15 = .ok (.iconst 1, 1) := by decide +kernel
theorem dX12_givenCell_16 : decode cX12_givenCell 16 = .ok (.invokevirtual 343, 3) := by decide +kernel
theorem dX12_givenCell_19 : decode cX12_givenCell 19 = .ok (.goto 71, 3) := by decide +kernel
theorem dX12_givenCell_22 : decode cX12_givenCell 22 = .ok (.aload_n 0, 1) := by decide +kernel
theorem dX12_givenCell_23 : decode cX12_givenCell 23 = .ok (.getfield 337, 3) := by decide +kernel
theorem dX12_givenCell_26 : decode cX12_givenCell 26 = .ok (.ifCond .ne 41, 3) := by decide +kernel
theorem dX12_givenCell_29 : decode cX12_givenCell 29 = .ok (.aload_n 0, 1) := by decide +kernel
theorem dX12_givenCell_30 : decode cX12_givenCell 30 = .ok (.aload_n 0, 1) := by decide +kernel
theorem dX12_givenCell_31 : decode cX12_givenCell 31 = .ok (.getfield 55, 3) := by decide +kernel
theorem dX12_givenCell_34 : decode cX12_givenCell 34 = .ok (.bipush 12, 2) := by decide +kernel
theorem dX12_givenCell_36 : decode cX12_givenCell 36 = .ok (.iload_n 1, 1) := by decide +kernel
theorem dX12_givenCell_37 : decode cX12_givenCell 37 = .ok (.imul, 1) := by decide +kernel
theorem dX12_givenCell_38 : decode cX12_givenCell 38 = .ok (.aload_n 0, 1) := by decide +kernel
theorem dX12_givenCell_39 : decode cX12_givenCell 39 = .ok (.getfield 52, 3) := by decide +kernel
theorem dX12_givenCell_42 : decode cX12_givenCell 42 = .ok (.iload_n 1, 1) := by decide +kernel
theorem dX12_givenCell_43 : decode cX12_givenCell 43 = .ok (.iaload, 1) := by decide +kernel
theorem dX12_givenCell_44 : decode cX12_givenCell 44 = .ok (.aload_n 0, 1) := by decide +kernel
theorem dX12_givenCell_45 : decode cX12_givenCell 45 = .ok (.getfield 30, 3) := by decide +kernel
theorem dX12_givenCell_48 : decode cX12_givenCell 48 = .ok (.aload_n 0, 1) := by decide +kernel
theorem dX12_givenCell_49 : decode cX12_givenCell 49 = .ok (.getfield 334, 3) := by decide +kernel
theorem dX12_givenCell_52 : decode cX12_givenCell 52 = .ok (.laload, 1) := by decide +kernel
theorem dX12_givenCell_53 : decode cX12_givenCell 53 = .ok (.invokevirtual 380, 3) := by decide +kernel
theorem dX12_givenCell_56 : decode cX12_givenCell 56 = .ok (.ifCond .lt 11, 3) := by decide +kernel
theorem dX12_givenCell_59 : decode cX12_givenCell 59 = .ok (.aload_n 0, 1) := by decide +kernel
theorem dX12_givenCell_60 : decode cX12_givenCell 60 = .ok (.iconst 3, 1) := by decide +kernel
theorem dX12_givenCell_61 : decode cX12_givenCell 61 = .ok (.invokevirtual 343, 3) := by decide +kernel
theorem dX12_givenCell_64 : decode cX12_givenCell 64 = .ok (.goto 26, 3) := by decide +kernel
theorem dX12_givenCell_67 : decode cX12_givenCell 67 = .ok (.aload_n 0, 1) := by decide +kernel
theorem dX12_givenCell_68 : decode cX12_givenCell 68 = .ok (.getfield 337, 3) := by decide +kernel
theorem dX12_givenCell_71 : decode cX12_givenCell 71 = .ok (.ifCond .ne 19, 3) := by decide +kernel
theorem dX12_givenCell_74 : decode cX12_givenCell 74 = .ok (.aload_n 0, 1) := by decide +kernel
theorem dX12_givenCell_75 : decode cX12_givenCell 75 = .ok (.getfield 52, 3) := by decide +kernel
theorem dX12_givenCell_78 : decode cX12_givenCell 78 = .ok (.iload_n 1, 1) := by decide +kernel
theorem dX12_givenCell_79 : decode cX12_givenCell 79 = .ok (.iaload, 1) := by decide +kernel
theorem dX12_givenCell_80 : decode cX12_givenCell 80 = .ok (.bipush 12, 2) := by decide +kernel
theorem dX12_givenCell_82 : decode cX12_givenCell 82 = .ok (.if_icmp .ne 8, 3) := by decide +kernel
theorem dX12_givenCell_85 : decode cX12_givenCell 85 = .ok (.aload_n 0, 1) := by decide +kernel
theorem dX12_givenCell_86 : decode cX12_givenCell 86 = .ok (.iconst 5, 1) := by decide +kernel
theorem dX12_givenCell_87 : decode cX12_givenCell 87 = .ok (.invokevirtual 343, 3) := by decide +kernel
theorem dX12_givenCell_90 : decode cX12_givenCell 90 = .ok (.aload_n 0, 1) := by decide +kernel
theorem dX12_givenCell_91 : decode cX12_givenCell 91 = .ok (.getfield 337, 3) := by decide +kernel
theorem dX12_givenCell_94 : decode cX12_givenCell 94 = .ok (.ifCond .ne 38, 3) := by decide +kernel
theorem dX12_givenCell_97 : decode cX12_givenCell 97 = .ok (.aload_n 0, 1) := by decide +kernel
theorem dX12_givenCell_98 : decode cX12_givenCell 98 = .ok (.getfield 55, 3) := by decide +kernel
theorem dX12_givenCell_101 : decode cX12_givenCell 101 = .ok (.bipush 12, 2) := by decide +kernel
theorem dX12_givenCell_103 : decode cX12_givenCell 103 = .ok (.iload_n 1, 1) := by decide +kernel
theorem dX12_givenCell_104 : decode cX12_givenCell 104 = .ok (.imul, 1) := by decide +kernel
theorem dX12_givenCell_105 : decode cX12_givenCell 105 = .ok (.aload_n 0, 1) := by decide +kernel
theorem dX12_givenCell_106 : decode cX12_givenCell 106 = .ok (.getfield 52, 3) := by decide +kernel
theorem dX12_givenCell_109 : decode cX12_givenCell 109 = .ok (.iload_n 1, 1) := by decide +kernel
theorem dX12_givenCell_110 : decode cX12_givenCell 110 = .ok (.iaload, 1) := by decide +kernel
theorem dX12_givenCell_111 : decode cX12_givenCell 111 = .ok (.iadd, 1) := by decide +kernel
theorem dX12_givenCell_112 : decode cX12_givenCell 112 = .ok (.aload_n 0, 1) := by decide +kernel
theorem dX12_givenCell_113 : decode cX12_givenCell 113 = .ok (.getfield 30, 3) := by decide +kernel
theorem dX12_givenCell_116 : decode cX12_givenCell 116 = .ok (.aload_n 0, 1) := by decide +kernel
theorem dX12_givenCell_117 : decode cX12_givenCell 117 = .ok (.getfield 334, 3) := by decide +kernel
theorem dX12_givenCell_120 : decode cX12_givenCell 120 = .ok (.laload, 1) := by decide +kernel
theorem dX12_givenCell_121 : decode cX12_givenCell 121 = .ok (.lastore, 1) := by decide +kernel
theorem dX12_givenCell_122 : decode cX12_givenCell 122 = .ok (.aload_n 0, 1) := by decide +kernel
theorem dX12_givenCell_123 : decode cX12_givenCell 123 = .ok (.getfield 52, 3) := by decide +kernel
theorem dX12_givenCell_126 : decode cX12_givenCell 126 = .ok (.iload_n 1, 1) := by decide +kernel
theorem dX12_givenCell_127 : decode cX12_givenCell 127 = .ok (.dup2, 1) := by decide +kernel
theorem dX12_givenCell_128 : decode cX12_givenCell 128 = .ok (.iaload, 1) := by decide +kernel
theorem dX12_givenCell_129 : decode cX12_givenCell 129 = .ok (.iconst 1, 1) := by decide +kernel
theorem dX12_givenCell_130 : decode cX12_givenCell 130 = .ok (.iadd, 1) := by decide +kernel
theorem dX12_givenCell_131 : decode cX12_givenCell 131 = .ok (.iastore, 1) := by decide +kernel
theorem dX12_givenCell_132 : decode cX12_givenCell 132 = .ok (.aload_n 0, 1) := by decide +kernel
theorem dX12_givenCell_133 : decode cX12_givenCell 133 = .ok (.dup, 1) := by decide +kernel
theorem dX12_givenCell_134 : decode cX12_givenCell 134 = .ok (.getfield 334, 3) := by decide +kernel
theorem dX12_givenCell_137 : decode cX12_givenCell 137 = .ok (.iconst 1, 1) := by decide +kernel
theorem dX12_givenCell_138 : decode cX12_givenCell 138 = .ok (.iadd, 1) := by decide +kernel
theorem dX12_givenCell_139 : decode cX12_givenCell 139 = .ok (.putfield 334, 3) := by decide +kernel
theorem dX12_givenCell_142 : decode cX12_givenCell 142 = .ok (.return_, 1) := by decide +kernel
theorem dX12_lead_0 : decode cX12_lead 0 = .ok (.aload_n 0, 1) := by decide +kernel
theorem dX12_lead_1 : decode cX12_lead 1 = .ok (.getfield 425, 3) := by decide +kernel
theorem dX12_lead_4 : decode cX12_lead 4 = .ok (.ifCond .ge 4, 3) := by decide +kernel
theorem dX12_lead_7 : decode cX12_lead 7 = .ok (.return_, 1) := by decide +kernel
theorem dX12_lead_8 : decode cX12_lead 8 = .ok (.aload_n 0, 1) := by decide +kernel
theorem dX12_lead_9 : decode cX12_lead 9 = .ok (.getfield 79, 3) := by decide +kernel
theorem dX12_lead_12 : decode cX12_lead 12 = .ok (.aload_n 0, 1) := by decide +kernel
theorem dX12_lead_13 : decode cX12_lead 13 = .ok (.getfield 425, 3) := by decide +kernel
theorem dX12_lead_16 : decode cX12_lead 16 = .ok (.iaload, 1) := by decide +kernel
theorem dX12_lead_17 : decode cX12_lead 17 = .ok (.ifCond .ge 16, 3) := by decide +kernel
theorem dX12_lead_20 : decode cX12_lead 20 = .ok (.aload_n 0, 1) := by decide +kernel
theorem dX12_lead_21 : decode cX12_lead 21 = .ok (.getfield 79, 3) := by decide +kernel
theorem dX12_lead_24 : decode cX12_lead 24 = .ok (.aload_n 0, 1) := by decide +kernel
theorem dX12_lead_25 : decode cX12_lead 25 = .ok (.getfield 425, 3) := by decide +kernel
theorem dX12_lead_28 : decode cX12_lead 28 = .ok (.iload_n 1, 1) := by decide +kernel
theorem dX12_lead_29 : decode cX12_lead 29 = .ok (.iastore, 1) := by decide +kernel
theorem dX12_lead_30 : decode cX12_lead 30 = .ok (.goto 13, 3) := by decide +kernel
theorem dX12_lead_33 : decode cX12_lead 33 = .ok (.aload_n 0, 1) := by decide +kernel
theorem dX12_lead_34 : decode cX12_lead 34 = .ok (.getfield 82, 3) := by decide +kernel
theorem dX12_lead_37 : decode cX12_lead 37 = .ok (.aload_n 0, 1) := by decide +kernel
theorem dX12_lead_38 : decode cX12_lead 38 = .ok (.getfield 425, 3) := by decide +kernel
theorem dX12_lead_41 : decode cX12_lead 41 = .ok (.iload_n 1, 1) := by decide +kernel
theorem dX12_lead_42 : decode cX12_lead 42 = .ok (.iastore, 1) := by decide +kernel
theorem dX12_lead_43 : decode cX12_lead 43 = .ok (.return_, 1) := by decide +kernel
theorem dX12_product_0 : decode cX12_product 0 = .ok (.aload_n 0, 1) := by decide +kernel
theorem dX12_product_1 : decode cX12_product 1 = .ok (.invokevirtual 507, 3) := by decide +kernel
theorem dX12_product_4 : decode cX12_product 4 = .ok (.aload_n 0, 1) := by decide +kernel
theorem dX12_product_5 : decode cX12_product 5 = .ok (.bipush 42, 2) := by decide +kernel
theorem dX12_product_7 : decode cX12_product 7 = .ok (.invokevirtual 340, 3) := by decide +kernel
theorem dX12_product_10 : decode cX12_product 10 = .ok (.ifCond .ne 21, 3) := by decide +kernel
theorem dX12_product_13 : decode cX12_product 13 = .ok (.aload_n 0, 1) := by decide +kernel
theorem dX12_product_14 : decode cX12_product 14 = .ok (.bipush 47, 2) := by decide +kernel
theorem dX12_product_16 : decode cX12_product 16 = .ok (.invokevirtual 340, 3) := by decide +kernel
theorem dX12_product_19 : decode cX12_product 19 = .ok (.ifCond .ne 12, 3) := by decide +kernel
theorem dX12_product_22 : decode cX12_product 22 = .ok (.aload_n 0, 1) := by decide +kernel
theorem dX12_product_23 : decode cX12_product 23 = .ok (.bipush 37, 2) := by decide +kernel
theorem dX12_product_25 : decode cX12_product 25 = .ok (.invokevirtual 340, 3) := by decide +kernel
theorem dX12_product_28 : decode cX12_product 28 = .ok (.ifCond .eq 72, 3) := by decide +kernel
theorem dX12_product_31 : decode cX12_product 31 = .ok (.aload_n 0, 1) := by decide +kernel
theorem dX12_product_32 : decode cX12_product 32 = .ok (.bipush 42, 2) := by decide +kernel
theorem dX12_product_34 : decode cX12_product 34 = .ok (.invokevirtual 340, 3) := by decide +kernel
theorem dX12_product_37 : decode cX12_product 37 = .ok (.ifCond .eq 8, 3) := by decide +kernel
theorem dX12_product_40 : decode cX12_product 40 = .ok (.bipush 6, 2) := by decide +kernel
theorem dX12_product_42 : decode cX12_product 42 = .ok (.goto 19, 3) := by decide +kernel
theorem dX12_product_45 : decode cX12_product 45 = .ok (.aload_n 0, 1) := by decide +kernel
theorem dX12_product_46 : decode cX12_product 46 = .ok (.bipush 47, 2) := by decide +kernel
theorem dX12_product_48 : decode cX12_product 48 = .ok (.invokevirtual 340, 3) := by decide +kernel
theorem dX12_product_51 : decode cX12_product 51 = .ok (.ifCond .eq 8, 3) := by decide +kernel
theorem dX12_product_54 : decode cX12_product 54 = .ok (.bipush 7, 2) := by decide +kernel
theorem dX12_product_56 : decode cX12_product 56 = .ok (.goto 5, 3) := by decide +kernel
theorem dX12_product_59 : decode cX12_product 59 = .ok (.bipush 8, 2) := by decide +kernel
theorem dX12_product_61 : decode cX12_product 61 = .ok (.istore_n 1, 1) := by decide +kernel
theorem dX12_product_62 : decode cX12_product 62 = .ok (.aload_n 0, 1) := by decide +kernel
theorem dX12_product_63 : decode cX12_product 63 = .ok (.dup, 1) := by decide +kernel
theorem dX12_product_64 : decode cX12_product 64 = .ok (.getfield 334, 3) := by decide +kernel
theorem dX12_product_67 : decode cX12_product 67 = .ok (.iconst 1, 1) := by decide +kernel
theorem dX12_product_68 : decode cX12_product 68 = .ok (.iadd, 1) := by decide +kernel
theorem dX12_product_69 : decode cX12_product 69 = .ok (.putfield 334, 3) := by decide +kernel
theorem dX12_product_72 : decode cX12_product 72 = .ok (.aload_n 0, 1) := by decide +kernel
theorem dX12_product_73 : decode cX12_product 73 = .ok (.invokevirtual 507, 3) := by decide +kernel
theorem dX12_product_76 : decode cX12_product 76 = .ok (.aload_n 0, 1) := by decide +kernel
theorem dX12_product_77 : decode cX12_product 77 = .ok (.iload_n 1, 1) := by decide +kernel
theorem dX12_product_78 : decode cX12_product 78 = .ok (.iconst 0, 1) := by decide +kernel
theorem dX12_product_79 : decode cX12_product 79 = .ok (.iconst 0, 1) := by decide +kernel
theorem dX12_product_80 : decode cX12_product 80 = .ok (.invokevirtual 431, 3) := by decide +kernel
theorem dX12_product_83 : decode cX12_product 83 = .ok (.istore_n 2, 1) := by decide +kernel
theorem dX12_product_84 : decode cX12_product 84 = .ok (.iload_n 1, 1) := by decide +kernel
theorem dX12_product_85 : decode cX12_product 85 = .ok (.bipush 6, 2) := by decide +kernel
theorem dX12_product_87 : decode cX12_product 87 = .ok (.if_icmp .eq 10, 3) := by decide +kernel
theorem dX12_product_90 : decode cX12_product 90 = .ok (.aload_n 0, 1) := by decide +kernel
theorem dX12_product_91 : decode cX12_product 91 = .ok (.iconst 4, 1) := by decide +kernel
theorem dX12_product_92 : decode cX12_product 92 = .ok (.iconst 0, 1) := by decide +kernel
theorem dX12_product_93 : decode cX12_product 93 = .ok (.invokevirtual 460, 3) := by decide +kernel
theorem dX12_product_96 : decode cX12_product 96 = .ok (.istore_n 2, 1) := by decide +kernel
theorem dX12_product_97 : decode cX12_product 97 = .ok (.goto (-93), 3) := by decide +kernel
theorem dX12_product_100 : decode cX12_product 100 = .ok (.return_, 1) := by decide +kernel
theorem dX12_takeCell_0 : decode cX12_takeCell 0 = .ok (.aload_n 0, 1) := by decide +kernel
theorem dX12_takeCell_1 : decode cX12_takeCell 1 = .ok (.getfield 337, 3) := by decide +kernel
theorem dX12_takeCell_4 : decode cX12_takeCell 4 = .ok (.ifCond .ne 15, 3) := by decide +kernel
theorem dX12_takeCell_7 : decode cX12_takeCell 7 = .ok (.aload_n 0, 1) := by decide +kernel
theorem dX12_takeCell_8 : decode cX12_takeCell 8 = .ok (.invokevirtual 387, 3) := by decide +kernel
theorem dX12_takeCell_11 : decode cX12_takeCell 11 = .ok (.ifCond .ne 8, 3) := by decide +kernel
theorem dX12_takeCell_14 : decode cX12_takeCell 14 = .ok (.aload_n 0, 1) := by decide +kernel
theorem dX12_takeCell_15 : decode cX12_takeCell 15 = .ok (.iconst 1, 1) := by decide +kernel
theorem dX12_takeCell_16 : decode cX12_takeCell 16 = .ok (.invokevirtual 343, 3) := by decide +kernel
theorem dX12_takeCell_19 : decode cX12_takeCell 19 = .ok (.aload_n 0, 1) := by decide +kernel
theorem dX12_takeCell_20 : decode cX12_takeCell 20 = .ok (.getfield 337, 3) := by decide +kernel
theorem dX12_takeCell_23 : decode cX12_takeCell 23 = .ok (.ifCond .ne 39, 3) := by decide +kernel
theorem dX12_takeCell_26 : decode cX12_takeCell 26 = .ok (.aload_n 0, 1) := by decide +kernel
theorem dX12_takeCell_27 : decode cX12_takeCell 27 = .ok (.aload_n 0, 1) := by decide +kernel
theorem dX12_takeCell_28 : decode cX12_takeCell 28 = .ok (.getfield 55, 3) := by decide +kernel
theorem dX12_takeCell_31 : decode cX12_takeCell 31 = .ok (.bipush 12, 2) := by decide +kernel
theorem dX12_takeCell_33 : decode cX12_takeCell 33 = .ok (.aload_n 0, 1) := by decide +kernel
theorem dX12_takeCell_34 : decode cX12_takeCell 34 = .ok (.getfield 391, 3) := by decide +kernel
theorem dX12_takeCell_37 : decode cX12_takeCell 37 = .ok (.imul, 1) := by decide +kernel
theorem dX12_takeCell_38 : decode cX12_takeCell 38 = .ok (.aload_n 0, 1) := by decide +kernel
theorem dX12_takeCell_39 : decode cX12_takeCell 39 = .ok (.getfield 52, 3) := by decide +kernel
theorem dX12_takeCell_42 : decode cX12_takeCell 42 = .ok (.aload_n 0, 1) := by decide +kernel
theorem dX12_takeCell_43 : decode cX12_takeCell 43 = .ok (.getfield 391, 3) := by decide +kernel
theorem dX12_takeCell_46 : decode cX12_takeCell 46 = .ok (.iaload, 1) := by decide +kernel
theorem dX12_takeCell_47 : decode cX12_takeCell 47 = .ok (.aload_n 0, 1) := by decide +kernel
theorem dX12_takeCell_48 : decode cX12_takeCell 48 = .ok (.getfield 30, 3) := by decide +kernel
theorem dX12_takeCell_51 : decode cX12_takeCell 51 = .ok (.aload_n 0, 1) := by decide +kernel
theorem dX12_takeCell_52 : decode cX12_takeCell 52 = .ok (.getfield 334, 3) := by decide +kernel
theorem dX12_takeCell_55 : decode cX12_takeCell 55 = .ok (.laload, 1) := by decide +kernel
theorem dX12_takeCell_56 : decode cX12_takeCell 56 = .ok (.invokevirtual 380, 3) := by decide +kernel
theorem dX12_takeCell_59 : decode cX12_takeCell 59 = .ok (.goto 4, 3) := by decide +kernel
theorem dX12_takeCell_62 : decode cX12_takeCell 62 = .ok (.iconst (-1), 1) := by decide +kernel
theorem dX12_takeCell_63 : decode cX12_takeCell 63 = .ok (.istore_n 1, 1) := by decide +kernel
theorem dX12_takeCell_64 : decode cX12_takeCell 64 = .ok (.aload_n 0, 1) := by decide +kernel
theorem dX12_takeCell_65 : decode cX12_takeCell 65 = .ok (.getfield 337, 3) := by decide +kernel
theorem dX12_takeCell_68 : decode cX12_takeCell 68 = .ok (.ifCond .ne 28, 3) := by decide +kernel
theorem dX12_takeCell_71 : decode cX12_takeCell 71 = .ok (.iload_n 1, 1) := by decide +kernel
theorem dX12_takeCell_72 : decode cX12_takeCell 72 = .ok (.ifCond .ge 24, 3) := by decide +kernel
theorem dX12_takeCell_75 : decode cX12_takeCell 75 = .ok (.aload_n 0, 1) := by decide +kernel
theorem dX12_takeCell_76 : decode cX12_takeCell 76 = .ok (.getfield 52, 3) := by decide +kernel
theorem dX12_takeCell_79 : decode cX12_takeCell 79 = .ok (.aload_n 0, 1) := by decide +kernel
theorem dX12_takeCell_80 : decode cX12_takeCell 80 = .ok (.getfield 391, 3) := by decide +kernel
theorem dX12_takeCell_83 : decode cX12_takeCell 83 = .ok (.iaload, 1) := by decide +kernel
theorem dX12_takeCell_84 : decode cX12_takeCell 84 = .ok (.istore_n 1, 1) := by decide +kernel
theorem dX12_takeCell_85 : decode cX12_takeCell 85 = .ok (.aload_n 0, 1) := by decide +kernel
theorem dX12_takeCell_86 : decode cX12_takeCell 86 = .ok (.aload_n 0, 1) := by decide +kernel
theorem dX12_takeCell_87 : decode cX12_takeCell 87 = .ok (.getfield 391, 3) := by decide +kernel
theorem dX12_takeCell_90 : decode cX12_takeCell 90 = .ok (.invokevirtual 397, 3) := by decide +kernel
theorem dX12_takeCell_93 : decode cX12_takeCell 93 = .ok (.goto 13, 3) := by decide +kernel
theorem dX12_takeCell_96 : decode cX12_takeCell 96 = .ok (.aload_n 0, 1) := by decide +kernel
theorem dX12_takeCell_97 : decode cX12_takeCell 97 = .ok (.dup, 1) := by decide +kernel
theorem dX12_takeCell_98 : decode cX12_takeCell 98 = .ok (.getfield 334, 3) := by decide +kernel
theorem dX12_takeCell_101 : decode cX12_takeCell 101 = .ok (.iconst 1, 1) := by decide +kernel
theorem dX12_takeCell_102 : decode cX12_takeCell 102 = .ok (.iadd, 1) := by decide +kernel
theorem dX12_takeCell_103 : decode cX12_takeCell 103 = .ok (.putfield 334, 3) := by decide +kernel
theorem dX12_takeCell_106 : decode cX12_takeCell 106 = .ok (.iload_n 1, 1) := by decide +kernel
theorem dX12_takeCell_107 : decode cX12_takeCell 107 = .ok (.ireturn, 1) := by decide +kernel
theorem dX12_takeSign_0 : decode cX12_takeSign 0 = .ok (.aload_n 0, 1) := by decide +kernel
theorem dX12_takeSign_1 : decode cX12_takeSign 1 = .ok (.iload_n 1, 1) := by decide +kernel
theorem dX12_takeSign_2 : decode cX12_takeSign 2 = .ok (.invokevirtual 340, 3) := by decide +kernel
theorem dX12_takeSign_5 : decode cX12_takeSign 5 = .ok (.ifCond .eq 16, 3) := by decide +kernel
theorem dX12_takeSign_8 : decode cX12_takeSign 8 = .ok (.aload_n 0, 1) := by decide +kernel
theorem dX12_takeSign_9 : decode cX12_takeSign 9 = .ok (.dup, 1) := by decide +kernel
theorem dX12_takeSign_10 : decode cX12_takeSign 10 = .ok (.getfield 334, 3) := by decide +kernel
theorem dX12_takeSign_13 : decode cX12_takeSign 13 = .ok (.iconst 1, 1) := by decide +kernel
theorem dX12_takeSign_14 : decode cX12_takeSign 14 = .ok (.iadd, 1) := by decide +kernel
theorem dX12_takeSign_15 : decode cX12_takeSign 15 = .ok (.putfield 334, 3) := by decide +kernel
theorem dX12_takeSign_18 : decode cX12_takeSign 18 = .ok (.goto 8, 3) := by decide +kernel
theorem dX12_takeSign_21 : decode cX12_takeSign 21 = .ok (.aload_n 0, 1) := by decide +kernel
theorem dX12_takeSign_22 : decode cX12_takeSign 22 = .ok (.iconst 1, 1) := by decide +kernel
theorem dX12_takeSign_23 : decode cX12_takeSign 23 = .ok (.invokevirtual 343, 3) := by decide +kernel
theorem dX12_takeSign_26 : decode cX12_takeSign 26 = .ok (.return_, 1) := by decide +kernel
theorem dX12_then_0 : decode cX12_then 0 = .ok (.aload_n 0, 1) := by decide +kernel
theorem dX12_then_1 : decode cX12_then 1 = .ok (.iload_n 1, 1) := by decide +kernel
theorem dX12_then_2 : decode cX12_then 2 = .ok (.iload_n 2, 1) := by decide +kernel
theorem dX12_then_3 : decode cX12_then 3 = .ok (.invokevirtual 421, 3) := by decide +kernel
theorem dX12_then_6 : decode cX12_then 6 = .ok (.istore_n 3, 1) := by decide +kernel
theorem dX12_then_7 : decode cX12_then 7 = .ok (.aload_n 0, 1) := by decide +kernel
theorem dX12_then_8 : decode cX12_then 8 = .ok (.iload_n 3, 1) := by decide +kernel
theorem dX12_then_9 : decode cX12_then 9 = .ok (.invokevirtual 435, 3) := by decide +kernel
theorem dX12_then_12 : decode cX12_then 12 = .ok (.aload_n 0, 1) := by decide +kernel
theorem dX12_then_13 : decode cX12_then 13 = .ok (.iload_n 3, 1) := by decide +kernel
theorem dX12_then_14 : decode cX12_then 14 = .ok (.putfield 425, 3) := by decide +kernel
theorem dX12_then_17 : decode cX12_then 17 = .ok (.iload_n 3, 1) := by decide +kernel
theorem dX12_then_18 : decode cX12_then 18 = .ok (.ireturn, 1) := by decide +kernel
theorem dX12_within_0 : decode cX12_within 0 = .ok (.iload_n 1, 1) := by decide +kernel
theorem dX12_within_1 : decode cX12_within 1 = .ok (.ifCond .ne 11, 3) := by decide +kernel
theorem dX12_within_4 : decode cX12_within 4 = .ok (.aload_n 0, 1) := by decide +kernel
theorem dX12_within_5 : decode cX12_within 5 = .ok (.iconst 1, 1) := by decide +kernel
theorem dX12_within_6 : decode cX12_within 6 = .ok (.invokevirtual 343, 3) := by decide +kernel
theorem dX12_within_9 : decode cX12_within 9 = .ok (.goto 17, 3) := by decide +kernel
theorem dX12_within_12 : decode cX12_within 12 = .ok (.aload_n 0, 1) := by decide +kernel
theorem dX12_within_13 : decode cX12_within 13 = .ok (.getfield 418, 3) := by decide +kernel
theorem dX12_within_16 : decode cX12_within 16 = .ok (.bipush 10, 2) := by decide +kernel
theorem dX12_within_18 : decode cX12_within 18 = .ok (.if_icmp .ne 8, 3) := by decide +kernel
theorem dX12_within_21 : decode cX12_within 21 = .ok (.aload_n 0, 1) := by decide +kernel
theorem dX12_within_22 : decode cX12_within 22 = .ok (.iconst 5, 1) := by decide +kernel
theorem dX12_within_23 : decode cX12_within 23 = .ok (.invokevirtual 343, 3) := by decide +kernel
theorem dX12_within_26 : decode cX12_within 26 = .ok (.aload_n 0, 1) := by decide +kernel
theorem dX12_within_27 : decode cX12_within 27 = .ok (.dup, 1) := by decide +kernel
theorem dX12_within_28 : decode cX12_within 28 = .ok (.getfield 418, 3) := by decide +kernel
theorem dX12_within_31 : decode cX12_within 31 = .ok (.iconst 1, 1) := by decide +kernel
theorem dX12_within_32 : decode cX12_within 32 = .ok (.iadd, 1) := by decide +kernel
theorem dX12_within_33 : decode cX12_within 33 = .ok (.putfield 418, 3) := by decide +kernel
theorem dX12_within_36 : decode cX12_within 36 = .ok (.return_, 1) := by decide +kernel
theorem dX12_wrong_0 : decode cX12_wrong 0 = .ok (.aload_n 0, 1) := by decide +kernel
theorem dX12_wrong_1 : decode cX12_wrong 1 = .ok (.getfield 337, 3) := by decide +kernel
theorem dX12_wrong_4 : decode cX12_wrong 4 = .ok (.ifCond .ne 21, 3) := by decide +kernel
theorem dX12_wrong_7 : decode cX12_wrong 7 = .ok (.aload_n 0, 1) := by decide +kernel
theorem dX12_wrong_8 : decode cX12_wrong 8 = .ok (.iload_n 1, 1) := by decide +kernel
theorem dX12_wrong_9 : decode cX12_wrong 9 = .ok (.bipush 16, 2) := by decide +kernel
theorem dX12_wrong_11 : decode cX12_wrong 11 = .ok (.aload_n 0, 1) := by decide +kernel
theorem dX12_wrong_12 : decode cX12_wrong 12 = .ok (.getfield 27, 3) := by decide +kernel
theorem dX12_wrong_15 : decode cX12_wrong 15 = .ok (.aload_n 0, 1) := by decide +kernel
theorem dX12_wrong_16 : decode cX12_wrong 16 = .ok (.getfield 334, 3) := by decide +kernel
theorem dX12_wrong_19 : decode cX12_wrong 19 = .ok (.iaload, 1) := by decide +kernel
theorem dX12_wrong_20 : decode cX12_wrong 20 = .ok (.imul, 1) := by decide +kernel
theorem dX12_wrong_21 : decode cX12_wrong 21 = .ok (.iadd, 1) := by decide +kernel
theorem dX12_wrong_22 : decode cX12_wrong 22 = .ok (.putfield 337, 3) := by decide +kernel
theorem dX12_wrong_25 : decode cX12_wrong 25 = .ok (.return_, 1) := by decide +kernel
def wp_find_r_31 (K : mS → Int32 → Prop) (k6 : Int32 × Int32 × Int64 × Int32 × Int32 × mS → Prop) (x2 : Int32) (x3 : Int32) (x4 : Int64) (x7 : Int32) (y0 : Int32) (S : mS) : Prop := ∀ z6 : Int32, z6 = x7 + 1 → k6 (x2, x3, x4, y0, z6, S)
def wp_find_r_6 (K : mS → Int32 → Prop) (k6 : Int32 × Int32 × Int64 × Int32 × Int32 × mS → Prop) (x2 : Int32) (x3 : Int32) (x4 : Int64) (x6 : Int32) (x7 : Int32) (S : mS) : Prop := ((x3 ≤ x7 → K S x6) ∧ (¬ x3 ≤ x7 → ∀ z2 : Int32, z2 = x2 + x7 → inR z2 24 ∧ ∀ z3 : Int64, z3 = S.2.2 6 (ix z2) → ∀ z4 : Int32, z4 = lg_cmp z3 x4 → ((¬ z4 = 0 → wp_find_r_31 K k6 x2 x3 x4 x7 x6 S) ∧ (z4 = 0 → wp_find_r_31 K k6 x2 x3 x4 x7 x7 S))))
def ls_find_r_6 (K : mS → Int32 → Prop) (k6 : Int32 × Int32 × Int64 × Int32 × Int32 × mS → Prop) (u : Int32 × Int32 × Int64 × Int32 × Int32 × mS) : Prop := wp_find_r_6 K k6 u.1 u.2.1 u.2.2.1 u.2.2.2.1 u.2.2.2.2.1 u.2.2.2.2.2
def wp_find_r (a1 : Int32) (a2 : Int32) (a3 : Int64) (S : mS) (K : mS → Int32 → Prop) : Prop := (∃ n9, it (ls_find_r_6 K) n9 (a1, a2, a3, -1, 0, S))
set_option maxHeartbeats 4000000 in
set_option maxRecDepth 100000 in
theorem ct_find_r (l : Launch) (S : mS) (a1 : Int32) (a2 : Int32) (a3 : Int64) (K : mS → Int32 → Prop) (h : wp_find_r a1 a2 a3 S K) : mMi l yX12_find cX12_find 8 (some .int) 0 0 (fun E => [.ref (E.2.2.1 6), .int a1, .int a2, .long a3]) S K := by
  refine mv_ofi (by decide) rfl (fun _ => Nat.le_of_ble_eq_true rfl) ?_
  intro E p e R s m args below meth c A ls Q hRf hRl hX hC hl hret
  have hx := hX.1.1
  have hb := hX.1.2.1
  have hown := hX.1.2.2.2.1
  have hts := hX.1.2.2.2.2
  have cut6 : ∀ (n6 : Nat) (x2 : Int32) (x3 : Int32) (x4 : Int64) (x6 : Int32) (x7 : Int32) (S : mS) (H : Heap) (locs : List Loc) (ls : Array Slot), it (ls_find_r_6 K) n6 (x2, x3, x4, x6, x7, S) → mC E A s.heap S H locs → lv_has ls 8 [(0, .ref E.2.1), (1, .ref (E.2.2.1 6)), (2, .int x2), (3, .int x3), (4, .long x4), (6, .int x6), (7, .int x7)] → W p l e R s m args below meth c H locs 0 0 Q (F0 m 6 ls []) := by
    intro n6
    induction n6 with
    | zero => intro x2 x3 x4 x6 x7 S H locs ls h hC hl; exact h.elim
    | succ n6 ih6 =>
      have cut31 : ∀ (x2 : Int32) (x3 : Int32) (x4 : Int64) (x7 : Int32) (y0 : Int32) (S : mS) (H : Heap) (locs : List Loc) (ls : Array Slot), wp_find_r_31 K (it (ls_find_r_6 K) n6) x2 x3 x4 x7 y0 S → mC E A s.heap S H locs → lv_has ls 8 [(0, .ref E.2.1), (1, .ref (E.2.2.1 6)), (2, .int x2), (3, .int x3), (4, .long x4), (7, .int x7)] → W p l e R s m args below meth c H locs 0 0 Q (F0 m 31 ls [.int y0]) := by
        intro x2 x3 x4 x7 y0 S H locs ls h hC hl
        unfold wp_find_r_31 at h
        refine lv_istore (lv' := [(6, .int y0), (0, .ref E.2.1), (1, .ref (E.2.2.1 6)), (2, .int x2), (3, .int x3), (4, .long x4), (7, .int x7)]) hx hb dX12_find_31 hl (by decide) rfl (fun ls hl => ?_)
        obtain ⟨z6, ez6⟩ : ∃ y : Int32, y = x7 + 1 := ⟨_, rfl⟩
        have h := h z6 ez6
        refine lv_iinc (v := z6) (lv' := [(7, .int z6), (6, .int y0), (0, .ref E.2.1), (1, .ref (E.2.2.1 6)), (2, .int x2), (3, .int x3), (4, .long x4)]) hx hb dX12_find_33 hl (k := 6) rfl (by rw [ez6]; rfl) (by decide) rfl (fun ls hl => ?_)
        refine lv_goto (tgt := 6) hx hb dX12_find_36 (by decide) ?_
        exact ih6 x2 x3 x4 y0 z6 S _ _ _ h hC (lv_sub hl [2, 3, 4, 5, 6, 1, 0] rfl)
      intro x2 x3 x4 x6 x7 S H locs ls h hC hl
      have h : wp_find_r_6 K (it (ls_find_r_6 K) n6) x2 x3 x4 x6 x7 S := h
      unfold wp_find_r_6 at h
      refine lv_iload hx hb dX12_find_6 (lv_at hl 6 rfl) ?_
      refine lv_iload_n hx hb dX12_find_8 rfl (lv_at hl 3 rfl) ?_
      refine lv_icmp_ge (tgt := 39) hx hb dX12_find_9 (by decide) (fun c1 => ?_) (fun c1 => ?_)
      · have h := h.1 c1
        refine lv_iload hx hb dX12_find_39 (lv_at hl 5 rfl) ?_
        exact hret _ _ _ _ _ _ hC h dX12_find_41
      · have h := h.2 c1
        refine lv_aload_n hx hb dX12_find_12 rfl (lv_at hl 1 rfl) ?_
        refine lv_iload_n hx hb dX12_find_13 rfl (lv_at hl 2 rfl) ?_
        refine lv_iload hx hb dX12_find_14 (lv_at hl 6 rfl) ?_
        refine lq_iadd hx hb dX12_find_16 h (fun z2 h => ?_)
        refine mq_lld (n := 24) hX hC 6 rfl rfl dX12_find_17 h (fun z3 h => ?_)
        refine lv_lload hx hb dX12_find_18 (lv_at hl 4 rfl) ?_
        refine lq_lcmp hx hb dX12_find_20 h (fun z4 h => ?_)
        refine lv_if_ne (tgt := 29) hx hb dX12_find_21 (by decide) (fun c5 => ?_) (fun c5 => ?_)
        · have h := h.1 c5
          refine lv_iload hx hb dX12_find_29 (lv_at hl 5 rfl) ?_
          exact cut31 x2 x3 x4 x7 x6 S _ _ _ h hC (lv_sub hl [0, 1, 2, 3, 4, 6] rfl)
        · have h := h.2 c5
          refine lv_iload hx hb dX12_find_24 (lv_at hl 6 rfl) ?_
          refine lv_goto (tgt := 31) hx hb dX12_find_26 (by decide) ?_
          exact cut31 x2 x3 x4 x7 x7 S _ _ _ h hC (lv_sub hl [0, 1, 2, 3, 4, 6] rfl)
  have hl : lv_has ls 8 [(0, .ref E.2.1), (1, .ref (E.2.2.1 6)), (2, .int a1), (3, .int a2), (4, .long a3)] := hl
  unfold wp_find_r at h
  refine lv_iconst (v := -1) hx hb dX12_find_0 (by decide) ?_
  refine lv_istore (lv' := [(6, .int (-1)), (0, .ref E.2.1), (1, .ref (E.2.2.1 6)), (2, .int a1), (3, .int a2), (4, .long a3)]) hx hb dX12_find_1 hl (by decide) rfl (fun ls hl => ?_)
  refine lv_iconst (v := 0) hx hb dX12_find_3 (by decide) ?_
  refine lv_istore (lv' := [(7, .int 0), (6, .int (-1)), (0, .ref E.2.1), (1, .ref (E.2.2.1 6)), (2, .int a1), (3, .int a2), (4, .long a3)]) hx hb dX12_find_4 hl (by decide) rfl (fun ls hl => ?_)
  obtain ⟨n9, h⟩ := h
  exact cut6 n9 a1 a2 a3 (-1) 0 S _ _ _ h hC (lv_sub hl [2, 3, 4, 5, 6, 1, 0] rfl)
def wp_find_c_31 (K : mS → Int32 → Prop) (k6 : Int32 × Int32 × Int64 × Int32 × Int32 × mS → Prop) (x2 : Int32) (x3 : Int32) (x4 : Int64) (x7 : Int32) (y0 : Int32) (S : mS) : Prop := ∀ z6 : Int32, z6 = x7 + 1 → k6 (x2, x3, x4, y0, z6, S)
def wp_find_c_6 (K : mS → Int32 → Prop) (k6 : Int32 × Int32 × Int64 × Int32 × Int32 × mS → Prop) (x2 : Int32) (x3 : Int32) (x4 : Int64) (x6 : Int32) (x7 : Int32) (S : mS) : Prop := ((x3 ≤ x7 → K S x6) ∧ (¬ x3 ≤ x7 → ∀ z2 : Int32, z2 = x2 + x7 → inR z2 288 ∧ ∀ z3 : Int64, z3 = S.2.2 9 (ix z2) → ∀ z4 : Int32, z4 = lg_cmp z3 x4 → ((¬ z4 = 0 → wp_find_c_31 K k6 x2 x3 x4 x7 x6 S) ∧ (z4 = 0 → wp_find_c_31 K k6 x2 x3 x4 x7 x7 S))))
def ls_find_c_6 (K : mS → Int32 → Prop) (k6 : Int32 × Int32 × Int64 × Int32 × Int32 × mS → Prop) (u : Int32 × Int32 × Int64 × Int32 × Int32 × mS) : Prop := wp_find_c_6 K k6 u.1 u.2.1 u.2.2.1 u.2.2.2.1 u.2.2.2.2.1 u.2.2.2.2.2
def wp_find_c (a1 : Int32) (a2 : Int32) (a3 : Int64) (S : mS) (K : mS → Int32 → Prop) : Prop := (∃ n9, it (ls_find_c_6 K) n9 (a1, a2, a3, -1, 0, S))
set_option maxHeartbeats 4000000 in
set_option maxRecDepth 100000 in
theorem ct_find_c (l : Launch) (S : mS) (a1 : Int32) (a2 : Int32) (a3 : Int64) (K : mS → Int32 → Prop) (h : wp_find_c a1 a2 a3 S K) : mMi l yX12_find cX12_find 8 (some .int) 0 0 (fun E => [.ref (E.2.2.1 9), .int a1, .int a2, .long a3]) S K := by
  refine mv_ofi (by decide) rfl (fun _ => Nat.le_of_ble_eq_true rfl) ?_
  intro E p e R s m args below meth c A ls Q hRf hRl hX hC hl hret
  have hx := hX.1.1
  have hb := hX.1.2.1
  have hown := hX.1.2.2.2.1
  have hts := hX.1.2.2.2.2
  have cut6 : ∀ (n6 : Nat) (x2 : Int32) (x3 : Int32) (x4 : Int64) (x6 : Int32) (x7 : Int32) (S : mS) (H : Heap) (locs : List Loc) (ls : Array Slot), it (ls_find_c_6 K) n6 (x2, x3, x4, x6, x7, S) → mC E A s.heap S H locs → lv_has ls 8 [(0, .ref E.2.1), (1, .ref (E.2.2.1 9)), (2, .int x2), (3, .int x3), (4, .long x4), (6, .int x6), (7, .int x7)] → W p l e R s m args below meth c H locs 0 0 Q (F0 m 6 ls []) := by
    intro n6
    induction n6 with
    | zero => intro x2 x3 x4 x6 x7 S H locs ls h hC hl; exact h.elim
    | succ n6 ih6 =>
      have cut31 : ∀ (x2 : Int32) (x3 : Int32) (x4 : Int64) (x7 : Int32) (y0 : Int32) (S : mS) (H : Heap) (locs : List Loc) (ls : Array Slot), wp_find_c_31 K (it (ls_find_c_6 K) n6) x2 x3 x4 x7 y0 S → mC E A s.heap S H locs → lv_has ls 8 [(0, .ref E.2.1), (1, .ref (E.2.2.1 9)), (2, .int x2), (3, .int x3), (4, .long x4), (7, .int x7)] → W p l e R s m args below meth c H locs 0 0 Q (F0 m 31 ls [.int y0]) := by
        intro x2 x3 x4 x7 y0 S H locs ls h hC hl
        unfold wp_find_c_31 at h
        refine lv_istore (lv' := [(6, .int y0), (0, .ref E.2.1), (1, .ref (E.2.2.1 9)), (2, .int x2), (3, .int x3), (4, .long x4), (7, .int x7)]) hx hb dX12_find_31 hl (by decide) rfl (fun ls hl => ?_)
        obtain ⟨z6, ez6⟩ : ∃ y : Int32, y = x7 + 1 := ⟨_, rfl⟩
        have h := h z6 ez6
        refine lv_iinc (v := z6) (lv' := [(7, .int z6), (6, .int y0), (0, .ref E.2.1), (1, .ref (E.2.2.1 9)), (2, .int x2), (3, .int x3), (4, .long x4)]) hx hb dX12_find_33 hl (k := 6) rfl (by rw [ez6]; rfl) (by decide) rfl (fun ls hl => ?_)
        refine lv_goto (tgt := 6) hx hb dX12_find_36 (by decide) ?_
        exact ih6 x2 x3 x4 y0 z6 S _ _ _ h hC (lv_sub hl [2, 3, 4, 5, 6, 1, 0] rfl)
      intro x2 x3 x4 x6 x7 S H locs ls h hC hl
      have h : wp_find_c_6 K (it (ls_find_c_6 K) n6) x2 x3 x4 x6 x7 S := h
      unfold wp_find_c_6 at h
      refine lv_iload hx hb dX12_find_6 (lv_at hl 6 rfl) ?_
      refine lv_iload_n hx hb dX12_find_8 rfl (lv_at hl 3 rfl) ?_
      refine lv_icmp_ge (tgt := 39) hx hb dX12_find_9 (by decide) (fun c1 => ?_) (fun c1 => ?_)
      · have h := h.1 c1
        refine lv_iload hx hb dX12_find_39 (lv_at hl 5 rfl) ?_
        exact hret _ _ _ _ _ _ hC h dX12_find_41
      · have h := h.2 c1
        refine lv_aload_n hx hb dX12_find_12 rfl (lv_at hl 1 rfl) ?_
        refine lv_iload_n hx hb dX12_find_13 rfl (lv_at hl 2 rfl) ?_
        refine lv_iload hx hb dX12_find_14 (lv_at hl 6 rfl) ?_
        refine lq_iadd hx hb dX12_find_16 h (fun z2 h => ?_)
        refine mq_lld (n := 288) hX hC 9 rfl rfl dX12_find_17 h (fun z3 h => ?_)
        refine lv_lload hx hb dX12_find_18 (lv_at hl 4 rfl) ?_
        refine lq_lcmp hx hb dX12_find_20 h (fun z4 h => ?_)
        refine lv_if_ne (tgt := 29) hx hb dX12_find_21 (by decide) (fun c5 => ?_) (fun c5 => ?_)
        · have h := h.1 c5
          refine lv_iload hx hb dX12_find_29 (lv_at hl 5 rfl) ?_
          exact cut31 x2 x3 x4 x7 x6 S _ _ _ h hC (lv_sub hl [0, 1, 2, 3, 4, 6] rfl)
        · have h := h.2 c5
          refine lv_iload hx hb dX12_find_24 (lv_at hl 6 rfl) ?_
          refine lv_goto (tgt := 31) hx hb dX12_find_26 (by decide) ?_
          exact cut31 x2 x3 x4 x7 x7 S _ _ _ h hC (lv_sub hl [0, 1, 2, 3, 4, 6] rfl)
  have hl : lv_has ls 8 [(0, .ref E.2.1), (1, .ref (E.2.2.1 9)), (2, .int a1), (3, .int a2), (4, .long a3)] := hl
  unfold wp_find_c at h
  refine lv_iconst (v := -1) hx hb dX12_find_0 (by decide) ?_
  refine lv_istore (lv' := [(6, .int (-1)), (0, .ref E.2.1), (1, .ref (E.2.2.1 9)), (2, .int a1), (3, .int a2), (4, .long a3)]) hx hb dX12_find_1 hl (by decide) rfl (fun ls hl => ?_)
  refine lv_iconst (v := 0) hx hb dX12_find_3 (by decide) ?_
  refine lv_istore (lv' := [(7, .int 0), (6, .int (-1)), (0, .ref E.2.1), (1, .ref (E.2.2.1 9)), (2, .int a1), (3, .int a2), (4, .long a3)]) hx hb dX12_find_4 hl (by decide) rfl (fun ls hl => ?_)
  obtain ⟨n9, h⟩ := h
  exact cut6 n9 a1 a2 a3 (-1) 0 S _ _ _ h hC (lv_sub hl [2, 3, 4, 5, 6, 1, 0] rfl)
def wp_wrong (a0 : Int32) (S : mS) (K : mS → Prop) : Prop := ((¬ (S.1 4) = 0 → K S) ∧ ((S.1 4) = 0 → inR (S.1 3) 4002 ∧ ∀ z2 : Int32, z2 = S.2.1 2 (ix (S.1 3)) → ∀ z3 : Int32, z3 = 16 * z2 → ∀ z4 : Int32, z4 = a0 + z3 → ∀ S5 : mS, S5 = sZ S 4 z4 → K S5))
set_option maxHeartbeats 4000000 in
set_option maxRecDepth 100000 in
theorem ct_wrong (l : Launch) (S : mS) (a0 : Int32) (K : mS → Prop) (h : wp_wrong a0 S K) : mMv l yX12_wrong cX12_wrong 2 none 0 0 (fun E => [.int a0]) S K := by
  refine mv_ofv (by decide) rfl (fun _ => Nat.le_of_ble_eq_true rfl) ?_
  intro E p e R s m args below meth c A ls Q hRf hRl hX hC hl hret
  have hx := hX.1.1
  have hb := hX.1.2.1
  have hown := hX.1.2.2.2.1
  have hts := hX.1.2.2.2.2
  have hl : lv_has ls 2 [(0, .ref E.2.1), (1, .int a0)] := hl
  unfold wp_wrong at h
  refine lv_aload_n hx hb dX12_wrong_0 rfl (lv_at hl 0 rfl) ?_
  refine mv_get (v := .int (S.1 4)) hX hC 8 (Nat.le_of_ble_eq_true rfl) wd_1408 rfl dX12_wrong_1 ?_
  refine lv_if_ne (tgt := 25) hx hb dX12_wrong_4 (by decide) (fun c1 => ?_) (fun c1 => ?_)
  · have h := h.1 c1
    exact hret _ _ _ _ _ hC h dX12_wrong_25
  · have h := h.2 c1
    refine lv_aload_n hx hb dX12_wrong_7 rfl (lv_at hl 0 rfl) ?_
    refine lv_iload_n hx hb dX12_wrong_8 rfl (lv_at hl 1 rfl) ?_
    refine lv_bipush (v := 16) hx hb dX12_wrong_9 (by decide) ?_
    refine lv_aload_n hx hb dX12_wrong_11 rfl (lv_at hl 0 rfl) ?_
    refine mv_get (v := .ref (E.2.2.1 2)) hX hC 5 (Nat.le_of_ble_eq_true rfl) wd_1405 rfl dX12_wrong_12 ?_
    refine lv_aload_n hx hb dX12_wrong_15 rfl (lv_at hl 0 rfl) ?_
    refine mv_get (v := .int (S.1 3)) hX hC 7 (Nat.le_of_ble_eq_true rfl) wd_1407 rfl dX12_wrong_16 ?_
    refine mq_ild (n := 4002) hX hC 2 rfl rfl dX12_wrong_19 h (fun z2 h => ?_)
    refine lq_imul hx hb dX12_wrong_20 h (fun z3 h => ?_)
    refine lq_iadd hx hb dX12_wrong_21 h (fun z4 h => ?_)
    refine mq_put (v := z4) hX hC 8 4 (Nat.le_of_ble_eq_true rfl) wd_1408 rfl rfl rfl mz_4 dX12_wrong_22 h (fun S5 H locs hC h => ?_)
    exact hret _ _ _ _ _ hC h dX12_wrong_25
def wp_givenCell_132 (K : mS → Prop) (S : mS) : Prop := ∀ z14 : Int32, z14 = (S.1 3) + 1 → ∀ S15 : mS, S15 = sZ S 3 z14 → K S15
def wp_givenCell_90 (K : mS → Prop) (x1 : Int32) (S : mS) : Prop := ((¬ (S.1 4) = 0 → wp_givenCell_132 K S) ∧ ((S.1 4) = 0 → ∀ z6 : Int32, z6 = 12 * x1 → inR x1 24 ∧ ∀ z7 : Int32, z7 = S.2.1 8 (ix x1) → ∀ z8 : Int32, z8 = z6 + z7 → inR (S.1 3) 4002 ∧ ∀ z9 : Int64, z9 = S.2.2 3 (ix (S.1 3)) → inR z8 288 ∧ ∀ S10 : mS, S10 = sG S 9 (ix z8) z9 → inR x1 24 ∧ ∀ z11 : Int32, z11 = S10.2.1 8 (ix x1) → ∀ z12 : Int32, z12 = z11 + 1 → inR x1 24 ∧ ∀ S13 : mS, S13 = sF S10 8 (ix x1) z12 → wp_givenCell_132 K S13))
def wp_givenCell_67 (K : mS → Prop) (x1 : Int32) (S : mS) : Prop := ((¬ (S.1 4) = 0 → wp_givenCell_90 K x1 S) ∧ ((S.1 4) = 0 → inR x1 24 ∧ ∀ z24 : Int32, z24 = S.2.1 8 (ix x1) → ((¬ z24 = 12 → wp_givenCell_90 K x1 S) ∧ (z24 = 12 → wp_wrong 5 S (fun (S26 : mS) => wp_givenCell_90 K x1 S26)))))
def wp_givenCell_22 (K : mS → Prop) (x1 : Int32) (S : mS) : Prop := ((¬ (S.1 4) = 0 → wp_givenCell_67 K x1 S) ∧ ((S.1 4) = 0 → ∀ z17 : Int32, z17 = 12 * x1 → inR x1 24 ∧ ∀ z18 : Int32, z18 = S.2.1 8 (ix x1) → inR (S.1 3) 4002 ∧ ∀ z19 : Int64, z19 = S.2.2 3 (ix (S.1 3)) → wp_find_c z17 z18 z19 S (fun (S20 : mS) (r20 : Int32) => ((r20 < 0 → wp_givenCell_67 K x1 S20) ∧ (¬ r20 < 0 → wp_wrong 3 S20 (fun (S22 : mS) => wp_givenCell_90 K x1 S22))))))
def wp_givenCell (a0 : Int32) (S : mS) (K : mS → Prop) : Prop := ((¬ (S.1 4) = 0 → wp_givenCell_22 K a0 S) ∧ ((S.1 4) = 0 → wp_isName S (fun (S2 : mS) (r2 : Int32) => ((¬ r2 = 0 → wp_givenCell_22 K a0 S2) ∧ (r2 = 0 → wp_wrong 1 S2 (fun (S4 : mS) => wp_givenCell_90 K a0 S4))))))
theorem cw_X12_isName {R : Room} {s : State} {args : Array Value} {fr lo : Nat} (hts : ∀ w ∈ tb, w.before args s = true) (h1 : fr + 1 ≤ R.frames) (h2 : 8 + (3 + 11) + lo ≤ R.locals) : CallW R s args RX12 RX12 387 yX12_isName cX12_isName 3 (some .boolean) (.code yX12_isName cX12_isName 3 (some .boolean) :: tb) (mRm fr lo) 0 0 0 := cwV 0 hts (gd_V wd_1814 wd_1816 sl_X12_isName wd_15 wd_1817) rfl rfl rfl (by decide +kernel) ⟨h1, h2⟩
theorem cw_X12_wrong {R : Room} {s : State} {args : Array Value} {fr lo : Nat} (hts : ∀ w ∈ tb, w.before args s = true) (h1 : fr + 1 ≤ R.frames) (h2 : 8 + (2 + 11) + lo ≤ R.locals) : CallW R s args RX12 RX12 343 yX12_wrong cX12_wrong 2 none (.code yX12_wrong cX12_wrong 2 none :: tb) (mRm fr lo) 0 0 1 := cwV 1 hts (gd_V wd_1810 wd_1812 sl_X12_wrong wd_15 wd_1813) rfl rfl rfl (by decide +kernel) ⟨h1, h2⟩
theorem cw_X12_find {R : Room} {s : State} {args : Array Value} {fr lo : Nat} (hts : ∀ w ∈ tb, w.before args s = true) (h1 : fr + 1 ≤ R.frames) (h2 : 8 + (8 + 11) + lo ≤ R.locals) : CallW R s args RX12 RX12 380 yX12_find cX12_find 8 (some .int) (.code yX12_find cX12_find 8 (some .int) :: tb) (mRm fr lo) 0 0 4 := cwV 4 hts (gd_V wd_1818 wd_1820 sl_X12_find wd_15 wd_1821) rfl rfl rfl (by decide +kernel) ⟨h1, h2⟩
set_option maxHeartbeats 4000000 in
set_option maxRecDepth 100000 in
theorem ct_givenCell (l : Launch) (S : mS) (a0 : Int32) (K : mS → Prop) (h : wp_givenCell a0 S K) : mMv l yX12_givenCell cX12_givenCell 2 none 1 27 (fun E => [.int a0]) S K := by
  refine mv_ofv (by decide) rfl (fun _ => Nat.le_of_ble_eq_true rfl) ?_
  intro E p e R s m args below meth c A ls Q hRf hRl hX hC hl hret
  have hx := hX.1.1
  have hb := hX.1.2.1
  have hown := hX.1.2.2.2.1
  have hts := hX.1.2.2.2.2
  have cut132 : ∀ (S : mS) (H : Heap) (locs : List Loc) (ls : Array Slot), wp_givenCell_132 K S → mC E A s.heap S H locs → lv_has ls 2 [(0, .ref E.2.1)] → W p l e R s m args below meth c H locs 0 0 Q (F0 m 132 ls []) := by
    intro S H locs ls h hC hl
    unfold wp_givenCell_132 at h
    refine lv_aload_n hx hb dX12_givenCell_132 rfl (lv_at hl 0 rfl) ?_
    refine lv_dup hx hb dX12_givenCell_133 rfl ?_
    refine mv_get (v := .int (S.1 3)) hX hC 7 (Nat.le_of_ble_eq_true rfl) wd_1407 rfl dX12_givenCell_134 ?_
    refine lv_iconst (v := 1) hx hb dX12_givenCell_137 (by decide) ?_
    refine lq_iadd hx hb dX12_givenCell_138 h (fun z14 h => ?_)
    refine mq_put (v := z14) hX hC 7 3 (Nat.le_of_ble_eq_true rfl) wd_1407 rfl rfl rfl mz_3 dX12_givenCell_139 h (fun S15 H locs hC h => ?_)
    exact hret _ _ _ _ _ hC h dX12_givenCell_142
  have cut90 : ∀ (x1 : Int32) (S : mS) (H : Heap) (locs : List Loc) (ls : Array Slot), wp_givenCell_90 K x1 S → mC E A s.heap S H locs → lv_has ls 2 [(0, .ref E.2.1), (1, .int x1)] → W p l e R s m args below meth c H locs 0 0 Q (F0 m 90 ls []) := by
    intro x1 S H locs ls h hC hl
    unfold wp_givenCell_90 at h
    refine lv_aload_n hx hb dX12_givenCell_90 rfl (lv_at hl 0 rfl) ?_
    refine mv_get (v := .int (S.1 4)) hX hC 8 (Nat.le_of_ble_eq_true rfl) wd_1408 rfl dX12_givenCell_91 ?_
    refine lv_if_ne (tgt := 132) hx hb dX12_givenCell_94 (by decide) (fun c5 => ?_) (fun c5 => ?_)
    · have h := h.1 c5
      exact cut132 S _ _ _ h hC (lv_sub hl [0] rfl)
    · have h := h.2 c5
      refine lv_aload_n hx hb dX12_givenCell_97 rfl (lv_at hl 0 rfl) ?_
      refine mv_get (v := .ref (E.2.2.1 9)) hX hC 17 (Nat.le_of_ble_eq_true rfl) wd_1417 rfl dX12_givenCell_98 ?_
      refine lv_bipush (v := 12) hx hb dX12_givenCell_101 (by decide) ?_
      refine lv_iload_n hx hb dX12_givenCell_103 rfl (lv_at hl 1 rfl) ?_
      refine lq_imul hx hb dX12_givenCell_104 h (fun z6 h => ?_)
      refine lv_aload_n hx hb dX12_givenCell_105 rfl (lv_at hl 0 rfl) ?_
      refine mv_get (v := .ref (E.2.2.1 8)) hX hC 16 (Nat.le_of_ble_eq_true rfl) wd_1416 rfl dX12_givenCell_106 ?_
      refine lv_iload_n hx hb dX12_givenCell_109 rfl (lv_at hl 1 rfl) ?_
      refine mq_ild (n := 24) hX hC 8 rfl rfl dX12_givenCell_110 h (fun z7 h => ?_)
      refine lq_iadd hx hb dX12_givenCell_111 h (fun z8 h => ?_)
      refine lv_aload_n hx hb dX12_givenCell_112 rfl (lv_at hl 0 rfl) ?_
      refine mv_get (v := .ref (E.2.2.1 3)) hX hC 6 (Nat.le_of_ble_eq_true rfl) wd_1406 rfl dX12_givenCell_113 ?_
      refine lv_aload_n hx hb dX12_givenCell_116 rfl (lv_at hl 0 rfl) ?_
      refine mv_get (v := .int (S.1 3)) hX hC 7 (Nat.le_of_ble_eq_true rfl) wd_1407 rfl dX12_givenCell_117 ?_
      refine mq_lld (n := 4002) hX hC 3 rfl rfl dX12_givenCell_120 h (fun z9 h => ?_)
      refine mq_lst (n := 288) (v := z9) hX hC 9 rfl rfl mf_9 dX12_givenCell_121 h.1 h.2 (fun S10 H locs hC h => ?_)
      refine lv_aload_n hx hb dX12_givenCell_122 rfl (lv_at hl 0 rfl) ?_
      refine mv_get (v := .ref (E.2.2.1 8)) hX hC 16 (Nat.le_of_ble_eq_true rfl) wd_1416 rfl dX12_givenCell_123 ?_
      refine lv_iload_n hx hb dX12_givenCell_126 rfl (lv_at hl 1 rfl) ?_
      refine lv_dup2_11 hx hb dX12_givenCell_127 rfl rfl ?_
      refine mq_ild (n := 24) hX hC 8 rfl rfl dX12_givenCell_128 h (fun z11 h => ?_)
      refine lv_iconst (v := 1) hx hb dX12_givenCell_129 (by decide) ?_
      refine lq_iadd hx hb dX12_givenCell_130 h (fun z12 h => ?_)
      refine mq_ist (n := 24) (v := z12) hX hC 8 rfl rfl mf_8 dX12_givenCell_131 h.1 h.2 (fun S13 H locs hC h => ?_)
      exact cut132 S13 _ _ _ h hC (lv_sub hl [0] rfl)
  have cut67 : ∀ (x1 : Int32) (S : mS) (H : Heap) (locs : List Loc) (ls : Array Slot), wp_givenCell_67 K x1 S → mC E A s.heap S H locs → lv_has ls 2 [(0, .ref E.2.1), (1, .int x1)] → W p l e R s m args below meth c H locs 0 0 Q (F0 m 67 ls []) := by
    intro x1 S H locs ls h hC hl
    unfold wp_givenCell_67 at h
    refine lv_aload_n hx hb dX12_givenCell_67 rfl (lv_at hl 0 rfl) ?_
    refine mv_get (v := .int (S.1 4)) hX hC 8 (Nat.le_of_ble_eq_true rfl) wd_1408 rfl dX12_givenCell_68 ?_
    refine lv_if_ne (tgt := 90) hx hb dX12_givenCell_71 (by decide) (fun c23 => ?_) (fun c23 => ?_)
    · have h := h.1 c23
      exact cut90 x1 S _ _ _ h hC (lv_sub hl [0, 1] rfl)
    · have h := h.2 c23
      refine lv_aload_n hx hb dX12_givenCell_74 rfl (lv_at hl 0 rfl) ?_
      refine mv_get (v := .ref (E.2.2.1 8)) hX hC 16 (Nat.le_of_ble_eq_true rfl) wd_1416 rfl dX12_givenCell_75 ?_
      refine lv_iload_n hx hb dX12_givenCell_78 rfl (lv_at hl 1 rfl) ?_
      refine mq_ild (n := 24) hX hC 8 rfl rfl dX12_givenCell_79 h (fun z24 h => ?_)
      refine lv_bipush (v := 12) hx hb dX12_givenCell_80 (by decide) ?_
      refine lv_icmp_ne (tgt := 90) hx hb dX12_givenCell_82 (by decide) (fun c25 => ?_) (fun c25 => ?_)
      · have h := h.1 c25
        exact cut90 x1 S _ _ _ h hC (lv_sub hl [0, 1] rfl)
      · have h := h.2 c25
        refine lv_aload_n hx hb dX12_givenCell_85 rfl (lv_at hl 0 rfl) ?_
        refine lv_iconst (v := 5) hx hb dX12_givenCell_86 (by decide) ?_
        refine mv_callv [.int 5] (rest := []) hX hC (ct_wrong l S 5 _ h E _) (cw_X12_wrong hts (by omega) (by omega)) rfl hl.1 (Nat.le_of_ble_eq_true rfl) ⟨Nat.zero_le _, Nat.zero_le _⟩ dX12_givenCell_87 (fun S26 H locs hC h => ?_)
        exact cut90 x1 S26 _ _ _ h hC (lv_sub hl [0, 1] rfl)
  have cut22 : ∀ (x1 : Int32) (S : mS) (H : Heap) (locs : List Loc) (ls : Array Slot), wp_givenCell_22 K x1 S → mC E A s.heap S H locs → lv_has ls 2 [(0, .ref E.2.1), (1, .int x1)] → W p l e R s m args below meth c H locs 0 0 Q (F0 m 22 ls []) := by
    intro x1 S H locs ls h hC hl
    unfold wp_givenCell_22 at h
    refine lv_aload_n hx hb dX12_givenCell_22 rfl (lv_at hl 0 rfl) ?_
    refine mv_get (v := .int (S.1 4)) hX hC 8 (Nat.le_of_ble_eq_true rfl) wd_1408 rfl dX12_givenCell_23 ?_
    refine lv_if_ne (tgt := 67) hx hb dX12_givenCell_26 (by decide) (fun c16 => ?_) (fun c16 => ?_)
    · have h := h.1 c16
      exact cut67 x1 S _ _ _ h hC (lv_sub hl [0, 1] rfl)
    · have h := h.2 c16
      refine lv_aload_n hx hb dX12_givenCell_29 rfl (lv_at hl 0 rfl) ?_
      refine lv_aload_n hx hb dX12_givenCell_30 rfl (lv_at hl 0 rfl) ?_
      refine mv_get (v := .ref (E.2.2.1 9)) hX hC 17 (Nat.le_of_ble_eq_true rfl) wd_1417 rfl dX12_givenCell_31 ?_
      refine lv_bipush (v := 12) hx hb dX12_givenCell_34 (by decide) ?_
      refine lv_iload_n hx hb dX12_givenCell_36 rfl (lv_at hl 1 rfl) ?_
      refine lq_imul hx hb dX12_givenCell_37 h (fun z17 h => ?_)
      refine lv_aload_n hx hb dX12_givenCell_38 rfl (lv_at hl 0 rfl) ?_
      refine mv_get (v := .ref (E.2.2.1 8)) hX hC 16 (Nat.le_of_ble_eq_true rfl) wd_1416 rfl dX12_givenCell_39 ?_
      refine lv_iload_n hx hb dX12_givenCell_42 rfl (lv_at hl 1 rfl) ?_
      refine mq_ild (n := 24) hX hC 8 rfl rfl dX12_givenCell_43 h (fun z18 h => ?_)
      refine lv_aload_n hx hb dX12_givenCell_44 rfl (lv_at hl 0 rfl) ?_
      refine mv_get (v := .ref (E.2.2.1 3)) hX hC 6 (Nat.le_of_ble_eq_true rfl) wd_1406 rfl dX12_givenCell_45 ?_
      refine lv_aload_n hx hb dX12_givenCell_48 rfl (lv_at hl 0 rfl) ?_
      refine mv_get (v := .int (S.1 3)) hX hC 7 (Nat.le_of_ble_eq_true rfl) wd_1407 rfl dX12_givenCell_49 ?_
      refine mq_lld (n := 4002) hX hC 3 rfl rfl dX12_givenCell_52 h (fun z19 h => ?_)
      refine mv_calli [.ref (E.2.2.1 9), .int z17, .int z18, .long z19] (rest := []) hX hC (ct_find_c l S z17 z18 z19 _ h E _) (cw_X12_find hts (by omega) (by omega)) rfl hl.1 (Nat.le_of_ble_eq_true rfl) ⟨Nat.zero_le _, Nat.zero_le _⟩ dX12_givenCell_53 (fun r20 S20 H locs hC h => ?_)
      refine lv_if_lt (tgt := 67) hx hb dX12_givenCell_56 (by decide) (fun c21 => ?_) (fun c21 => ?_)
      · have h := h.1 c21
        exact cut67 x1 S20 _ _ _ h hC (lv_sub hl [0, 1] rfl)
      · have h := h.2 c21
        refine lv_aload_n hx hb dX12_givenCell_59 rfl (lv_at hl 0 rfl) ?_
        refine lv_iconst (v := 3) hx hb dX12_givenCell_60 (by decide) ?_
        refine mv_callv [.int 3] (rest := []) hX hC (ct_wrong l S20 3 _ h E _) (cw_X12_wrong hts (by omega) (by omega)) rfl hl.1 (Nat.le_of_ble_eq_true rfl) ⟨Nat.zero_le _, Nat.zero_le _⟩ dX12_givenCell_61 (fun S22 H locs hC h => ?_)
        refine lv_goto (tgt := 90) hx hb dX12_givenCell_64 (by decide) ?_
        exact cut90 x1 S22 _ _ _ h hC (lv_sub hl [0, 1] rfl)
  have hl : lv_has ls 2 [(0, .ref E.2.1), (1, .int a0)] := hl
  unfold wp_givenCell at h
  refine lv_aload_n hx hb dX12_givenCell_0 rfl (lv_at hl 0 rfl) ?_
  refine mv_get (v := .int (S.1 4)) hX hC 8 (Nat.le_of_ble_eq_true rfl) wd_1408 rfl dX12_givenCell_1 ?_
  refine lv_if_ne (tgt := 22) hx hb dX12_givenCell_4 (by decide) (fun c1 => ?_) (fun c1 => ?_)
  · have h := h.1 c1
    exact cut22 a0 S _ _ _ h hC (lv_sub hl [0, 1] rfl)
  · have h := h.2 c1
    refine lv_aload_n hx hb dX12_givenCell_7 rfl (lv_at hl 0 rfl) ?_
    refine mv_calli [] (rest := []) hX hC (ct_isName l S _ h E _) (cw_X12_isName hts (by omega) (by omega)) rfl hl.1 (Nat.le_of_ble_eq_true rfl) ⟨Nat.zero_le _, Nat.zero_le _⟩ dX12_givenCell_8 (fun r2 S2 H locs hC h => ?_)
    refine lv_if_ne (tgt := 22) hx hb dX12_givenCell_11 (by decide) (fun c3 => ?_) (fun c3 => ?_)
    · have h := h.1 c3
      exact cut22 a0 S2 _ _ _ h hC (lv_sub hl [0, 1] rfl)
    · have h := h.2 c3
      refine lv_aload_n hx hb dX12_givenCell_14 rfl (lv_at hl 0 rfl) ?_
      refine lv_iconst (v := 1) hx hb dX12_givenCell_15 (by decide) ?_
      refine mv_callv [.int 1] (rest := []) hX hC (ct_wrong l S2 1 _ h E _) (cw_X12_wrong hts (by omega) (by omega)) rfl hl.1 (Nat.le_of_ble_eq_true rfl) ⟨Nat.zero_le _, Nat.zero_le _⟩ dX12_givenCell_16 (fun S4 H locs hC h => ?_)
      refine lv_goto (tgt := 90) hx hb dX12_givenCell_19 (by decide) ?_
      exact cut90 a0 S4 _ _ _ h hC (lv_sub hl [0, 1] rfl)
def wp_takeCell_96 (K : mS → Int32 → Prop) (x1 : Int32) (S : mS) : Prop := ∀ z14 : Int32, z14 = (S.1 3) + 1 → ∀ S15 : mS, S15 = sZ S 3 z14 → K S15 x1
def wp_takeCell_63 (K : mS → Int32 → Prop) (y0 : Int32) (S : mS) : Prop := ((¬ (S.1 4) = 0 → wp_takeCell_96 K y0 S) ∧ ((S.1 4) = 0 → ((0 ≤ y0 → wp_takeCell_96 K y0 S) ∧ (¬ 0 ≤ y0 → inR (S.1 12) 24 ∧ ∀ z12 : Int32, z12 = S.2.1 8 (ix (S.1 12)) → wp_givenCell (S.1 12) S (fun (S13 : mS) => K S13 z12)))))
def wp_takeCell_19 (K : mS → Int32 → Prop) (S : mS) : Prop := ((¬ (S.1 4) = 0 → wp_takeCell_63 K (-1) S) ∧ ((S.1 4) = 0 → ∀ z6 : Int32, z6 = 12 * (S.1 12) → inR (S.1 12) 24 ∧ ∀ z7 : Int32, z7 = S.2.1 8 (ix (S.1 12)) → inR (S.1 3) 4002 ∧ ∀ z8 : Int64, z8 = S.2.2 3 (ix (S.1 3)) → wp_find_c z6 z7 z8 S (fun (S9 : mS) (r9 : Int32) => wp_takeCell_63 K r9 S9)))
def wp_takeCell (S : mS) (K : mS → Int32 → Prop) : Prop := ((¬ (S.1 4) = 0 → wp_takeCell_19 K S) ∧ ((S.1 4) = 0 → wp_isName S (fun (S2 : mS) (r2 : Int32) => ((¬ r2 = 0 → wp_takeCell_19 K S2) ∧ (r2 = 0 → wp_wrong 1 S2 (fun (S4 : mS) => wp_takeCell_19 K S4))))))
theorem cw_X12_givenCell {R : Room} {s : State} {args : Array Value} {fr lo : Nat} (hts : ∀ w ∈ tb, w.before args s = true) (h1 : fr + 1 ≤ R.frames) (h2 : 8 + (2 + 11) + lo ≤ R.locals) : CallW R s args RX12 RX12 397 yX12_givenCell cX12_givenCell 2 none (.code yX12_givenCell cX12_givenCell 2 none :: tb) (mRm fr lo) 0 0 1 := cwV 1 hts (gd_V wd_1830 wd_1832 sl_X12_givenCell wd_15 wd_1833) rfl rfl rfl (by decide +kernel) ⟨h1, h2⟩
set_option maxHeartbeats 4000000 in
set_option maxRecDepth 100000 in
theorem ct_takeCell (l : Launch) (S : mS) (K : mS → Int32 → Prop) (h : wp_takeCell S K) : mMi l yX12_takeCell cX12_takeCell 2 (some .int) 2 48 (fun E => []) S K := by
  refine mv_ofi (by decide) rfl (fun _ => Nat.le_of_ble_eq_true rfl) ?_
  intro E p e R s m args below meth c A ls Q hRf hRl hX hC hl hret
  have hx := hX.1.1
  have hb := hX.1.2.1
  have hown := hX.1.2.2.2.1
  have hts := hX.1.2.2.2.2
  have cut96 : ∀ (x1 : Int32) (S : mS) (H : Heap) (locs : List Loc) (ls : Array Slot), wp_takeCell_96 K x1 S → mC E A s.heap S H locs → lv_has ls 2 [(0, .ref E.2.1), (1, .int x1)] → W p l e R s m args below meth c H locs 0 0 Q (F0 m 96 ls []) := by
    intro x1 S H locs ls h hC hl
    unfold wp_takeCell_96 at h
    refine lv_aload_n hx hb dX12_takeCell_96 rfl (lv_at hl 0 rfl) ?_
    refine lv_dup hx hb dX12_takeCell_97 rfl ?_
    refine mv_get (v := .int (S.1 3)) hX hC 7 (Nat.le_of_ble_eq_true rfl) wd_1407 rfl dX12_takeCell_98 ?_
    refine lv_iconst (v := 1) hx hb dX12_takeCell_101 (by decide) ?_
    refine lq_iadd hx hb dX12_takeCell_102 h (fun z14 h => ?_)
    refine mq_put (v := z14) hX hC 7 3 (Nat.le_of_ble_eq_true rfl) wd_1407 rfl rfl rfl mz_3 dX12_takeCell_103 h (fun S15 H locs hC h => ?_)
    refine lv_iload_n hx hb dX12_takeCell_106 rfl (lv_at hl 1 rfl) ?_
    exact hret _ _ _ _ _ _ hC h dX12_takeCell_107
  have cut63 : ∀ (y0 : Int32) (S : mS) (H : Heap) (locs : List Loc) (ls : Array Slot), wp_takeCell_63 K y0 S → mC E A s.heap S H locs → lv_has ls 2 [(0, .ref E.2.1)] → W p l e R s m args below meth c H locs 0 0 Q (F0 m 63 ls [.int y0]) := by
    intro y0 S H locs ls h hC hl
    unfold wp_takeCell_63 at h
    refine lv_istore_n (lv' := [(1, .int y0), (0, .ref E.2.1)]) hx hb dX12_takeCell_63 rfl hl (by decide) rfl (fun ls hl => ?_)
    refine lv_aload_n hx hb dX12_takeCell_64 rfl (lv_at hl 1 rfl) ?_
    refine mv_get (v := .int (S.1 4)) hX hC 8 (Nat.le_of_ble_eq_true rfl) wd_1408 rfl dX12_takeCell_65 ?_
    refine lv_if_ne (tgt := 96) hx hb dX12_takeCell_68 (by decide) (fun c10 => ?_) (fun c10 => ?_)
    · have h := h.1 c10
      exact cut96 y0 S _ _ _ h hC (lv_sub hl [1, 0] rfl)
    · have h := h.2 c10
      refine lv_iload_n hx hb dX12_takeCell_71 rfl (lv_at hl 0 rfl) ?_
      refine lv_if_ge (tgt := 96) hx hb dX12_takeCell_72 (by decide) (fun c11 => ?_) (fun c11 => ?_)
      · have h := h.1 c11
        exact cut96 y0 S _ _ _ h hC (lv_sub hl [1, 0] rfl)
      · have h := h.2 c11
        refine lv_aload_n hx hb dX12_takeCell_75 rfl (lv_at hl 1 rfl) ?_
        refine mv_get (v := .ref (E.2.2.1 8)) hX hC 16 (Nat.le_of_ble_eq_true rfl) wd_1416 rfl dX12_takeCell_76 ?_
        refine lv_aload_n hx hb dX12_takeCell_79 rfl (lv_at hl 1 rfl) ?_
        refine mv_get (v := .int (S.1 12)) hX hC 62 (Nat.le_of_ble_eq_true rfl) wd_1462 rfl dX12_takeCell_80 ?_
        refine mq_ild (n := 24) hX hC 8 rfl rfl dX12_takeCell_83 h (fun z12 h => ?_)
        refine lv_istore_n (lv' := [(1, .int z12), (0, .ref E.2.1)]) hx hb dX12_takeCell_84 rfl hl (by decide) rfl (fun ls hl => ?_)
        refine lv_aload_n hx hb dX12_takeCell_85 rfl (lv_at hl 1 rfl) ?_
        refine lv_aload_n hx hb dX12_takeCell_86 rfl (lv_at hl 1 rfl) ?_
        refine mv_get (v := .int (S.1 12)) hX hC 62 (Nat.le_of_ble_eq_true rfl) wd_1462 rfl dX12_takeCell_87 ?_
        refine mv_callv [.int (S.1 12)] (rest := []) hX hC (ct_givenCell l S (S.1 12) _ h E _) (cw_X12_givenCell hts (by omega) (by omega)) rfl hl.1 (Nat.le_of_ble_eq_true rfl) ⟨Nat.zero_le _, Nat.zero_le _⟩ dX12_takeCell_90 (fun S13 H locs hC h => ?_)
        refine lv_goto (tgt := 106) hx hb dX12_takeCell_93 (by decide) ?_
        refine lv_iload_n hx hb dX12_takeCell_106 rfl (lv_at hl 0 rfl) ?_
        exact hret _ _ _ _ _ _ hC h dX12_takeCell_107
  have cut19 : ∀ (S : mS) (H : Heap) (locs : List Loc) (ls : Array Slot), wp_takeCell_19 K S → mC E A s.heap S H locs → lv_has ls 2 [(0, .ref E.2.1)] → W p l e R s m args below meth c H locs 0 0 Q (F0 m 19 ls []) := by
    intro S H locs ls h hC hl
    unfold wp_takeCell_19 at h
    refine lv_aload_n hx hb dX12_takeCell_19 rfl (lv_at hl 0 rfl) ?_
    refine mv_get (v := .int (S.1 4)) hX hC 8 (Nat.le_of_ble_eq_true rfl) wd_1408 rfl dX12_takeCell_20 ?_
    refine lv_if_ne (tgt := 62) hx hb dX12_takeCell_23 (by decide) (fun c5 => ?_) (fun c5 => ?_)
    · have h := h.1 c5
      refine lv_iconst (v := -1) hx hb dX12_takeCell_62 (by decide) ?_
      exact cut63 (-1) S _ _ _ h hC (lv_sub hl [0] rfl)
    · have h := h.2 c5
      refine lv_aload_n hx hb dX12_takeCell_26 rfl (lv_at hl 0 rfl) ?_
      refine lv_aload_n hx hb dX12_takeCell_27 rfl (lv_at hl 0 rfl) ?_
      refine mv_get (v := .ref (E.2.2.1 9)) hX hC 17 (Nat.le_of_ble_eq_true rfl) wd_1417 rfl dX12_takeCell_28 ?_
      refine lv_bipush (v := 12) hx hb dX12_takeCell_31 (by decide) ?_
      refine lv_aload_n hx hb dX12_takeCell_33 rfl (lv_at hl 0 rfl) ?_
      refine mv_get (v := .int (S.1 12)) hX hC 62 (Nat.le_of_ble_eq_true rfl) wd_1462 rfl dX12_takeCell_34 ?_
      refine lq_imul hx hb dX12_takeCell_37 h (fun z6 h => ?_)
      refine lv_aload_n hx hb dX12_takeCell_38 rfl (lv_at hl 0 rfl) ?_
      refine mv_get (v := .ref (E.2.2.1 8)) hX hC 16 (Nat.le_of_ble_eq_true rfl) wd_1416 rfl dX12_takeCell_39 ?_
      refine lv_aload_n hx hb dX12_takeCell_42 rfl (lv_at hl 0 rfl) ?_
      refine mv_get (v := .int (S.1 12)) hX hC 62 (Nat.le_of_ble_eq_true rfl) wd_1462 rfl dX12_takeCell_43 ?_
      refine mq_ild (n := 24) hX hC 8 rfl rfl dX12_takeCell_46 h (fun z7 h => ?_)
      refine lv_aload_n hx hb dX12_takeCell_47 rfl (lv_at hl 0 rfl) ?_
      refine mv_get (v := .ref (E.2.2.1 3)) hX hC 6 (Nat.le_of_ble_eq_true rfl) wd_1406 rfl dX12_takeCell_48 ?_
      refine lv_aload_n hx hb dX12_takeCell_51 rfl (lv_at hl 0 rfl) ?_
      refine mv_get (v := .int (S.1 3)) hX hC 7 (Nat.le_of_ble_eq_true rfl) wd_1407 rfl dX12_takeCell_52 ?_
      refine mq_lld (n := 4002) hX hC 3 rfl rfl dX12_takeCell_55 h (fun z8 h => ?_)
      refine mv_calli [.ref (E.2.2.1 9), .int z6, .int z7, .long z8] (rest := []) hX hC (ct_find_c l S z6 z7 z8 _ h E _) (cw_X12_find hts (by omega) (by omega)) rfl hl.1 (Nat.le_of_ble_eq_true rfl) ⟨Nat.zero_le _, Nat.zero_le _⟩ dX12_takeCell_56 (fun r9 S9 H locs hC h => ?_)
      refine lv_goto (tgt := 63) hx hb dX12_takeCell_59 (by decide) ?_
      exact cut63 r9 S9 _ _ _ h hC (lv_sub hl [0] rfl)
  have hl : lv_has ls 2 [(0, .ref E.2.1)] := hl
  unfold wp_takeCell at h
  refine lv_aload_n hx hb dX12_takeCell_0 rfl (lv_at hl 0 rfl) ?_
  refine mv_get (v := .int (S.1 4)) hX hC 8 (Nat.le_of_ble_eq_true rfl) wd_1408 rfl dX12_takeCell_1 ?_
  refine lv_if_ne (tgt := 19) hx hb dX12_takeCell_4 (by decide) (fun c1 => ?_) (fun c1 => ?_)
  · have h := h.1 c1
    exact cut19 S _ _ _ h hC (lv_sub hl [0] rfl)
  · have h := h.2 c1
    refine lv_aload_n hx hb dX12_takeCell_7 rfl (lv_at hl 0 rfl) ?_
    refine mv_calli [] (rest := []) hX hC (ct_isName l S _ h E _) (cw_X12_isName hts (by omega) (by omega)) rfl hl.1 (Nat.le_of_ble_eq_true rfl) ⟨Nat.zero_le _, Nat.zero_le _⟩ dX12_takeCell_8 (fun r2 S2 H locs hC h => ?_)
    refine lv_if_ne (tgt := 19) hx hb dX12_takeCell_11 (by decide) (fun c3 => ?_) (fun c3 => ?_)
    · have h := h.1 c3
      exact cut19 S2 _ _ _ h hC (lv_sub hl [0] rfl)
    · have h := h.2 c3
      refine lv_aload_n hx hb dX12_takeCell_14 rfl (lv_at hl 0 rfl) ?_
      refine lv_iconst (v := 1) hx hb dX12_takeCell_15 (by decide) ?_
      refine mv_callv [.int 1] (rest := []) hX hC (ct_wrong l S2 1 _ h E _) (cw_X12_wrong hts (by omega) (by omega)) rfl hl.1 (Nat.le_of_ble_eq_true rfl) ⟨Nat.zero_le _, Nat.zero_le _⟩ dX12_takeCell_16 (fun S4 H locs hC h => ?_)
      exact cut19 S4 _ _ _ h hC (lv_sub hl [0] rfl)
def wp_takeSign (a0 : Int32) (S : mS) (K : mS → Prop) : Prop := wp_isSign a0 S (fun (S1 : mS) (r1 : Int32) => ((r1 = 0 → wp_wrong 1 S1 (fun (S3 : mS) => K S3)) ∧ (¬ r1 = 0 → ∀ z4 : Int32, z4 = (S1.1 3) + 1 → ∀ S5 : mS, S5 = sZ S1 3 z4 → K S5)))
set_option maxHeartbeats 4000000 in
set_option maxRecDepth 100000 in
theorem ct_takeSign (l : Launch) (S : mS) (a0 : Int32) (K : mS → Prop) (h : wp_takeSign a0 S K) : mMv l yX12_takeSign cX12_takeSign 2 none 1 21 (fun E => [.int a0]) S K := by
  refine mv_ofv (by decide) rfl (fun _ => Nat.le_of_ble_eq_true rfl) ?_
  intro E p e R s m args below meth c A ls Q hRf hRl hX hC hl hret
  have hx := hX.1.1
  have hb := hX.1.2.1
  have hown := hX.1.2.2.2.1
  have hts := hX.1.2.2.2.2
  have hl : lv_has ls 2 [(0, .ref E.2.1), (1, .int a0)] := hl
  unfold wp_takeSign at h
  refine lv_aload_n hx hb dX12_takeSign_0 rfl (lv_at hl 0 rfl) ?_
  refine lv_iload_n hx hb dX12_takeSign_1 rfl (lv_at hl 1 rfl) ?_
  refine mv_calli [.int a0] (rest := []) hX hC (ct_isSign l S a0 _ h E _) (cw_X12_isSign hts (by omega) (by omega)) rfl hl.1 (Nat.le_of_ble_eq_true rfl) ⟨Nat.zero_le _, Nat.zero_le _⟩ dX12_takeSign_2 (fun r1 S1 H locs hC h => ?_)
  refine lv_if_eq (tgt := 21) hx hb dX12_takeSign_5 (by decide) (fun c2 => ?_) (fun c2 => ?_)
  · have h := h.1 c2
    refine lv_aload_n hx hb dX12_takeSign_21 rfl (lv_at hl 0 rfl) ?_
    refine lv_iconst (v := 1) hx hb dX12_takeSign_22 (by decide) ?_
    refine mv_callv [.int 1] (rest := []) hX hC (ct_wrong l S1 1 _ h E _) (cw_X12_wrong hts (by omega) (by omega)) rfl hl.1 (Nat.le_of_ble_eq_true rfl) ⟨Nat.zero_le _, Nat.zero_le _⟩ dX12_takeSign_23 (fun S3 H locs hC h => ?_)
    exact hret _ _ _ _ _ hC h dX12_takeSign_26
  · have h := h.2 c2
    refine lv_aload_n hx hb dX12_takeSign_8 rfl (lv_at hl 0 rfl) ?_
    refine lv_dup hx hb dX12_takeSign_9 rfl ?_
    refine mv_get (v := .int (S1.1 3)) hX hC 7 (Nat.le_of_ble_eq_true rfl) wd_1407 rfl dX12_takeSign_10 ?_
    refine lv_iconst (v := 1) hx hb dX12_takeSign_13 (by decide) ?_
    refine lq_iadd hx hb dX12_takeSign_14 h (fun z4 h => ?_)
    refine mq_put (v := z4) hX hC 7 3 (Nat.le_of_ble_eq_true rfl) wd_1407 rfl rfl rfl mz_3 dX12_takeSign_15 h (fun S5 H locs hC h => ?_)
    refine lv_goto (tgt := 26) hx hb dX12_takeSign_18 (by decide) ?_
    exact hret _ _ _ _ _ hC h dX12_takeSign_26
def wp_lead (a0 : Int32) (S : mS) (K : mS → Prop) : Prop := ((0 ≤ (S.1 19) → inR (S.1 19) 24000 ∧ ∀ z2 : Int32, z2 = S.2.1 17 (ix (S.1 19)) → ((0 ≤ z2 → inR (S.1 19) 24000 ∧ ∀ S4 : mS, S4 = sF S 18 (ix (S.1 19)) a0 → K S4) ∧ (¬ 0 ≤ z2 → inR (S.1 19) 24000 ∧ ∀ S5 : mS, S5 = sF S 17 (ix (S.1 19)) a0 → K S5))) ∧ (¬ 0 ≤ (S.1 19) → K S))
set_option maxHeartbeats 4000000 in
set_option maxRecDepth 100000 in
theorem ct_lead (l : Launch) (S : mS) (a0 : Int32) (K : mS → Prop) (h : wp_lead a0 S K) : mMv l yX12_lead cX12_lead 2 none 0 0 (fun E => [.int a0]) S K := by
  refine mv_ofv (by decide) rfl (fun _ => Nat.le_of_ble_eq_true rfl) ?_
  intro E p e R s m args below meth c A ls Q hRf hRl hX hC hl hret
  have hx := hX.1.1
  have hb := hX.1.2.1
  have hown := hX.1.2.2.2.1
  have hts := hX.1.2.2.2.2
  have hl : lv_has ls 2 [(0, .ref E.2.1), (1, .int a0)] := hl
  unfold wp_lead at h
  refine lv_aload_n hx hb dX12_lead_0 rfl (lv_at hl 0 rfl) ?_
  refine mv_get (v := .int (S.1 19)) hX hC 69 (Nat.le_of_ble_eq_true rfl) wd_1469 rfl dX12_lead_1 ?_
  refine lv_if_ge (tgt := 8) hx hb dX12_lead_4 (by decide) (fun c1 => ?_) (fun c1 => ?_)
  · have h := h.1 c1
    refine lv_aload_n hx hb dX12_lead_8 rfl (lv_at hl 0 rfl) ?_
    refine mv_get (v := .ref (E.2.2.1 17)) hX hC 26 (Nat.le_of_ble_eq_true rfl) wd_1426 rfl dX12_lead_9 ?_
    refine lv_aload_n hx hb dX12_lead_12 rfl (lv_at hl 0 rfl) ?_
    refine mv_get (v := .int (S.1 19)) hX hC 69 (Nat.le_of_ble_eq_true rfl) wd_1469 rfl dX12_lead_13 ?_
    refine mq_ild (n := 24000) hX hC 17 rfl rfl dX12_lead_16 h (fun z2 h => ?_)
    refine lv_if_ge (tgt := 33) hx hb dX12_lead_17 (by decide) (fun c3 => ?_) (fun c3 => ?_)
    · have h := h.1 c3
      refine lv_aload_n hx hb dX12_lead_33 rfl (lv_at hl 0 rfl) ?_
      refine mv_get (v := .ref (E.2.2.1 18)) hX hC 27 (Nat.le_of_ble_eq_true rfl) wd_1427 rfl dX12_lead_34 ?_
      refine lv_aload_n hx hb dX12_lead_37 rfl (lv_at hl 0 rfl) ?_
      refine mv_get (v := .int (S.1 19)) hX hC 69 (Nat.le_of_ble_eq_true rfl) wd_1469 rfl dX12_lead_38 ?_
      refine lv_iload_n hx hb dX12_lead_41 rfl (lv_at hl 1 rfl) ?_
      refine mq_ist (n := 24000) (v := a0) hX hC 18 rfl rfl mf_18 dX12_lead_42 h.1 h.2 (fun S4 H locs hC h => ?_)
      exact hret _ _ _ _ _ hC h dX12_lead_43
    · have h := h.2 c3
      refine lv_aload_n hx hb dX12_lead_20 rfl (lv_at hl 0 rfl) ?_
      refine mv_get (v := .ref (E.2.2.1 17)) hX hC 26 (Nat.le_of_ble_eq_true rfl) wd_1426 rfl dX12_lead_21 ?_
      refine lv_aload_n hx hb dX12_lead_24 rfl (lv_at hl 0 rfl) ?_
      refine mv_get (v := .int (S.1 19)) hX hC 69 (Nat.le_of_ble_eq_true rfl) wd_1469 rfl dX12_lead_25 ?_
      refine lv_iload_n hx hb dX12_lead_28 rfl (lv_at hl 1 rfl) ?_
      refine mq_ist (n := 24000) (v := a0) hX hC 17 rfl rfl mf_17 dX12_lead_29 h.1 h.2 (fun S5 H locs hC h => ?_)
      refine lv_goto (tgt := 43) hx hb dX12_lead_30 (by decide) ?_
      exact hret _ _ _ _ _ hC h dX12_lead_43
  · have h := h.2 c1
    exact hret _ _ _ _ _ hC h dX12_lead_7
def wp_then (a0 : Int32) (a1 : Int32) (S : mS) (K : mS → Int32 → Prop) : Prop := wp_act a0 a1 S (fun (S1 : mS) (r1 : Int32) => wp_lead r1 S1 (fun (S2 : mS) => ∀ S3 : mS, S3 = sZ S2 19 r1 → K S3 r1))
theorem cw_X12_act {R : Room} {s : State} {args : Array Value} {fr lo : Nat} (hts : ∀ w ∈ tb, w.before args s = true) (h1 : fr + 1 ≤ R.frames) (h2 : 8 + (3 + 11) + lo ≤ R.locals) : CallW R s args RX12 RX12 421 yX12_act cX12_act 3 (some .int) (.code yX12_act cX12_act 3 (some .int) :: tb) (mRm fr lo) 0 0 2 := cwV 2 hts (gd_V wd_1838 wd_1840 sl_X12_act wd_15 wd_1841) rfl rfl rfl (by decide +kernel) ⟨h1, h2⟩
theorem cw_X12_lead {R : Room} {s : State} {args : Array Value} {fr lo : Nat} (hts : ∀ w ∈ tb, w.before args s = true) (h1 : fr + 1 ≤ R.frames) (h2 : 8 + (2 + 11) + lo ≤ R.locals) : CallW R s args RX12 RX12 435 yX12_lead cX12_lead 2 none (.code yX12_lead cX12_lead 2 none :: tb) (mRm fr lo) 0 0 1 := cwV 1 hts (gd_V wd_1870 wd_1872 sl_X12_lead wd_15 wd_1873) rfl rfl rfl (by decide +kernel) ⟨h1, h2⟩
set_option maxHeartbeats 4000000 in
set_option maxRecDepth 100000 in
theorem ct_then (l : Launch) (S : mS) (a0 : Int32) (a1 : Int32) (K : mS → Int32 → Prop) (h : wp_then a0 a1 S K) : mMi l yX12_then cX12_then 4 (some .int) 1 22 (fun E => [.int a0, .int a1]) S K := by
  refine mv_ofi (by decide) rfl (fun _ => Nat.le_of_ble_eq_true rfl) ?_
  intro E p e R s m args below meth c A ls Q hRf hRl hX hC hl hret
  have hx := hX.1.1
  have hb := hX.1.2.1
  have hown := hX.1.2.2.2.1
  have hts := hX.1.2.2.2.2
  have hl : lv_has ls 4 [(0, .ref E.2.1), (1, .int a0), (2, .int a1)] := hl
  unfold wp_then at h
  refine lv_aload_n hx hb dX12_then_0 rfl (lv_at hl 0 rfl) ?_
  refine lv_iload_n hx hb dX12_then_1 rfl (lv_at hl 1 rfl) ?_
  refine lv_iload_n hx hb dX12_then_2 rfl (lv_at hl 2 rfl) ?_
  refine mv_calli [.int a0, .int a1] (rest := []) hX hC (ct_act l S a0 a1 _ h E _) (cw_X12_act hts (by omega) (by omega)) rfl hl.1 (Nat.le_of_ble_eq_true rfl) ⟨Nat.zero_le _, Nat.zero_le _⟩ dX12_then_3 (fun r1 S1 H locs hC h => ?_)
  refine lv_istore_n (lv' := [(3, .int r1), (0, .ref E.2.1), (1, .int a0), (2, .int a1)]) hx hb dX12_then_6 rfl hl (by decide) rfl (fun ls hl => ?_)
  refine lv_aload_n hx hb dX12_then_7 rfl (lv_at hl 1 rfl) ?_
  refine lv_iload_n hx hb dX12_then_8 rfl (lv_at hl 0 rfl) ?_
  refine mv_callv [.int r1] (rest := []) hX hC (ct_lead l S1 r1 _ h E _) (cw_X12_lead hts (by omega) (by omega)) rfl hl.1 (Nat.le_of_ble_eq_true rfl) ⟨Nat.zero_le _, Nat.zero_le _⟩ dX12_then_9 (fun S2 H locs hC h => ?_)
  refine lv_aload_n hx hb dX12_then_12 rfl (lv_at hl 1 rfl) ?_
  refine lv_iload_n hx hb dX12_then_13 rfl (lv_at hl 0 rfl) ?_
  refine mq_put (v := r1) hX hC 69 19 (Nat.le_of_ble_eq_true rfl) wd_1469 rfl rfl rfl mz_19 dX12_then_14 h (fun S3 H locs hC h => ?_)
  refine lv_iload_n hx hb dX12_then_17 rfl (lv_at hl 0 rfl) ?_
  exact hret _ _ _ _ _ _ hC h dX12_then_18
def wp_within_26 (K : mS → Prop) (S : mS) : Prop := ∀ z5 : Int32, z5 = (S.1 18) + 1 → ∀ S6 : mS, S6 = sZ S 18 z5 → K S6
def wp_within (a0 : Int32) (S : mS) (K : mS → Prop) : Prop := ((¬ a0 = 0 → ((¬ (S.1 18) = 10 → wp_within_26 K S) ∧ ((S.1 18) = 10 → wp_wrong 5 S (fun (S3 : mS) => wp_within_26 K S3)))) ∧ (a0 = 0 → wp_wrong 1 S (fun (S4 : mS) => wp_within_26 K S4)))
set_option maxHeartbeats 4000000 in
set_option maxRecDepth 100000 in
theorem ct_within (l : Launch) (S : mS) (a0 : Int32) (K : mS → Prop) (h : wp_within a0 S K) : mMv l yX12_within cX12_within 2 none 1 21 (fun E => [.int a0]) S K := by
  refine mv_ofv (by decide) rfl (fun _ => Nat.le_of_ble_eq_true rfl) ?_
  intro E p e R s m args below meth c A ls Q hRf hRl hX hC hl hret
  have hx := hX.1.1
  have hb := hX.1.2.1
  have hown := hX.1.2.2.2.1
  have hts := hX.1.2.2.2.2
  have cut26 : ∀ (S : mS) (H : Heap) (locs : List Loc) (ls : Array Slot), wp_within_26 K S → mC E A s.heap S H locs → lv_has ls 2 [(0, .ref E.2.1)] → W p l e R s m args below meth c H locs 0 0 Q (F0 m 26 ls []) := by
    intro S H locs ls h hC hl
    unfold wp_within_26 at h
    refine lv_aload_n hx hb dX12_within_26 rfl (lv_at hl 0 rfl) ?_
    refine lv_dup hx hb dX12_within_27 rfl ?_
    refine mv_get (v := .int (S.1 18)) hX hC 68 (Nat.le_of_ble_eq_true rfl) wd_1468 rfl dX12_within_28 ?_
    refine lv_iconst (v := 1) hx hb dX12_within_31 (by decide) ?_
    refine lq_iadd hx hb dX12_within_32 h (fun z5 h => ?_)
    refine mq_put (v := z5) hX hC 68 18 (Nat.le_of_ble_eq_true rfl) wd_1468 rfl rfl rfl mz_18 dX12_within_33 h (fun S6 H locs hC h => ?_)
    exact hret _ _ _ _ _ hC h dX12_within_36
  have hl : lv_has ls 2 [(0, .ref E.2.1), (1, .int a0)] := hl
  unfold wp_within at h
  refine lv_iload_n hx hb dX12_within_0 rfl (lv_at hl 1 rfl) ?_
  refine lv_if_ne (tgt := 12) hx hb dX12_within_1 (by decide) (fun c1 => ?_) (fun c1 => ?_)
  · have h := h.1 c1
    refine lv_aload_n hx hb dX12_within_12 rfl (lv_at hl 0 rfl) ?_
    refine mv_get (v := .int (S.1 18)) hX hC 68 (Nat.le_of_ble_eq_true rfl) wd_1468 rfl dX12_within_13 ?_
    refine lv_bipush (v := 10) hx hb dX12_within_16 (by decide) ?_
    refine lv_icmp_ne (tgt := 26) hx hb dX12_within_18 (by decide) (fun c2 => ?_) (fun c2 => ?_)
    · have h := h.1 c2
      exact cut26 S _ _ _ h hC (lv_sub hl [0] rfl)
    · have h := h.2 c2
      refine lv_aload_n hx hb dX12_within_21 rfl (lv_at hl 0 rfl) ?_
      refine lv_iconst (v := 5) hx hb dX12_within_22 (by decide) ?_
      refine mv_callv [.int 5] (rest := []) hX hC (ct_wrong l S 5 _ h E _) (cw_X12_wrong hts (by omega) (by omega)) rfl hl.1 (Nat.le_of_ble_eq_true rfl) ⟨Nat.zero_le _, Nat.zero_le _⟩ dX12_within_23 (fun S3 H locs hC h => ?_)
      exact cut26 S3 _ _ _ h hC (lv_sub hl [0] rfl)
  · have h := h.2 c1
    refine lv_aload_n hx hb dX12_within_4 rfl (lv_at hl 0 rfl) ?_
    refine lv_iconst (v := 1) hx hb dX12_within_5 (by decide) ?_
    refine mv_callv [.int 1] (rest := []) hX hC (ct_wrong l S 1 _ h E _) (cw_X12_wrong hts (by omega) (by omega)) rfl hl.1 (Nat.le_of_ble_eq_true rfl) ⟨Nat.zero_le _, Nat.zero_le _⟩ dX12_within_6 (fun S4 H locs hC h => ?_)
    refine lv_goto (tgt := 26) hx hb dX12_within_9 (by decide) ?_
    exact cut26 S4 _ _ _ h hC (lv_sub hl [0] rfl)
def wp_product_97 (r_part : mS → (mS → Prop) → Prop) (K : mS → Prop) (k4 : mS → Prop) (S : mS) : Prop := k4 S
def wp_product_61 (r_part : mS → (mS → Prop) → Prop) (K : mS → Prop) (k4 : mS → Prop) (y0 : Int32) (S : mS) : Prop := ∀ z12 : Int32, z12 = (S.1 3) + 1 → ∀ S13 : mS, S13 = sZ S 3 z12 → r_part S13 (fun (S14 : mS) => wp_emit y0 0 0 S14 (fun (S15 : mS) (r15 : Int32) => ((y0 = 6 → wp_product_97 r_part K k4 S15) ∧ (¬ y0 = 6 → wp_then 4 0 S15 (fun (S17 : mS) (r17 : Int32) => wp_product_97 r_part K k4 S17)))))
def wp_product_31 (r_part : mS → (mS → Prop) → Prop) (K : mS → Prop) (k4 : mS → Prop) (S : mS) : Prop := wp_isSign 42 S (fun (S8 : mS) (r8 : Int32) => ((r8 = 0 → wp_isSign 47 S8 (fun (S10 : mS) (r10 : Int32) => ((r10 = 0 → wp_product_61 r_part K k4 8 S10) ∧ (¬ r10 = 0 → wp_product_61 r_part K k4 7 S10)))) ∧ (¬ r8 = 0 → wp_product_61 r_part K k4 6 S8)))
def wp_product_4 (r_part : mS → (mS → Prop) → Prop) (K : mS → Prop) (k4 : mS → Prop) (S : mS) : Prop := wp_isSign 42 S (fun (S2 : mS) (r2 : Int32) => ((¬ r2 = 0 → wp_product_31 r_part K k4 S2) ∧ (r2 = 0 → wp_isSign 47 S2 (fun (S4 : mS) (r4 : Int32) => ((¬ r4 = 0 → wp_product_31 r_part K k4 S4) ∧ (r4 = 0 → wp_isSign 37 S4 (fun (S6 : mS) (r6 : Int32) => ((r6 = 0 → K S6) ∧ (¬ r6 = 0 → wp_product_31 r_part K k4 S6)))))))))
def ls_product_4 (r_part : mS → (mS → Prop) → Prop) (K : mS → Prop) (k4 : mS → Prop) (u : mS) : Prop := wp_product_4 r_part K k4 u
def wp_product (r_part : mS → (mS → Prop) → Prop) (S : mS) (K : mS → Prop) : Prop := r_part S (fun (S1 : mS) => (∃ n9, it (ls_product_4 r_part K) n9 S1))
theorem cw_X12_part {R : Room} {s : State} {args : Array Value} {fr lo : Nat} (hts : ∀ w ∈ tb, w.before args s = true) (h1 : fr + 1 ≤ R.frames) (h2 : 8 + (1 + 11) + lo ≤ R.locals) : CallW R s args RX12 RX12 507 yX12_part cX12_part 1 none (.code yX12_part cX12_part 1 none :: tb) (mRm fr lo) 0 0 0 := cwV 0 hts (gd_V wd_1886 wd_1888 sl_X12_part wd_15 wd_1889) rfl rfl rfl (by decide +kernel) ⟨h1, h2⟩
theorem cw_X12_emit {R : Room} {s : State} {args : Array Value} {fr lo : Nat} (hts : ∀ w ∈ tb, w.before args s = true) (h1 : fr + 1 ≤ R.frames) (h2 : 8 + (4 + 11) + lo ≤ R.locals) : CallW R s args RX12 RX12 431 yX12_emit cX12_emit 4 (some .int) (.code yX12_emit cX12_emit 4 (some .int) :: tb) (mRm fr lo) 0 0 3 := cwV 3 hts (gd_V wd_1862 wd_1864 sl_X12_emit wd_15 wd_1865) rfl rfl rfl (by decide +kernel) ⟨h1, h2⟩
theorem cw_X12_then {R : Room} {s : State} {args : Array Value} {fr lo : Nat} (hts : ∀ w ∈ tb, w.before args s = true) (h1 : fr + 1 ≤ R.frames) (h2 : 8 + (4 + 11) + lo ≤ R.locals) : CallW R s args RX12 RX12 460 yX12_then cX12_then 4 (some .int) (.code yX12_then cX12_then 4 (some .int) :: tb) (mRm fr lo) 0 0 2 := cwV 2 hts (gd_V wd_1866 wd_1868 sl_X12_then wd_15 wd_1869) rfl rfl rfl (by decide +kernel) ⟨h1, h2⟩
set_option maxHeartbeats 4000000 in
set_option maxRecDepth 100000 in
theorem co_product (l : Launch) (fr lo F Lo : Nat) (r_part : mS → (mS → Prop) → Prop) (hr_part : ∀ (S : mS) (K : mS → Prop), r_part S K → mMv l yX12_part cX12_part 1 none fr lo (fun E => []) S K) (hF : fr + 1 ≤ F) (hL : lo + 20 ≤ Lo) (hF0 : 2 ≤ F) (hL0 : 45 ≤ Lo) (S : mS) (K : mS → Prop) (h : wp_product r_part S K) : mMv l yX12_product cX12_product 3 none F Lo (fun E => []) S K := by
  refine mv_ofv (by decide) rfl (fun _ => Nat.le_of_ble_eq_true rfl) ?_
  intro E p e R s m args below meth c A ls Q hRf hRl hX hC hl hret
  have hx := hX.1.1
  have hb := hX.1.2.1
  have hown := hX.1.2.2.2.1
  have hts := hX.1.2.2.2.2
  have cut4 : ∀ (n4 : Nat) (S : mS) (H : Heap) (locs : List Loc) (ls : Array Slot), it (ls_product_4 r_part K) n4 S → mC E A s.heap S H locs → lv_has ls 3 [(0, .ref E.2.1)] → W p l e R s m args below meth c H locs 0 0 Q (F0 m 4 ls []) := by
    intro n4
    induction n4 with
    | zero => intro S H locs ls h hC hl; exact h.elim
    | succ n4 ih4 =>
      have cut97 : ∀ (S : mS) (H : Heap) (locs : List Loc) (ls : Array Slot), wp_product_97 r_part K (it (ls_product_4 r_part K) n4) S → mC E A s.heap S H locs → lv_has ls 3 [(0, .ref E.2.1)] → W p l e R s m args below meth c H locs 0 0 Q (F0 m 97 ls []) := by
        intro S H locs ls h hC hl
        unfold wp_product_97 at h
        refine lv_goto (tgt := 4) hx hb dX12_product_97 (by decide) ?_
        exact ih4 S _ _ _ h hC (lv_sub hl [0] rfl)
      have cut61 : ∀ (y0 : Int32) (S : mS) (H : Heap) (locs : List Loc) (ls : Array Slot), wp_product_61 r_part K (it (ls_product_4 r_part K) n4) y0 S → mC E A s.heap S H locs → lv_has ls 3 [(0, .ref E.2.1)] → W p l e R s m args below meth c H locs 0 0 Q (F0 m 61 ls [.int y0]) := by
        intro y0 S H locs ls h hC hl
        unfold wp_product_61 at h
        refine lv_istore_n (lv' := [(1, .int y0), (0, .ref E.2.1)]) hx hb dX12_product_61 rfl hl (by decide) rfl (fun ls hl => ?_)
        refine lv_aload_n hx hb dX12_product_62 rfl (lv_at hl 1 rfl) ?_
        refine lv_dup hx hb dX12_product_63 rfl ?_
        refine mv_get (v := .int (S.1 3)) hX hC 7 (Nat.le_of_ble_eq_true rfl) wd_1407 rfl dX12_product_64 ?_
        refine lv_iconst (v := 1) hx hb dX12_product_67 (by decide) ?_
        refine lq_iadd hx hb dX12_product_68 h (fun z12 h => ?_)
        refine mq_put (v := z12) hX hC 7 3 (Nat.le_of_ble_eq_true rfl) wd_1407 rfl rfl rfl mz_3 dX12_product_69 h (fun S13 H locs hC h => ?_)
        refine lv_aload_n hx hb dX12_product_72 rfl (lv_at hl 1 rfl) ?_
        refine mv_callv [] (rest := []) hX hC (hr_part S13 _ h E _) (cw_X12_part hts (by omega) (by omega)) rfl hl.1 (Nat.le_of_ble_eq_true rfl) ⟨Nat.zero_le _, Nat.zero_le _⟩ dX12_product_73 (fun S14 H locs hC h => ?_)
        refine lv_aload_n hx hb dX12_product_76 rfl (lv_at hl 1 rfl) ?_
        refine lv_iload_n hx hb dX12_product_77 rfl (lv_at hl 0 rfl) ?_
        refine lv_iconst (v := 0) hx hb dX12_product_78 (by decide) ?_
        refine lv_iconst (v := 0) hx hb dX12_product_79 (by decide) ?_
        refine mv_calli [.int y0, .int 0, .int 0] (rest := []) hX hC (ct_emit l S14 y0 0 0 _ h E _) (cw_X12_emit hts (by omega) (by omega)) rfl hl.1 (Nat.le_of_ble_eq_true rfl) ⟨Nat.zero_le _, Nat.zero_le _⟩ dX12_product_80 (fun r15 S15 H locs hC h => ?_)
        refine lv_istore_n (lv' := [(2, .int r15), (1, .int y0), (0, .ref E.2.1)]) hx hb dX12_product_83 rfl hl (by decide) rfl (fun ls hl => ?_)
        refine lv_iload_n hx hb dX12_product_84 rfl (lv_at hl 1 rfl) ?_
        refine lv_bipush (v := 6) hx hb dX12_product_85 (by decide) ?_
        refine lv_icmp_eq (tgt := 97) hx hb dX12_product_87 (by decide) (fun c16 => ?_) (fun c16 => ?_)
        · have h := h.1 c16
          exact cut97 S15 _ _ _ h hC (lv_sub hl [2] rfl)
        · have h := h.2 c16
          refine lv_aload_n hx hb dX12_product_90 rfl (lv_at hl 2 rfl) ?_
          refine lv_iconst (v := 4) hx hb dX12_product_91 (by decide) ?_
          refine lv_iconst (v := 0) hx hb dX12_product_92 (by decide) ?_
          refine mv_calli [.int 4, .int 0] (rest := []) hX hC (ct_then l S15 4 0 _ h E _) (cw_X12_then hts (by omega) (by omega)) rfl hl.1 (Nat.le_of_ble_eq_true rfl) ⟨Nat.zero_le _, Nat.zero_le _⟩ dX12_product_93 (fun r17 S17 H locs hC h => ?_)
          refine lv_istore_n (lv' := [(2, .int r17), (1, .int y0), (0, .ref E.2.1)]) hx hb dX12_product_96 rfl hl (by decide) rfl (fun ls hl => ?_)
          exact cut97 S17 _ _ _ h hC (lv_sub hl [2] rfl)
      have cut31 : ∀ (S : mS) (H : Heap) (locs : List Loc) (ls : Array Slot), wp_product_31 r_part K (it (ls_product_4 r_part K) n4) S → mC E A s.heap S H locs → lv_has ls 3 [(0, .ref E.2.1)] → W p l e R s m args below meth c H locs 0 0 Q (F0 m 31 ls []) := by
        intro S H locs ls h hC hl
        unfold wp_product_31 at h
        refine lv_aload_n hx hb dX12_product_31 rfl (lv_at hl 0 rfl) ?_
        refine lv_bipush (v := 42) hx hb dX12_product_32 (by decide) ?_
        refine mv_calli [.int 42] (rest := []) hX hC (ct_isSign l S 42 _ h E _) (cw_X12_isSign hts (by omega) (by omega)) rfl hl.1 (Nat.le_of_ble_eq_true rfl) ⟨Nat.zero_le _, Nat.zero_le _⟩ dX12_product_34 (fun r8 S8 H locs hC h => ?_)
        refine lv_if_eq (tgt := 45) hx hb dX12_product_37 (by decide) (fun c9 => ?_) (fun c9 => ?_)
        · have h := h.1 c9
          refine lv_aload_n hx hb dX12_product_45 rfl (lv_at hl 0 rfl) ?_
          refine lv_bipush (v := 47) hx hb dX12_product_46 (by decide) ?_
          refine mv_calli [.int 47] (rest := []) hX hC (ct_isSign l S8 47 _ h E _) (cw_X12_isSign hts (by omega) (by omega)) rfl hl.1 (Nat.le_of_ble_eq_true rfl) ⟨Nat.zero_le _, Nat.zero_le _⟩ dX12_product_48 (fun r10 S10 H locs hC h => ?_)
          refine lv_if_eq (tgt := 59) hx hb dX12_product_51 (by decide) (fun c11 => ?_) (fun c11 => ?_)
          · have h := h.1 c11
            refine lv_bipush (v := 8) hx hb dX12_product_59 (by decide) ?_
            exact cut61 8 S10 _ _ _ h hC (lv_sub hl [0] rfl)
          · have h := h.2 c11
            refine lv_bipush (v := 7) hx hb dX12_product_54 (by decide) ?_
            refine lv_goto (tgt := 61) hx hb dX12_product_56 (by decide) ?_
            exact cut61 7 S10 _ _ _ h hC (lv_sub hl [0] rfl)
        · have h := h.2 c9
          refine lv_bipush (v := 6) hx hb dX12_product_40 (by decide) ?_
          refine lv_goto (tgt := 61) hx hb dX12_product_42 (by decide) ?_
          exact cut61 6 S8 _ _ _ h hC (lv_sub hl [0] rfl)
      intro S H locs ls h hC hl
      have h : wp_product_4 r_part K (it (ls_product_4 r_part K) n4) S := h
      unfold wp_product_4 at h
      refine lv_aload_n hx hb dX12_product_4 rfl (lv_at hl 0 rfl) ?_
      refine lv_bipush (v := 42) hx hb dX12_product_5 (by decide) ?_
      refine mv_calli [.int 42] (rest := []) hX hC (ct_isSign l S 42 _ h E _) (cw_X12_isSign hts (by omega) (by omega)) rfl hl.1 (Nat.le_of_ble_eq_true rfl) ⟨Nat.zero_le _, Nat.zero_le _⟩ dX12_product_7 (fun r2 S2 H locs hC h => ?_)
      refine lv_if_ne (tgt := 31) hx hb dX12_product_10 (by decide) (fun c3 => ?_) (fun c3 => ?_)
      · have h := h.1 c3
        exact cut31 S2 _ _ _ h hC (lv_sub hl [0] rfl)
      · have h := h.2 c3
        refine lv_aload_n hx hb dX12_product_13 rfl (lv_at hl 0 rfl) ?_
        refine lv_bipush (v := 47) hx hb dX12_product_14 (by decide) ?_
        refine mv_calli [.int 47] (rest := []) hX hC (ct_isSign l S2 47 _ h E _) (cw_X12_isSign hts (by omega) (by omega)) rfl hl.1 (Nat.le_of_ble_eq_true rfl) ⟨Nat.zero_le _, Nat.zero_le _⟩ dX12_product_16 (fun r4 S4 H locs hC h => ?_)
        refine lv_if_ne (tgt := 31) hx hb dX12_product_19 (by decide) (fun c5 => ?_) (fun c5 => ?_)
        · have h := h.1 c5
          exact cut31 S4 _ _ _ h hC (lv_sub hl [0] rfl)
        · have h := h.2 c5
          refine lv_aload_n hx hb dX12_product_22 rfl (lv_at hl 0 rfl) ?_
          refine lv_bipush (v := 37) hx hb dX12_product_23 (by decide) ?_
          refine mv_calli [.int 37] (rest := []) hX hC (ct_isSign l S4 37 _ h E _) (cw_X12_isSign hts (by omega) (by omega)) rfl hl.1 (Nat.le_of_ble_eq_true rfl) ⟨Nat.zero_le _, Nat.zero_le _⟩ dX12_product_25 (fun r6 S6 H locs hC h => ?_)
          refine lv_if_eq (tgt := 100) hx hb dX12_product_28 (by decide) (fun c7 => ?_) (fun c7 => ?_)
          · have h := h.1 c7
            exact hret _ _ _ _ _ hC h dX12_product_100
          · have h := h.2 c7
            exact cut31 S6 _ _ _ h hC (lv_sub hl [0] rfl)
  have hl : lv_has ls 3 [(0, .ref E.2.1)] := hl
  unfold wp_product at h
  refine lv_aload_n hx hb dX12_product_0 rfl (lv_at hl 0 rfl) ?_
  refine mv_callv [] (rest := []) hX hC (hr_part S _ h E _) (cw_X12_part hts (by omega) (by omega)) rfl hl.1 (Nat.le_of_ble_eq_true rfl) ⟨Nat.zero_le _, Nat.zero_le _⟩ dX12_product_1 (fun S1 H locs hC h => ?_)
  obtain ⟨n9, h⟩ := h
  exact cut4 n9 S1 _ _ _ h hC (lv_sub hl [0] rfl)
