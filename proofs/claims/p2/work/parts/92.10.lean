theorem wd_405 : (Jvm.Cond.fieldLink "Sleepers$Parser" (188 : Nat) "Sleepers$Program" "arg" "[I") ∈ tb := tb_at 405 (by decide +kernel) (by decide +kernel)
theorem wd_731 : (Jvm.Cond.methodLink "Sleepers$Parser" (173 : Nat) ({ cls := "Sleepers$Parser", name := "waitFor", desc := "(I)V" } : Jvm.MethodName)) ∈ tb := tb_at 731 (by decide +kernel) (by decide +kernel)
theorem wd_733 : (Jvm.Cond.instanceMethod ({ cls := "Sleepers$Parser", name := "waitFor", desc := "(I)V" } : Jvm.MethodName)) ∈ tb := tb_at 733 (by decide +kernel) (by decide +kernel)
theorem wd_734 : (Jvm.Cond.code ({ cls := "Sleepers$Parser", name := "waitFor", desc := "(I)V" } : Jvm.MethodName) prog_5_method_22_code (7 : Nat) (Option.none : Option Jvm.ClassFile.FieldType)) ∈ tb := tb_at 734 (by decide +kernel) (by decide +kernel)
theorem wd_735 : (Jvm.Cond.methodLink "Sleepers$Parser" (218 : Nat) ({ cls := "Sleepers$Parser", name := "startsWait", desc := "(I)Z" } : Jvm.MethodName)) ∈ tb := tb_at 735 (by decide +kernel) (by decide +kernel)
theorem wd_736 : (Jvm.Cond.static ({ cls := "Sleepers$Parser", name := "startsWait", desc := "(I)Z" } : Jvm.MethodName)) ∈ tb := tb_at 736 (by decide +kernel) (by decide +kernel)
theorem wd_737 : (Jvm.Cond.code ({ cls := "Sleepers$Parser", name := "startsWait", desc := "(I)Z" } : Jvm.MethodName) prog_5_method_13_code (1 : Nat) (Option.some Jvm.ClassFile.FieldType.boolean)) ∈ tb := tb_at 737 (by decide +kernel) (by decide +kernel)
theorem wd_738 : (Jvm.Cond.methodLink "Sleepers$Parser" (161 : Nat) ({ cls := "Sleepers$Parser", name := "numberOf", desc := "(II)I" } : Jvm.MethodName)) ∈ tb := tb_at 738 (by decide +kernel) (by decide +kernel)
theorem wd_740 : (Jvm.Cond.instanceMethod ({ cls := "Sleepers$Parser", name := "numberOf", desc := "(II)I" } : Jvm.MethodName)) ∈ tb := tb_at 740 (by decide +kernel) (by decide +kernel)
theorem wd_741 : (Jvm.Cond.code ({ cls := "Sleepers$Parser", name := "numberOf", desc := "(II)I" } : Jvm.MethodName) prog_5_method_31_code (5 : Nat) (Option.some Jvm.ClassFile.FieldType.int)) ∈ tb := tb_at 741 (by decide +kernel) (by decide +kernel)
theorem wd_742 : (Jvm.Cond.methodLink "Sleepers$Parser" (221 : Nat) ({ cls := "Sleepers$Parser", name := "listed", desc := "(II)I" } : Jvm.MethodName)) ∈ tb := tb_at 742 (by decide +kernel) (by decide +kernel)
theorem wd_744 : (Jvm.Cond.instanceMethod ({ cls := "Sleepers$Parser", name := "listed", desc := "(II)I" } : Jvm.MethodName)) ∈ tb := tb_at 744 (by decide +kernel) (by decide +kernel)
theorem wd_745 : (Jvm.Cond.code ({ cls := "Sleepers$Parser", name := "listed", desc := "(II)I" } : Jvm.MethodName) prog_5_method_23_code (7 : Nat) (Option.some Jvm.ClassFile.FieldType.int)) ∈ tb := tb_at 745 (by decide +kernel) (by decide +kernel)
theorem wd_746 : (Jvm.Cond.methodLink "Sleepers$Parser" (224 : Nat) ({ cls := "Sleepers$Parser", name := "keepChild", desc := "(III)V" } : Jvm.MethodName)) ∈ tb := tb_at 746 (by decide +kernel) (by decide +kernel)
theorem wd_748 : (Jvm.Cond.instanceMethod ({ cls := "Sleepers$Parser", name := "keepChild", desc := "(III)V" } : Jvm.MethodName)) ∈ tb := tb_at 748 (by decide +kernel) (by decide +kernel)
theorem wd_749 : (Jvm.Cond.code ({ cls := "Sleepers$Parser", name := "keepChild", desc := "(III)V" } : Jvm.MethodName) prog_5_method_24_code (4 : Nat) (Option.none : Option Jvm.ClassFile.FieldType)) ∈ tb := tb_at 749 (by decide +kernel) (by decide +kernel)
theorem sl_X3_keepChild : Cond.selects RX3 yX3_keepChild yX3_keepChild ∈ tb := sl_of (y := ⟨"Sleepers$Parser", "keepChild", "(III)V"⟩) (n := 13) (by decide +kernel) (by decide +kernel)
theorem sl_X3_listed : Cond.selects RX3 yX3_listed yX3_listed ∈ tb := sl_of (y := ⟨"Sleepers$Parser", "listed", "(II)I"⟩) (n := 13) (by decide +kernel) (by decide +kernel)
theorem sl_X3_numberOf : Cond.selects RX3 yX3_numberOf yX3_numberOf ∈ tb := sl_of (y := ⟨"Sleepers$Parser", "numberOf", "(II)I"⟩) (n := 13) (by decide +kernel) (by decide +kernel)
theorem sl_X3_waitFor : Cond.selects RX3 yX3_waitFor yX3_waitFor ∈ tb := sl_of (y := ⟨"Sleepers$Parser", "waitFor", "(I)V"⟩) (n := 13) (by decide +kernel) (by decide +kernel)
theorem dX3_listed_0 : decode cX3_listed 0 = .ok (.iload_n 1, 1) := by decide +kernel
theorem dX3_listed_1 : decode cX3_listed 1 = .ok (.bipush 30, 2) := by decide +kernel
theorem dX3_listed_3 : decode cX3_listed 3 = .ok (.if_icmp .ne 7, 3) := by decide +kernel
theorem dX3_listed_6 : decode cX3_listed 6 = .ok (.iconst 1, 1) := by decide +kernel
theorem dX3_listed_7 : decode cX3_listed 7 = .ok (.goto 4, 3) := by decide +kernel
theorem dX3_listed_10 : decode cX3_listed 10 = .ok (.iconst 0, 1) := by decide +kernel
theorem dX3_listed_11 : decode cX3_listed 11 = .ok (.istore_n 3, 1) := by decide +kernel
theorem dX3_listed_12 : decode cX3_listed 12 = .ok (.iconst 0, 1) := by decide +kernel
theorem dX3_listed_13 : decode cX3_listed 13 = .ok (.istore 4, 2) := by decide +kernel
theorem dX3_listed_15 : decode cX3_listed 15 = .ok (.aload_n 0, 1) := by decide +kernel
theorem dX3_listed_16 : decode cX3_listed 16 = .ok (.bipush 40, 2) := by decide +kernel
theorem dX3_listed_18 : decode cX3_listed 18 = .ok (.invokevirtual 117, 3) := by decide +kernel
theorem dX3_listed_21 : decode cX3_listed 21 = .ok (.iload_n 3, 1) := by decide +kernel
theorem dX3_listed_22 : decode cX3_listed 22 = .ok (.ifCond .eq 12, 3) := by decide +kernel
theorem dX3_listed_25 : decode cX3_listed 25 = .ok (.aload_n 0, 1) := by decide +kernel
theorem dX3_listed_26 : decode cX3_listed 26 = .ok (.invokevirtual 62, 3) := by decide +kernel
theorem dX3_listed_29 : decode cX3_listed 29 = .ok (.bipush 41, 2) := by decide +kernel
theorem dX3_listed_31 : decode cX3_listed 31 = .ok (.if_icmp .eq 7, 3) := by decide +kernel
theorem dX3_listed_34 : decode cX3_listed 34 = .ok (.iconst 1, 1) := by decide +kernel
theorem dX3_listed_35 : decode cX3_listed 35 = .ok (.goto 4, 3) := by decide +kernel
theorem dX3_listed_38 : decode cX3_listed 38 = .ok (.iconst 0, 1) := by decide +kernel
theorem dX3_listed_39 : decode cX3_listed 39 = .ok (.istore 5, 2) := by decide +kernel
theorem dX3_listed_41 : decode cX3_listed 41 = .ok (.iconst 0, 1) := by decide +kernel
theorem dX3_listed_42 : decode cX3_listed 42 = .ok (.istore 6, 2) := by decide +kernel
theorem dX3_listed_44 : decode cX3_listed 44 = .ok (.iload 6, 2) := by decide +kernel
theorem dX3_listed_46 : decode cX3_listed 46 = .ok (.sipush 4000, 3) := by decide +kernel
theorem dX3_listed_49 : decode cX3_listed 49 = .ok (.if_icmp .ge 65, 3) := by decide +kernel
theorem dX3_listed_52 : decode cX3_listed 52 = .ok (.iload 5, 2) := by decide +kernel
theorem dX3_listed_54 : decode cX3_listed 54 = .ok (.ifCond .eq 60, 3) := by decide +kernel
theorem dX3_listed_57 : decode cX3_listed 57 = .ok (.iload_n 3, 1) := by decide +kernel
theorem dX3_listed_58 : decode cX3_listed 58 = .ok (.ifCond .eq 11, 3) := by decide +kernel
theorem dX3_listed_61 : decode cX3_listed 61 = .ok (.aload_n 0, 1) := by decide +kernel
theorem dX3_listed_62 : decode cX3_listed 62 = .ok (.iconst 0, 1) := by decide +kernel
theorem dX3_listed_63 : decode cX3_listed 63 = .ok (.invokevirtual 155, 3) := by decide +kernel
theorem dX3_listed_66 : decode cX3_listed 66 = .ok (.goto 31, 3) := by decide +kernel
theorem dX3_listed_69 : decode cX3_listed 69 = .ok (.iload 4, 2) := by decide +kernel
theorem dX3_listed_71 : decode cX3_listed 71 = .ok (.iconst 4, 1) := by decide +kernel
theorem dX3_listed_72 : decode cX3_listed 72 = .ok (.if_icmp .lt 18, 3) := by decide +kernel
theorem dX3_listed_75 : decode cX3_listed 75 = .ok (.aload_n 0, 1) := by decide +kernel
theorem dX3_listed_76 : decode cX3_listed 76 = .ok (.invokevirtual 62, 3) := by decide +kernel
theorem dX3_listed_79 : decode cX3_listed 79 = .ok (.invokestatic 218, 3) := by decide +kernel
theorem dX3_listed_82 : decode cX3_listed 82 = .ok (.ifCond .eq 8, 3) := by decide +kernel
theorem dX3_listed_85 : decode cX3_listed 85 = .ok (.aload_n 0, 1) := by decide +kernel
theorem dX3_listed_86 : decode cX3_listed 86 = .ok (.iconst 5, 1) := by decide +kernel
theorem dX3_listed_87 : decode cX3_listed 87 = .ok (.invokevirtual 78, 3) := by decide +kernel
theorem dX3_listed_90 : decode cX3_listed 90 = .ok (.aload_n 0, 1) := by decide +kernel
theorem dX3_listed_91 : decode cX3_listed 91 = .ok (.iload_n 2, 1) := by decide +kernel
theorem dX3_listed_92 : decode cX3_listed 92 = .ok (.iconst 1, 1) := by decide +kernel
theorem dX3_listed_93 : decode cX3_listed 93 = .ok (.iadd, 1) := by decide +kernel
theorem dX3_listed_94 : decode cX3_listed 94 = .ok (.invokevirtual 173, 3) := by decide +kernel
theorem dX3_listed_97 : decode cX3_listed 97 = .ok (.iinc 4 1, 3) := by decide +kernel
theorem dX3_listed_100 : decode cX3_listed 100 = .ok (.aload_n 0, 1) := by decide +kernel
theorem dX3_listed_101 : decode cX3_listed 101 = .ok (.bipush 44, 2) := by decide +kernel
theorem dX3_listed_103 : decode cX3_listed 103 = .ok (.invokevirtual 89, 3) := by decide +kernel
theorem dX3_listed_106 : decode cX3_listed 106 = .ok (.istore 5, 2) := by decide +kernel
theorem dX3_listed_108 : decode cX3_listed 108 = .ok (.iinc 6 1, 3) := by decide +kernel
theorem dX3_listed_111 : decode cX3_listed 111 = .ok (.goto (-67), 3) := by decide +kernel
theorem dX3_listed_114 : decode cX3_listed 114 = .ok (.aload_n 0, 1) := by decide +kernel
theorem dX3_listed_115 : decode cX3_listed 115 = .ok (.bipush 41, 2) := by decide +kernel
theorem dX3_listed_117 : decode cX3_listed 117 = .ok (.invokevirtual 117, 3) := by decide +kernel
theorem dX3_listed_120 : decode cX3_listed 120 = .ok (.iload 4, 2) := by decide +kernel
theorem dX3_listed_122 : decode cX3_listed 122 = .ok (.ireturn, 1) := by decide +kernel
theorem dX3_numberOf_0 : decode cX3_numberOf 0 = .ok (.aload_n 0, 1) := by decide +kernel
theorem dX3_numberOf_1 : decode cX3_numberOf 1 = .ok (.getfield 25, 3) := by decide +kernel
theorem dX3_numberOf_4 : decode cX3_numberOf 4 = .ok (.getfield 106, 3) := by decide +kernel
theorem dX3_numberOf_7 : decode cX3_numberOf 7 = .ok (.aload_n 0, 1) := by decide +kernel
theorem dX3_numberOf_8 : decode cX3_numberOf 8 = .ok (.getfield 43, 3) := by decide +kernel
theorem dX3_numberOf_11 : decode cX3_numberOf 11 = .ok (.laload, 1) := by decide +kernel
theorem dX3_numberOf_12 : decode cX3_numberOf 12 = .ok (.lstore_n 3, 1) := by decide +kernel
theorem dX3_numberOf_13 : decode cX3_numberOf 13 = .ok (.aload_n 0, 1) := by decide +kernel
theorem dX3_numberOf_14 : decode cX3_numberOf 14 = .ok (.invokevirtual 62, 3) := by decide +kernel
theorem dX3_numberOf_17 : decode cX3_numberOf 17 = .ok (.iconst 2, 1) := by decide +kernel
theorem dX3_numberOf_18 : decode cX3_numberOf 18 = .ok (.if_icmp .eq 10, 3) := by decide +kernel
theorem dX3_numberOf_21 : decode cX3_numberOf 21 = .ok (.aload_n 0, 1) := by decide +kernel
theorem dX3_numberOf_22 : decode cX3_numberOf 22 = .ok (.iconst 1, 1) := by decide +kernel
theorem dX3_numberOf_23 : decode cX3_numberOf 23 = .ok (.invokevirtual 78, 3) := by decide +kernel
theorem dX3_numberOf_26 : decode cX3_numberOf 26 = .ok (.iload_n 1, 1) := by decide +kernel
theorem dX3_numberOf_27 : decode cX3_numberOf 27 = .ok (.ireturn, 1) := by decide +kernel
theorem dX3_numberOf_28 : decode cX3_numberOf 28 = .ok (.lload_n 3, 1) := by decide +kernel
theorem dX3_numberOf_29 : decode cX3_numberOf 29 = .ok (.iload_n 1, 1) := by decide +kernel
theorem dX3_numberOf_30 : decode cX3_numberOf 30 = .ok (.i2l, 1) := by decide +kernel
theorem dX3_numberOf_31 : decode cX3_numberOf 31 = .ok (.lcmp, 1) := by decide +kernel
theorem dX3_numberOf_32 : decode cX3_numberOf 32 = .ok (.ifCond .lt 10, 3) := by decide +kernel
theorem dX3_numberOf_35 : decode cX3_numberOf 35 = .ok (.lload_n 3, 1) := by decide +kernel
theorem dX3_numberOf_36 : decode cX3_numberOf 36 = .ok (.iload_n 2, 1) := by decide +kernel
theorem dX3_numberOf_37 : decode cX3_numberOf 37 = .ok (.i2l, 1) := by decide +kernel
theorem dX3_numberOf_38 : decode cX3_numberOf 38 = .ok (.lcmp, 1) := by decide +kernel
theorem dX3_numberOf_39 : decode cX3_numberOf 39 = .ok (.ifCond .le 10, 3) := by decide +kernel
theorem dX3_numberOf_42 : decode cX3_numberOf 42 = .ok (.aload_n 0, 1) := by decide +kernel
theorem dX3_numberOf_43 : decode cX3_numberOf 43 = .ok (.iconst 4, 1) := by decide +kernel
theorem dX3_numberOf_44 : decode cX3_numberOf 44 = .ok (.invokevirtual 78, 3) := by decide +kernel
theorem dX3_numberOf_47 : decode cX3_numberOf 47 = .ok (.iload_n 1, 1) := by decide +kernel
theorem dX3_numberOf_48 : decode cX3_numberOf 48 = .ok (.ireturn, 1) := by decide +kernel
theorem dX3_numberOf_49 : decode cX3_numberOf 49 = .ok (.aload_n 0, 1) := by decide +kernel
theorem dX3_numberOf_50 : decode cX3_numberOf 50 = .ok (.invokevirtual 103, 3) := by decide +kernel
theorem dX3_numberOf_53 : decode cX3_numberOf 53 = .ok (.lload_n 3, 1) := by decide +kernel
theorem dX3_numberOf_54 : decode cX3_numberOf 54 = .ok (.l2i, 1) := by decide +kernel
theorem dX3_numberOf_55 : decode cX3_numberOf 55 = .ok (.ireturn, 1) := by decide +kernel
theorem dX3_waitFor_0 : decode cX3_waitFor 0 = .ok (.aload_n 0, 1) := by decide +kernel
theorem dX3_waitFor_1 : decode cX3_waitFor 1 = .ok (.invokevirtual 62, 3) := by decide +kernel
theorem dX3_waitFor_4 : decode cX3_waitFor 4 = .ok (.istore_n 2, 1) := by decide +kernel
theorem dX3_waitFor_5 : decode cX3_waitFor 5 = .ok (.iload_n 2, 1) := by decide +kernel
theorem dX3_waitFor_6 : decode cX3_waitFor 6 = .ok (.invokestatic 218, 3) := by decide +kernel
theorem dX3_waitFor_9 : decode cX3_waitFor 9 = .ok (.ifCond .ne 9, 3) := by decide +kernel
theorem dX3_waitFor_12 : decode cX3_waitFor 12 = .ok (.aload_n 0, 1) := by decide +kernel
theorem dX3_waitFor_13 : decode cX3_waitFor 13 = .ok (.iconst 1, 1) := by decide +kernel
theorem dX3_waitFor_14 : decode cX3_waitFor 14 = .ok (.invokevirtual 78, 3) := by decide +kernel
theorem dX3_waitFor_17 : decode cX3_waitFor 17 = .ok (.return_, 1) := by decide +kernel
theorem dX3_waitFor_18 : decode cX3_waitFor 18 = .ok (.iload_n 1, 1) := by decide +kernel
theorem dX3_waitFor_19 : decode cX3_waitFor 19 = .ok (.bipush 10, 2) := by decide +kernel
theorem dX3_waitFor_21 : decode cX3_waitFor 21 = .ok (.if_icmp .lt 9, 3) := by decide +kernel
theorem dX3_waitFor_24 : decode cX3_waitFor 24 = .ok (.aload_n 0, 1) := by decide +kernel
theorem dX3_waitFor_25 : decode cX3_waitFor 25 = .ok (.iconst 5, 1) := by decide +kernel
theorem dX3_waitFor_26 : decode cX3_waitFor 26 = .ok (.invokevirtual 78, 3) := by decide +kernel
theorem dX3_waitFor_29 : decode cX3_waitFor 29 = .ok (.return_, 1) := by decide +kernel
theorem dX3_waitFor_30 : decode cX3_waitFor 30 = .ok (.aload_n 0, 1) := by decide +kernel
theorem dX3_waitFor_31 : decode cX3_waitFor 31 = .ok (.invokevirtual 103, 3) := by decide +kernel
theorem dX3_waitFor_34 : decode cX3_waitFor 34 = .ok (.iload_n 2, 1) := by decide +kernel
theorem dX3_waitFor_35 : decode cX3_waitFor 35 = .ok (.tableswitch 176 213 219 #[41, 69, 58, 93, 176, 176, 137], 41) := by decide +kernel
theorem dX3_waitFor_76 : decode cX3_waitFor 76 = .ok (.aload_n 0, 1) := by decide +kernel
theorem dX3_waitFor_77 : decode cX3_waitFor 77 = .ok (.bipush 27, 2) := by decide +kernel
theorem dX3_waitFor_79 : decode cX3_waitFor 79 = .ok (.aload_n 0, 1) := by decide +kernel
theorem dX3_waitFor_80 : decode cX3_waitFor 80 = .ok (.iconst 0, 1) := by decide +kernel
theorem dX3_waitFor_81 : decode cX3_waitFor 81 = .ok (.bipush 7, 2) := by decide +kernel
theorem dX3_waitFor_83 : decode cX3_waitFor 83 = .ok (.invokevirtual 161, 3) := by decide +kernel
theorem dX3_waitFor_86 : decode cX3_waitFor 86 = .ok (.invokevirtual 139, 3) := by decide +kernel
theorem dX3_waitFor_89 : decode cX3_waitFor 89 = .ok (.pop, 1) := by decide +kernel
theorem dX3_waitFor_90 : decode cX3_waitFor 90 = .ok (.goto 171, 3) := by decide +kernel
theorem dX3_waitFor_93 : decode cX3_waitFor 93 = .ok (.aload_n 0, 1) := by decide +kernel
theorem dX3_waitFor_94 : decode cX3_waitFor 94 = .ok (.bipush 29, 2) := by decide +kernel
theorem dX3_waitFor_96 : decode cX3_waitFor 96 = .ok (.iconst 0, 1) := by decide +kernel
theorem dX3_waitFor_97 : decode cX3_waitFor 97 = .ok (.invokevirtual 139, 3) := by decide +kernel
theorem dX3_waitFor_100 : decode cX3_waitFor 100 = .ok (.pop, 1) := by decide +kernel
theorem dX3_waitFor_101 : decode cX3_waitFor 101 = .ok (.goto 160, 3) := by decide +kernel
theorem dX3_waitFor_104 : decode cX3_waitFor 104 = .ok (.aload_n 0, 1) := by decide +kernel
theorem dX3_waitFor_105 : decode cX3_waitFor 105 = .ok (.bipush 26, 2) := by decide +kernel
theorem dX3_waitFor_107 : decode cX3_waitFor 107 = .ok (.iconst 0, 1) := by decide +kernel
theorem dX3_waitFor_108 : decode cX3_waitFor 108 = .ok (.invokevirtual 139, 3) := by decide +kernel
theorem dX3_waitFor_111 : decode cX3_waitFor 111 = .ok (.pop, 1) := by decide +kernel
theorem dX3_waitFor_112 : decode cX3_waitFor 112 = .ok (.aload_n 0, 1) := by decide +kernel
theorem dX3_waitFor_113 : decode cX3_waitFor 113 = .ok (.iconst 0, 1) := by decide +kernel
theorem dX3_waitFor_114 : decode cX3_waitFor 114 = .ok (.invokevirtual 155, 3) := by decide +kernel
theorem dX3_waitFor_117 : decode cX3_waitFor 117 = .ok (.aload_n 0, 1) := by decide +kernel
theorem dX3_waitFor_118 : decode cX3_waitFor 118 = .ok (.bipush 28, 2) := by decide +kernel
theorem dX3_waitFor_120 : decode cX3_waitFor 120 = .ok (.iconst 0, 1) := by decide +kernel
theorem dX3_waitFor_121 : decode cX3_waitFor 121 = .ok (.invokevirtual 139, 3) := by decide +kernel
theorem dX3_waitFor_124 : decode cX3_waitFor 124 = .ok (.pop, 1) := by decide +kernel
theorem dX3_waitFor_125 : decode cX3_waitFor 125 = .ok (.goto 136, 3) := by decide +kernel
theorem dX3_waitFor_128 : decode cX3_waitFor 128 = .ok (.aload_n 0, 1) := by decide +kernel
theorem dX3_waitFor_129 : decode cX3_waitFor 129 = .ok (.bipush 26, 2) := by decide +kernel
theorem dX3_waitFor_131 : decode cX3_waitFor 131 = .ok (.iconst 0, 1) := by decide +kernel
theorem dX3_waitFor_132 : decode cX3_waitFor 132 = .ok (.invokevirtual 139, 3) := by decide +kernel
theorem dX3_waitFor_135 : decode cX3_waitFor 135 = .ok (.pop, 1) := by decide +kernel
theorem dX3_waitFor_136 : decode cX3_waitFor 136 = .ok (.aload_n 0, 1) := by decide +kernel
theorem dX3_waitFor_137 : decode cX3_waitFor 137 = .ok (.getfield 43, 3) := by decide +kernel
theorem dX3_waitFor_140 : decode cX3_waitFor 140 = .ok (.istore_n 3, 1) := by decide +kernel
theorem dX3_waitFor_141 : decode cX3_waitFor 141 = .ok (.aload_n 0, 1) := by decide +kernel
theorem dX3_waitFor_142 : decode cX3_waitFor 142 = .ok (.iconst 3, 1) := by decide +kernel
theorem dX3_waitFor_143 : decode cX3_waitFor 143 = .ok (.invokevirtual 117, 3) := by decide +kernel
theorem dX3_waitFor_146 : decode cX3_waitFor 146 = .ok (.aload_n 0, 1) := by decide +kernel
theorem dX3_waitFor_147 : decode cX3_waitFor 147 = .ok (.bipush 30, 2) := by decide +kernel
theorem dX3_waitFor_149 : decode cX3_waitFor 149 = .ok (.iload_n 1, 1) := by decide +kernel
theorem dX3_waitFor_150 : decode cX3_waitFor 150 = .ok (.invokevirtual 221, 3) := by decide +kernel
theorem dX3_waitFor_153 : decode cX3_waitFor 153 = .ok (.istore 4, 2) := by decide +kernel
theorem dX3_waitFor_155 : decode cX3_waitFor 155 = .ok (.aload_n 0, 1) := by decide +kernel
theorem dX3_waitFor_156 : decode cX3_waitFor 156 = .ok (.iload_n 3, 1) := by decide +kernel
theorem dX3_waitFor_157 : decode cX3_waitFor 157 = .ok (.iload 4, 2) := by decide +kernel
theorem dX3_waitFor_159 : decode cX3_waitFor 159 = .ok (.aload_n 0, 1) := by decide +kernel
theorem dX3_waitFor_160 : decode cX3_waitFor 160 = .ok (.bipush 30, 2) := by decide +kernel
theorem dX3_waitFor_162 : decode cX3_waitFor 162 = .ok (.iconst 0, 1) := by decide +kernel
theorem dX3_waitFor_163 : decode cX3_waitFor 163 = .ok (.invokevirtual 139, 3) := by decide +kernel
theorem dX3_waitFor_166 : decode cX3_waitFor 166 = .ok (.invokevirtual 224, 3) := by decide +kernel
theorem dX3_waitFor_169 : decode cX3_waitFor 169 = .ok (.goto 92, 3) := by decide +kernel
theorem dX3_waitFor_172 : decode cX3_waitFor 172 = .ok (.aload_n 0, 1) := by decide +kernel
theorem dX3_waitFor_173 : decode cX3_waitFor 173 = .ok (.bipush 26, 2) := by decide +kernel
theorem dX3_waitFor_175 : decode cX3_waitFor 175 = .ok (.iconst 0, 1) := by decide +kernel
theorem dX3_waitFor_176 : decode cX3_waitFor 176 = .ok (.invokevirtual 139, 3) := by decide +kernel
theorem dX3_waitFor_179 : decode cX3_waitFor 179 = .ok (.pop, 1) := by decide +kernel
theorem dX3_waitFor_180 : decode cX3_waitFor 180 = .ok (.aload_n 0, 1) := by decide +kernel
theorem dX3_waitFor_181 : decode cX3_waitFor 181 = .ok (.iconst 0, 1) := by decide +kernel
theorem dX3_waitFor_182 : decode cX3_waitFor 182 = .ok (.invokevirtual 155, 3) := by decide +kernel
theorem dX3_waitFor_185 : decode cX3_waitFor 185 = .ok (.aload_n 0, 1) := by decide +kernel
theorem dX3_waitFor_186 : decode cX3_waitFor 186 = .ok (.bipush 33, 2) := by decide +kernel
theorem dX3_waitFor_188 : decode cX3_waitFor 188 = .ok (.iconst 0, 1) := by decide +kernel
theorem dX3_waitFor_189 : decode cX3_waitFor 189 = .ok (.invokevirtual 139, 3) := by decide +kernel
theorem dX3_waitFor_192 : decode cX3_waitFor 192 = .ok (.pop, 1) := by decide +kernel
theorem dX3_waitFor_193 : decode cX3_waitFor 193 = .ok (.aload_n 0, 1) := by decide +kernel
theorem dX3_waitFor_194 : decode cX3_waitFor 194 = .ok (.iload_n 1, 1) := by decide +kernel
theorem dX3_waitFor_195 : decode cX3_waitFor 195 = .ok (.iconst 1, 1) := by decide +kernel
theorem dX3_waitFor_196 : decode cX3_waitFor 196 = .ok (.iadd, 1) := by decide +kernel
theorem dX3_waitFor_197 : decode cX3_waitFor 197 = .ok (.invokevirtual 173, 3) := by decide +kernel
theorem dX3_waitFor_200 : decode cX3_waitFor 200 = .ok (.aload_n 0, 1) := by decide +kernel
theorem dX3_waitFor_201 : decode cX3_waitFor 201 = .ok (.bipush 34, 2) := by decide +kernel
theorem dX3_waitFor_203 : decode cX3_waitFor 203 = .ok (.iconst 0, 1) := by decide +kernel
theorem dX3_waitFor_204 : decode cX3_waitFor 204 = .ok (.invokevirtual 139, 3) := by decide +kernel
theorem dX3_waitFor_207 : decode cX3_waitFor 207 = .ok (.pop, 1) := by decide +kernel
theorem dX3_waitFor_208 : decode cX3_waitFor 208 = .ok (.goto 53, 3) := by decide +kernel
theorem dX3_waitFor_211 : decode cX3_waitFor 211 = .ok (.iload_n 2, 1) := by decide +kernel
theorem dX3_waitFor_212 : decode cX3_waitFor 212 = .ok (.sipush 217, 3) := by decide +kernel
theorem dX3_waitFor_215 : decode cX3_waitFor 215 = .ok (.if_icmp .ne 8, 3) := by decide +kernel
theorem dX3_waitFor_218 : decode cX3_waitFor 218 = .ok (.bipush 31, 2) := by decide +kernel
theorem dX3_waitFor_220 : decode cX3_waitFor 220 = .ok (.goto 5, 3) := by decide +kernel
theorem dX3_waitFor_223 : decode cX3_waitFor 223 = .ok (.bipush 32, 2) := by decide +kernel
theorem dX3_waitFor_225 : decode cX3_waitFor 225 = .ok (.istore 5, 2) := by decide +kernel
theorem dX3_waitFor_227 : decode cX3_waitFor 227 = .ok (.aload_n 0, 1) := by decide +kernel
theorem dX3_waitFor_228 : decode cX3_waitFor 228 = .ok (.iload 5, 2) := by decide +kernel
theorem dX3_waitFor_230 : decode cX3_waitFor 230 = .ok (.iconst 0, 1) := by decide +kernel
theorem dX3_waitFor_231 : decode cX3_waitFor 231 = .ok (.invokevirtual 139, 3) := by decide +kernel
theorem dX3_waitFor_234 : decode cX3_waitFor 234 = .ok (.istore 6, 2) := by decide +kernel
theorem dX3_waitFor_236 : decode cX3_waitFor 236 = .ok (.aload_n 0, 1) := by decide +kernel
theorem dX3_waitFor_237 : decode cX3_waitFor 237 = .ok (.getfield 29, 3) := by decide +kernel
theorem dX3_waitFor_240 : decode cX3_waitFor 240 = .ok (.getfield 188, 3) := by decide +kernel
theorem dX3_waitFor_243 : decode cX3_waitFor 243 = .ok (.iload 6, 2) := by decide +kernel
theorem dX3_waitFor_245 : decode cX3_waitFor 245 = .ok (.aload_n 0, 1) := by decide +kernel
theorem dX3_waitFor_246 : decode cX3_waitFor 246 = .ok (.iload 5, 2) := by decide +kernel
theorem dX3_waitFor_248 : decode cX3_waitFor 248 = .ok (.iload_n 1, 1) := by decide +kernel
theorem dX3_waitFor_249 : decode cX3_waitFor 249 = .ok (.invokevirtual 221, 3) := by decide +kernel
theorem dX3_waitFor_252 : decode cX3_waitFor 252 = .ok (.iastore, 1) := by decide +kernel
theorem dX3_waitFor_253 : decode cX3_waitFor 253 = .ok (.aload_n 0, 1) := by decide +kernel
theorem dX3_waitFor_254 : decode cX3_waitFor 254 = .ok (.bipush 34, 2) := by decide +kernel
theorem dX3_waitFor_256 : decode cX3_waitFor 256 = .ok (.iconst 0, 1) := by decide +kernel
theorem dX3_waitFor_257 : decode cX3_waitFor 257 = .ok (.invokevirtual 139, 3) := by decide +kernel
theorem dX3_waitFor_260 : decode cX3_waitFor 260 = .ok (.pop, 1) := by decide +kernel
theorem dX3_waitFor_261 : decode cX3_waitFor 261 = .ok (.return_, 1) := by decide +kernel
theorem dX5_newWait_0 : decode cX5_newWait 0 = .ok (.aload_n 0, 1) := by decide +kernel
theorem dX5_newWait_1 : decode cX5_newWait 1 = .ok (.getfield 57, 3) := by decide +kernel
theorem dX5_newWait_4 : decode cX5_newWait 4 = .ok (.iconst 1, 1) := by decide +kernel
theorem dX5_newWait_5 : decode cX5_newWait 5 = .ok (.isub, 1) := by decide +kernel
theorem dX5_newWait_6 : decode cX5_newWait 6 = .ok (.istore_n 1, 1) := by decide +kernel
theorem dX5_newWait_7 : decode cX5_newWait 7 = .ok (.iload_n 1, 1) := by decide +kernel
theorem dX5_newWait_8 : decode cX5_newWait 8 = .ok (.ifCond .lt 14, 3) := by decide +kernel
theorem dX5_newWait_11 : decode cX5_newWait 11 = .ok (.aload_n 0, 1) := by decide +kernel
theorem dX5_newWait_12 : decode cX5_newWait 12 = .ok (.getfield 40, 3) := by decide +kernel
theorem dX5_newWait_15 : decode cX5_newWait 15 = .ok (.iload_n 1, 1) := by decide +kernel
theorem dX5_newWait_16 : decode cX5_newWait 16 = .ok (.iaload, 1) := by decide +kernel
theorem dX5_newWait_17 : decode cX5_newWait 17 = .ok (.bipush 16, 2) := by decide +kernel
theorem dX5_newWait_19 : decode cX5_newWait 19 = .ok (.if_icmp .lt 5, 3) := by decide +kernel
theorem dX5_newWait_22 : decode cX5_newWait 22 = .ok (.iconst (-1), 1) := by decide +kernel
theorem dX5_newWait_23 : decode cX5_newWait 23 = .ok (.ireturn, 1) := by decide +kernel
theorem dX5_newWait_24 : decode cX5_newWait 24 = .ok (.aload_n 0, 1) := by decide +kernel
theorem dX5_newWait_25 : decode cX5_newWait 25 = .ok (.getfield 40, 3) := by decide +kernel
theorem dX5_newWait_28 : decode cX5_newWait 28 = .ok (.iload_n 1, 1) := by decide +kernel
theorem dX5_newWait_29 : decode cX5_newWait 29 = .ok (.dup2, 1) := by decide +kernel
theorem dX5_newWait_30 : decode cX5_newWait 30 = .ok (.iaload, 1) := by decide +kernel
theorem dX5_newWait_31 : decode cX5_newWait 31 = .ok (.iconst 1, 1) := by decide +kernel
theorem dX5_newWait_32 : decode cX5_newWait 32 = .ok (.iadd, 1) := by decide +kernel
theorem dX5_newWait_33 : decode cX5_newWait 33 = .ok (.iastore, 1) := by decide +kernel
theorem dX5_newWait_34 : decode cX5_newWait 34 = .ok (.aload_n 0, 1) := by decide +kernel
theorem dX5_newWait_35 : decode cX5_newWait 35 = .ok (.getfield 40, 3) := by decide +kernel
theorem dX5_newWait_38 : decode cX5_newWait 38 = .ok (.iload_n 1, 1) := by decide +kernel
theorem dX5_newWait_39 : decode cX5_newWait 39 = .ok (.iaload, 1) := by decide +kernel
theorem dX5_newWait_40 : decode cX5_newWait 40 = .ok (.iconst 1, 1) := by decide +kernel
theorem dX5_newWait_41 : decode cX5_newWait 41 = .ok (.isub, 1) := by decide +kernel
theorem dX5_newWait_42 : decode cX5_newWait 42 = .ok (.ireturn, 1) := by decide +kernel
theorem dX5_setStand_0 : decode cX5_setStand 0 = .ok (.aload_n 0, 1) := by decide +kernel
theorem dX5_setStand_1 : decode cX5_setStand 1 = .ok (.getfield 57, 3) := by decide +kernel
theorem dX5_setStand_4 : decode cX5_setStand 4 = .ok (.ifCond .le 30, 3) := by decide +kernel
theorem dX5_setStand_7 : decode cX5_setStand 7 = .ok (.iload_n 1, 1) := by decide +kernel
theorem dX5_setStand_8 : decode cX5_setStand 8 = .ok (.ifCond .lt 26, 3) := by decide +kernel
theorem dX5_setStand_11 : decode cX5_setStand 11 = .ok (.iload_n 1, 1) := by decide +kernel
theorem dX5_setStand_12 : decode cX5_setStand 12 = .ok (.bipush 16, 2) := by decide +kernel
theorem dX5_setStand_14 : decode cX5_setStand 14 = .ok (.if_icmp .ge 20, 3) := by decide +kernel
theorem dX5_setStand_17 : decode cX5_setStand 17 = .ok (.aload_n 0, 1) := by decide +kernel
theorem dX5_setStand_18 : decode cX5_setStand 18 = .ok (.getfield 43, 3) := by decide +kernel
theorem dX5_setStand_21 : decode cX5_setStand 21 = .ok (.aload_n 0, 1) := by decide +kernel
theorem dX5_setStand_22 : decode cX5_setStand 22 = .ok (.getfield 57, 3) := by decide +kernel
theorem dX5_setStand_25 : decode cX5_setStand 25 = .ok (.iconst 1, 1) := by decide +kernel
theorem dX5_setStand_26 : decode cX5_setStand 26 = .ok (.isub, 1) := by decide +kernel
theorem dX5_setStand_27 : decode cX5_setStand 27 = .ok (.bipush 16, 2) := by decide +kernel
theorem dX5_setStand_29 : decode cX5_setStand 29 = .ok (.imul, 1) := by decide +kernel
theorem dX5_setStand_30 : decode cX5_setStand 30 = .ok (.iload_n 1, 1) := by decide +kernel
theorem dX5_setStand_31 : decode cX5_setStand 31 = .ok (.iadd, 1) := by decide +kernel
theorem dX5_setStand_32 : decode cX5_setStand 32 = .ok (.iload_n 2, 1) := by decide +kernel
theorem dX5_setStand_33 : decode cX5_setStand 33 = .ok (.iastore, 1) := by decide +kernel
theorem dX5_setStand_34 : decode cX5_setStand 34 = .ok (.return_, 1) := by decide +kernel
def wp_X3_numberOf_42 (K : kS → Int32 → Prop) (x0 : Nat) (x1 : Int32) (S : kS) : Prop := hasO S x0 3 ∧ wp_X3_wrong x0 4 S (fun (S18 : kS) => K S18 x1)
def wp_X3_numberOf (t0 : Nat) (a0 : Int32) (a1 : Int32) (S : kS) (K : kS → Int32 → Prop) : Prop := hasO S t0 3 ∧ ∀ z1 : Option Nat, z1 = S.2.1 14 t0 → ∃ q2 : Nat, z1 = some q2 ∧ hasO S q2 10 ∧ ∀ z3 : Option Nat, z3 = S.2.1 66 q2 → hasO S t0 3 ∧ ∀ z4 : Int32, z4 = S.1 6 t0 → ∃ q5 : Nat, z3 = some q5 ∧ hasA S q5 4002 1 ∧ inR z4 4002 ∧ ∀ z6 : Int64, z6 = S.2.2.2.1 q5 (ix z4) → hasO S t0 3 ∧ wp_X3_kind t0 S (fun (S7 : kS) (r7 : Int32) => ((r7 = 2 → ∀ z9 : Int64, z9 = Int32.toInt64 a0 → ∀ z10 : Int32, z10 = lg_cmp z6 z9 → ((z10 < 0 → wp_X3_numberOf_42 K t0 a0 S7) ∧ (¬ z10 < 0 → ∀ z12 : Int64, z12 = Int32.toInt64 a1 → ∀ z13 : Int32, z13 = lg_cmp z6 z12 → ((z13 ≤ 0 → hasO S7 t0 3 ∧ wp_X3_step t0 S7 (fun (S15 : kS) => ∀ z16 : Int32, z16 = Int64.toInt32 z6 → K S15 z16)) ∧ (¬ z13 ≤ 0 → wp_X3_numberOf_42 K t0 a0 S7))))) ∧ (¬ r7 = 2 → hasO S7 t0 3 ∧ wp_X3_wrong t0 1 S7 (fun (S17 : kS) => K S17 a0))))
set_option maxHeartbeats 4000000 in
set_option maxRecDepth 100000 in
theorem kt_X3_numberOf (l : Launch) (S : kS) (t0 : Nat) (a0 : Int32) (a1 : Int32) (K : kS → Int32 → Prop) (h : wp_X3_numberOf t0 a0 a1 S K) : kMi l yX3_numberOf cX3_numberOf 5 (some .int) 1 21 [.ref t0, .int a0, .int a1] S K := by
  refine kv_ofi (own := RX3) (by decide) rfl (Nat.le_of_ble_eq_true rfl) ?_
  intro E p e R s m args below meth c A ls Q hRf hRl hX hC hl hret
  have hx := hX.1.1
  have hb := hX.1.2.1
  have hown := hX.1.2.2.2.1
  have hts := hX.1.2.2.2.2
  have cut42 : ∀ (x0 : Nat) (x1 : Int32) (S : kS) (H : Heap) (locs : List Loc) (ls : Array Slot), wp_X3_numberOf_42 K x0 x1 S → cM E A s.heap S H locs → lv_has ls 5 [(0, .ref x0), (1, .int x1)] → W p l e R s m args below meth c H locs 0 0 Q (F0 m 42 ls []) := by
    intro x0 x1 S H locs ls h hC hl
    unfold wp_X3_numberOf_42 at h
    refine lv_aload_n hx hb dX3_numberOf_42 rfl (lv_at hl 0 rfl) ?_
    refine lv_iconst (v := 4) hx hb dX3_numberOf_43 (by decide) ?_
    refine kv_callv [.int 4] (rest := []) (ci := 3) rfl hX hC h.1 (kt_X3_wrong l S x0 4 _ h.2 E _) (cw_X3_78 hts (by omega) (by omega)) rfl hl.1 (Nat.le_of_ble_eq_true rfl) ⟨Nat.zero_le _, Nat.zero_le _⟩ dX3_numberOf_44 (fun S18 H locs hC h => ?_)
    refine lv_iload_n hx hb dX3_numberOf_47 rfl (lv_at hl 1 rfl) ?_
    exact hret _ _ _ _ _ _ hC h dX3_numberOf_48
  have hl : lv_has ls 5 [(0, .ref t0), (1, .int a0), (2, .int a1)] := hl
  unfold wp_X3_numberOf at h
  refine lv_aload_n hx hb dX3_numberOf_0 rfl (lv_at hl 0 rfl) ?_
  refine cq_getr (ci := 3) (k := 0) (f := 14) hX hC rfl in_X3 (by decide) wd_131 (fun _ h9 => h9) (fun _ _ => rfl) dX3_numberOf_1 h (fun z1 h => ?_)
  obtain ⟨q2, e9, hh⟩ := h
  subst e9
  have h := hh
  clear hh
  refine cq_getr (ci := 10) (k := 2) (f := 66) hX hC rfl in_X10 (by decide) wd_99 (fun _ h9 => h9) (fun _ _ => rfl) dX3_numberOf_4 h (fun z3 h => ?_)
  refine lv_aload_n hx hb dX3_numberOf_7 rfl (lv_at hl 0 rfl) ?_
  refine cq_geti (ci := 3) (k := 3) (f := 6) hX hC rfl in_X3 (by decide) wd_134 (fun _ h9 => h9) (fun _ _ => rfl) dX3_numberOf_8 h (fun z4 h => ?_)
  obtain ⟨q5, e9, hh⟩ := h
  subst e9
  have h := hh
  clear hh
  refine cq_lld hX hC dX3_numberOf_11 h (fun z6 h => ?_)
  refine lv_lstore_n (lv' := [(3, .long z6), (0, .ref t0), (1, .int a0), (2, .int a1)]) hx hb dX3_numberOf_12 rfl hl (by decide) rfl (fun ls hl => ?_)
  refine lv_aload_n hx hb dX3_numberOf_13 rfl (lv_at hl 1 rfl) ?_
  refine kv_calli [] (rest := []) (ci := 3) rfl hX hC h.1 (kt_X3_kind l S t0 _ h.2 E _) (cw_X3_62 hts (by omega) (by omega)) rfl hl.1 (Nat.le_of_ble_eq_true rfl) ⟨Nat.zero_le _, Nat.zero_le _⟩ dX3_numberOf_14 (fun r7 S7 H locs hC h => ?_)
  refine lv_iconst (v := 2) hx hb dX3_numberOf_17 (by decide) ?_
  refine lv_icmp_eq (tgt := 28) hx hb dX3_numberOf_18 (by decide) (fun c8 => ?_) (fun c8 => ?_)
  · have h := h.1 c8
    refine lv_lload_n hx hb dX3_numberOf_28 rfl (lv_at hl 0 rfl) ?_
    refine lv_iload_n hx hb dX3_numberOf_29 rfl (lv_at hl 2 rfl) ?_
    refine lq_i2l hx hb dX3_numberOf_30 h (fun z9 h => ?_)
    refine lq_lcmp hx hb dX3_numberOf_31 h (fun z10 h => ?_)
    refine lv_if_lt (tgt := 42) hx hb dX3_numberOf_32 (by decide) (fun c11 => ?_) (fun c11 => ?_)
    · have h := h.1 c11
      exact cut42 t0 a0 S7 _ _ _ h hC (lv_sub hl [1, 2] rfl)
    · have h := h.2 c11
      refine lv_lload_n hx hb dX3_numberOf_35 rfl (lv_at hl 0 rfl) ?_
      refine lv_iload_n hx hb dX3_numberOf_36 rfl (lv_at hl 3 rfl) ?_
      refine lq_i2l hx hb dX3_numberOf_37 h (fun z12 h => ?_)
      refine lq_lcmp hx hb dX3_numberOf_38 h (fun z13 h => ?_)
      refine lv_if_le (tgt := 49) hx hb dX3_numberOf_39 (by decide) (fun c14 => ?_) (fun c14 => ?_)
      · have h := h.1 c14
        refine lv_aload_n hx hb dX3_numberOf_49 rfl (lv_at hl 1 rfl) ?_
        refine kv_callv [] (rest := []) (ci := 3) rfl hX hC h.1 (kt_X3_step l S7 t0 _ h.2 E _) (cw_X3_103 hts (by omega) (by omega)) rfl hl.1 (Nat.le_of_ble_eq_true rfl) ⟨Nat.zero_le _, Nat.zero_le _⟩ dX3_numberOf_50 (fun S15 H locs hC h => ?_)
        refine lv_lload_n hx hb dX3_numberOf_53 rfl (lv_at hl 0 rfl) ?_
        refine lq_l2i hx hb dX3_numberOf_54 h (fun z16 h => ?_)
        exact hret _ _ _ _ _ _ hC h dX3_numberOf_55
      · have h := h.2 c14
        exact cut42 t0 a0 S7 _ _ _ h hC (lv_sub hl [1, 2] rfl)
  · have h := h.2 c8
    refine lv_aload_n hx hb dX3_numberOf_21 rfl (lv_at hl 1 rfl) ?_
    refine lv_iconst (v := 1) hx hb dX3_numberOf_22 (by decide) ?_
    refine kv_callv [.int 1] (rest := []) (ci := 3) rfl hX hC h.1 (kt_X3_wrong l S7 t0 1 _ h.2 E _) (cw_X3_78 hts (by omega) (by omega)) rfl hl.1 (Nat.le_of_ble_eq_true rfl) ⟨Nat.zero_le _, Nat.zero_le _⟩ dX3_numberOf_23 (fun S17 H locs hC h => ?_)
    refine lv_iload_n hx hb dX3_numberOf_26 rfl (lv_at hl 2 rfl) ?_
    exact hret _ _ _ _ _ _ hC h dX3_numberOf_27
def wp_X3_listed_114 (r_X3_waitFor : Nat → Int32 → kS → (kS → Prop) → Prop) (K : kS → Int32 → Prop) (x0 : Nat) (x4 : Int32) (S : kS) : Prop := hasO S x0 3 ∧ wp_X3_need x0 41 S (fun (S20 : kS) => K S20 x4)
def wp_X3_listed_97 (r_X3_waitFor : Nat → Int32 → kS → (kS → Prop) → Prop) (K : kS → Int32 → Prop) (k44 : Nat × Int32 × Int32 × Int32 × Int32 × Int32 × kS → Prop) (x0 : Nat) (x2 : Int32) (x3 : Int32) (x4 : Int32) (x6 : Int32) (S : kS) : Prop := ∀ z15 : Int32, z15 = x4 + 1 → hasO S x0 3 ∧ wp_X3_take x0 44 S (fun (S16 : kS) (r16 : Int32) => ∀ z17 : Int32, z17 = x6 + 1 → k44 (x0, x2, x3, z15, r16, z17, S16))
def wp_X3_listed_90 (r_X3_waitFor : Nat → Int32 → kS → (kS → Prop) → Prop) (K : kS → Int32 → Prop) (k44 : Nat × Int32 × Int32 × Int32 × Int32 × Int32 × kS → Prop) (x0 : Nat) (x2 : Int32) (x3 : Int32) (x4 : Int32) (x6 : Int32) (S : kS) : Prop := ∀ z18 : Int32, z18 = x2 + 1 → hasO S x0 3 ∧ r_X3_waitFor x0 z18 S (fun (S19 : kS) => wp_X3_listed_97 r_X3_waitFor K k44 x0 x2 x3 x4 x6 S19)
def wp_X3_listed_44 (r_X3_waitFor : Nat → Int32 → kS → (kS → Prop) → Prop) (K : kS → Int32 → Prop) (k44 : Nat × Int32 × Int32 × Int32 × Int32 × Int32 × kS → Prop) (x0 : Nat) (x2 : Int32) (x3 : Int32) (x4 : Int32) (x5 : Int32) (x6 : Int32) (S : kS) : Prop := ((4000 ≤ x6 → wp_X3_listed_114 r_X3_waitFor K x0 x4 S) ∧ (¬ 4000 ≤ x6 → ((x5 = 0 → wp_X3_listed_114 r_X3_waitFor K x0 x4 S) ∧ (¬ x5 = 0 → ((x3 = 0 → ((x4 < 4 → wp_X3_listed_90 r_X3_waitFor K k44 x0 x2 x3 x4 x6 S) ∧ (¬ x4 < 4 → hasO S x0 3 ∧ wp_X3_kind x0 S (fun (S10 : kS) (r10 : Int32) => wp_X3_startsWait r10 S10 (fun (S11 : kS) (r11 : Int32) => ((r11 = 0 → wp_X3_listed_90 r_X3_waitFor K k44 x0 x2 x3 x4 x6 S11) ∧ (¬ r11 = 0 → hasO S11 x0 3 ∧ wp_X3_wrong x0 5 S11 (fun (S13 : kS) => wp_X3_listed_90 r_X3_waitFor K k44 x0 x2 x3 x4 x6 S13)))))))) ∧ (¬ x3 = 0 → hasO S x0 3 ∧ wq_X3_expression x0 0 S (fun (S14 : kS) => wp_X3_listed_97 r_X3_waitFor K k44 x0 x2 x3 x4 x6 S14)))))))
def ls_X3_listed_44 (r_X3_waitFor : Nat → Int32 → kS → (kS → Prop) → Prop) (K : kS → Int32 → Prop) (k44 : Nat × Int32 × Int32 × Int32 × Int32 × Int32 × kS → Prop) (u : Nat × Int32 × Int32 × Int32 × Int32 × Int32 × kS) : Prop := wp_X3_listed_44 r_X3_waitFor K k44 u.1 u.2.1 u.2.2.1 u.2.2.2.1 u.2.2.2.2.1 u.2.2.2.2.2.1 u.2.2.2.2.2.2
def wp_X3_listed_39 (r_X3_waitFor : Nat → Int32 → kS → (kS → Prop) → Prop) (K : kS → Int32 → Prop) (x0 : Nat) (x2 : Int32) (x3 : Int32) (x4 : Int32) (y0 : Int32) (S : kS) : Prop := (∃ n9, it (ls_X3_listed_44 r_X3_waitFor K) n9 (x0, x2, x3, x4, y0, 0, S))
def wp_X3_listed_34 (r_X3_waitFor : Nat → Int32 → kS → (kS → Prop) → Prop) (K : kS → Int32 → Prop) (x0 : Nat) (x2 : Int32) (x3 : Int32) (x4 : Int32) (S : kS) : Prop := wp_X3_listed_39 r_X3_waitFor K x0 x2 x3 x4 1 S
def wp_X3_listed_11 (r_X3_waitFor : Nat → Int32 → kS → (kS → Prop) → Prop) (K : kS → Int32 → Prop) (x0 : Nat) (x2 : Int32) (y0 : Int32) (S : kS) : Prop := hasO S x0 3 ∧ wp_X3_need x0 40 S (fun (S2 : kS) => ((y0 = 0 → wp_X3_listed_34 r_X3_waitFor K x0 x2 y0 0 S2) ∧ (¬ y0 = 0 → hasO S2 x0 3 ∧ wp_X3_kind x0 S2 (fun (S4 : kS) (r4 : Int32) => ((r4 = 41 → wp_X3_listed_39 r_X3_waitFor K x0 x2 y0 0 0 S4) ∧ (¬ r4 = 41 → wp_X3_listed_34 r_X3_waitFor K x0 x2 y0 0 S4))))))
def wp_X3_listed (r_X3_waitFor : Nat → Int32 → kS → (kS → Prop) → Prop) (t0 : Nat) (a0 : Int32) (a1 : Int32) (S : kS) (K : kS → Int32 → Prop) : Prop := ((¬ a0 = 30 → wp_X3_listed_11 r_X3_waitFor K t0 a1 0 S) ∧ (a0 = 30 → wp_X3_listed_11 r_X3_waitFor K t0 a1 1 S))
theorem cw_X3_218 {R : Room} {s : State} {args : Array Value} {fr lo : Nat} (hts : ∀ w ∈ tb, w.before args s = true) (h1 : fr + 1 ≤ R.frames) (h2 : 8 + (1 + 11) + lo ≤ R.locals) : CallB R s args RX3 218 yX3_startsWait cX3_startsWait 1 (some .boolean) (.code yX3_startsWait cX3_startsWait 1 (some .boolean) :: tb) (mRm fr lo) 0 0 1 ∧ (Cond.static yX3_startsWait).before args s = true := cwS 1 hts (gd_S wd_735 wd_736 wd_7 wd_737) rfl rfl rfl (by decide +kernel) ⟨h1, h2⟩
theorem cw_X3_173 {R : Room} {s : State} {args : Array Value} {fr lo : Nat} (hts : ∀ w ∈ tb, w.before args s = true) (h1 : fr + 1 ≤ R.frames) (h2 : 8 + (7 + 11) + lo ≤ R.locals) : CallW R s args RX3 RX3 173 yX3_waitFor cX3_waitFor 7 none (.code yX3_waitFor cX3_waitFor 7 none :: tb) (mRm fr lo) 0 0 1 := cwV 1 hts (gd_V wd_731 wd_733 sl_X3_waitFor wd_7 wd_734) rfl rfl rfl (by decide +kernel) ⟨h1, h2⟩
set_option maxHeartbeats 4000000 in
set_option maxRecDepth 100000 in
theorem ko_X3_listed (l : Launch) (fr lo F Lo : Nat) (r_X3_waitFor : Nat → Int32 → kS → (kS → Prop) → Prop) (hr_X3_waitFor : ∀ (t0 : Nat) (a0 : Int32) (S : kS) (K : kS → Prop), r_X3_waitFor t0 a0 S K → kMv l yX3_waitFor cX3_waitFor 7 none fr lo [.ref t0, .int a0] S K) (hF : fr + 1 ≤ F) (hL : lo + 26 ≤ Lo) (hF0 : 57 ≤ F) (hL0 : 1309 ≤ Lo) (S : kS) (t0 : Nat) (a0 : Int32) (a1 : Int32) (K : kS → Int32 → Prop) (h : wp_X3_listed r_X3_waitFor t0 a0 a1 S K) : kMi l yX3_listed cX3_listed 7 (some .int) F Lo [.ref t0, .int a0, .int a1] S K := by
  refine kv_ofi (own := RX3) (by decide) rfl (Nat.le_of_ble_eq_true rfl) ?_
  intro E p e R s m args below meth c A ls Q hRf hRl hX hC hl hret
  have hx := hX.1.1
  have hb := hX.1.2.1
  have hown := hX.1.2.2.2.1
  have hts := hX.1.2.2.2.2
  have cut114 : ∀ (x0 : Nat) (x4 : Int32) (S : kS) (H : Heap) (locs : List Loc) (ls : Array Slot), wp_X3_listed_114 r_X3_waitFor K x0 x4 S → cM E A s.heap S H locs → lv_has ls 7 [(0, .ref x0), (4, .int x4)] → W p l e R s m args below meth c H locs 0 0 Q (F0 m 114 ls []) := by
    intro x0 x4 S H locs ls h hC hl
    unfold wp_X3_listed_114 at h
    refine lv_aload_n hx hb dX3_listed_114 rfl (lv_at hl 0 rfl) ?_
    refine lv_bipush (v := 41) hx hb dX3_listed_115 (by decide) ?_
    refine kv_callv [.int 41] (rest := []) (ci := 3) rfl hX hC h.1 (kt_X3_need l S x0 41 _ h.2 E _) (cw_X3_117 hts (by omega) (by omega)) rfl hl.1 (Nat.le_of_ble_eq_true rfl) ⟨Nat.zero_le _, Nat.zero_le _⟩ dX3_listed_117 (fun S20 H locs hC h => ?_)
    refine lv_iload hx hb dX3_listed_120 (lv_at hl 1 rfl) ?_
    exact hret _ _ _ _ _ _ hC h dX3_listed_122
  have cut44 : ∀ (n44 : Nat) (x0 : Nat) (x2 : Int32) (x3 : Int32) (x4 : Int32) (x5 : Int32) (x6 : Int32) (S : kS) (H : Heap) (locs : List Loc) (ls : Array Slot), it (ls_X3_listed_44 r_X3_waitFor K) n44 (x0, x2, x3, x4, x5, x6, S) → cM E A s.heap S H locs → lv_has ls 7 [(0, .ref x0), (2, .int x2), (3, .int x3), (4, .int x4), (5, .int x5), (6, .int x6)] → W p l e R s m args below meth c H locs 0 0 Q (F0 m 44 ls []) := by
    intro n44
    induction n44 with
    | zero => intro x0 x2 x3 x4 x5 x6 S H locs ls h hC hl; exact h.elim
    | succ n44 ih44 =>
      have cut97 : ∀ (x0 : Nat) (x2 : Int32) (x3 : Int32) (x4 : Int32) (x6 : Int32) (S : kS) (H : Heap) (locs : List Loc) (ls : Array Slot), wp_X3_listed_97 r_X3_waitFor K (it (ls_X3_listed_44 r_X3_waitFor K) n44) x0 x2 x3 x4 x6 S → cM E A s.heap S H locs → lv_has ls 7 [(0, .ref x0), (2, .int x2), (3, .int x3), (4, .int x4), (6, .int x6)] → W p l e R s m args below meth c H locs 0 0 Q (F0 m 97 ls []) := by
        intro x0 x2 x3 x4 x6 S H locs ls h hC hl
        unfold wp_X3_listed_97 at h
        obtain ⟨z15, ez15⟩ : ∃ y : Int32, y = x4 + 1 := ⟨_, rfl⟩
        have h := h z15 ez15
        refine lv_iinc (v := z15) (lv' := [(4, .int z15), (0, .ref x0), (2, .int x2), (3, .int x3), (6, .int x6)]) hx hb dX3_listed_97 hl (k := 3) rfl (by rw [ez15]; rfl) (by decide) rfl (fun ls hl => ?_)
        refine lv_aload_n hx hb dX3_listed_100 rfl (lv_at hl 1 rfl) ?_
        refine lv_bipush (v := 44) hx hb dX3_listed_101 (by decide) ?_
        refine kv_calli [.int 44] (rest := []) (ci := 3) rfl hX hC h.1 (kt_X3_take l S x0 44 _ h.2 E _) (cw_X3_89 hts (by omega) (by omega)) rfl hl.1 (Nat.le_of_ble_eq_true rfl) ⟨Nat.zero_le _, Nat.zero_le _⟩ dX3_listed_103 (fun r16 S16 H locs hC h => ?_)
        refine lv_istore (lv' := [(5, .int r16), (4, .int z15), (0, .ref x0), (2, .int x2), (3, .int x3), (6, .int x6)]) hx hb dX3_listed_106 hl (by decide) rfl (fun ls hl => ?_)
        obtain ⟨z17, ez17⟩ : ∃ y : Int32, y = x6 + 1 := ⟨_, rfl⟩
        have h := h z17 ez17
        refine lv_iinc (v := z17) (lv' := [(6, .int z17), (5, .int r16), (4, .int z15), (0, .ref x0), (2, .int x2), (3, .int x3)]) hx hb dX3_listed_108 hl (k := 5) rfl (by rw [ez17]; rfl) (by decide) rfl (fun ls hl => ?_)
        refine lv_goto (tgt := 44) hx hb dX3_listed_111 (by decide) ?_
        exact ih44 x0 x2 x3 z15 r16 z17 S16 _ _ _ h hC (lv_sub hl [3, 4, 5, 2, 1, 0] rfl)
      have cut90 : ∀ (x0 : Nat) (x2 : Int32) (x3 : Int32) (x4 : Int32) (x6 : Int32) (S : kS) (H : Heap) (locs : List Loc) (ls : Array Slot), wp_X3_listed_90 r_X3_waitFor K (it (ls_X3_listed_44 r_X3_waitFor K) n44) x0 x2 x3 x4 x6 S → cM E A s.heap S H locs → lv_has ls 7 [(0, .ref x0), (2, .int x2), (3, .int x3), (4, .int x4), (6, .int x6)] → W p l e R s m args below meth c H locs 0 0 Q (F0 m 90 ls []) := by
        intro x0 x2 x3 x4 x6 S H locs ls h hC hl
        unfold wp_X3_listed_90 at h
        refine lv_aload_n hx hb dX3_listed_90 rfl (lv_at hl 0 rfl) ?_
        refine lv_iload_n hx hb dX3_listed_91 rfl (lv_at hl 1 rfl) ?_
        refine lv_iconst (v := 1) hx hb dX3_listed_92 (by decide) ?_
        refine lq_iadd hx hb dX3_listed_93 h (fun z18 h => ?_)
        refine kv_callv [.int z18] (rest := []) (ci := 3) rfl hX hC h.1 (hr_X3_waitFor x0 z18 S _ h.2 E _) (cw_X3_173 hts (by omega) (by omega)) rfl hl.1 (Nat.le_of_ble_eq_true rfl) ⟨Nat.zero_le _, Nat.zero_le _⟩ dX3_listed_94 (fun S19 H locs hC h => ?_)
        exact cut97 x0 x2 x3 x4 x6 S19 _ _ _ h hC (lv_sub hl [0, 1, 2, 3, 4] rfl)
      intro x0 x2 x3 x4 x5 x6 S H locs ls h hC hl
      have h : wp_X3_listed_44 r_X3_waitFor K (it (ls_X3_listed_44 r_X3_waitFor K) n44) x0 x2 x3 x4 x5 x6 S := h
      unfold wp_X3_listed_44 at h
      refine lv_iload hx hb dX3_listed_44 (lv_at hl 5 rfl) ?_
      refine lv_sipush (v := 4000) hx hb dX3_listed_46 (by decide) ?_
      refine lv_icmp_ge (tgt := 114) hx hb dX3_listed_49 (by decide) (fun c6 => ?_) (fun c6 => ?_)
      · have h := h.1 c6
        exact cut114 x0 x4 S _ _ _ h hC (lv_sub hl [0, 3] rfl)
      · have h := h.2 c6
        refine lv_iload hx hb dX3_listed_52 (lv_at hl 4 rfl) ?_
        refine lv_if_eq (tgt := 114) hx hb dX3_listed_54 (by decide) (fun c7 => ?_) (fun c7 => ?_)
        · have h := h.1 c7
          exact cut114 x0 x4 S _ _ _ h hC (lv_sub hl [0, 3] rfl)
        · have h := h.2 c7
          refine lv_iload_n hx hb dX3_listed_57 rfl (lv_at hl 2 rfl) ?_
          refine lv_if_eq (tgt := 69) hx hb dX3_listed_58 (by decide) (fun c8 => ?_) (fun c8 => ?_)
          · have h := h.1 c8
            refine lv_iload hx hb dX3_listed_69 (lv_at hl 3 rfl) ?_
            refine lv_iconst (v := 4) hx hb dX3_listed_71 (by decide) ?_
            refine lv_icmp_lt (tgt := 90) hx hb dX3_listed_72 (by decide) (fun c9 => ?_) (fun c9 => ?_)
            · have h := h.1 c9
              exact cut90 x0 x2 x3 x4 x6 S _ _ _ h hC (lv_sub hl [0, 1, 2, 3, 5] rfl)
            · have h := h.2 c9
              refine lv_aload_n hx hb dX3_listed_75 rfl (lv_at hl 0 rfl) ?_
              refine kv_calli [] (rest := []) (ci := 3) rfl hX hC h.1 (kt_X3_kind l S x0 _ h.2 E _) (cw_X3_62 hts (by omega) (by omega)) rfl hl.1 (Nat.le_of_ble_eq_true rfl) ⟨Nat.zero_le _, Nat.zero_le _⟩ dX3_listed_76 (fun r10 S10 H locs hC h => ?_)
              refine kv_callsi [.int r10] (rest := []) hX hC (kt_X3_startsWait l S10 r10 _ h E _) (cw_X3_218 hts (by omega) (by omega)) rfl hl.1 (Nat.le_of_ble_eq_true rfl) ⟨Nat.zero_le _, Nat.zero_le _⟩ dX3_listed_79 (fun r11 S11 H locs hC h => ?_)
              refine lv_if_eq (tgt := 90) hx hb dX3_listed_82 (by decide) (fun c12 => ?_) (fun c12 => ?_)
              · have h := h.1 c12
                exact cut90 x0 x2 x3 x4 x6 S11 _ _ _ h hC (lv_sub hl [0, 1, 2, 3, 5] rfl)
              · have h := h.2 c12
                refine lv_aload_n hx hb dX3_listed_85 rfl (lv_at hl 0 rfl) ?_
                refine lv_iconst (v := 5) hx hb dX3_listed_86 (by decide) ?_
                refine kv_callv [.int 5] (rest := []) (ci := 3) rfl hX hC h.1 (kt_X3_wrong l S11 x0 5 _ h.2 E _) (cw_X3_78 hts (by omega) (by omega)) rfl hl.1 (Nat.le_of_ble_eq_true rfl) ⟨Nat.zero_le _, Nat.zero_le _⟩ dX3_listed_87 (fun S13 H locs hC h => ?_)
                exact cut90 x0 x2 x3 x4 x6 S13 _ _ _ h hC (lv_sub hl [0, 1, 2, 3, 5] rfl)
          · have h := h.2 c8
            refine lv_aload_n hx hb dX3_listed_61 rfl (lv_at hl 0 rfl) ?_
            refine lv_iconst (v := 0) hx hb dX3_listed_62 (by decide) ?_
            refine kv_callv [.int 0] (rest := []) (ci := 3) rfl hX hC h.1 (kt_X3_expression l S x0 0 _ h.2 E _) (cw_X3_155 hts (by omega) (by omega)) rfl hl.1 (Nat.le_of_ble_eq_true rfl) ⟨Nat.zero_le _, Nat.zero_le _⟩ dX3_listed_63 (fun S14 H locs hC h => ?_)
            refine lv_goto (tgt := 97) hx hb dX3_listed_66 (by decide) ?_
            exact cut97 x0 x2 x3 x4 x6 S14 _ _ _ h hC (lv_sub hl [0, 1, 2, 3, 5] rfl)
  have cut39 : ∀ (x0 : Nat) (x2 : Int32) (x3 : Int32) (x4 : Int32) (y0 : Int32) (S : kS) (H : Heap) (locs : List Loc) (ls : Array Slot), wp_X3_listed_39 r_X3_waitFor K x0 x2 x3 x4 y0 S → cM E A s.heap S H locs → lv_has ls 7 [(0, .ref x0), (2, .int x2), (3, .int x3), (4, .int x4)] → W p l e R s m args below meth c H locs 0 0 Q (F0 m 39 ls [.int y0]) := by
    intro x0 x2 x3 x4 y0 S H locs ls h hC hl
    unfold wp_X3_listed_39 at h
    refine lv_istore (lv' := [(5, .int y0), (0, .ref x0), (2, .int x2), (3, .int x3), (4, .int x4)]) hx hb dX3_listed_39 hl (by decide) rfl (fun ls hl => ?_)
    refine lv_iconst (v := 0) hx hb dX3_listed_41 (by decide) ?_
    refine lv_istore (lv' := [(6, .int 0), (5, .int y0), (0, .ref x0), (2, .int x2), (3, .int x3), (4, .int x4)]) hx hb dX3_listed_42 hl (by decide) rfl (fun ls hl => ?_)
    obtain ⟨n9, h⟩ := h
    exact cut44 n9 x0 x2 x3 x4 y0 0 S _ _ _ h hC (lv_sub hl [2, 3, 4, 5, 1, 0] rfl)
  have cut34 : ∀ (x0 : Nat) (x2 : Int32) (x3 : Int32) (x4 : Int32) (S : kS) (H : Heap) (locs : List Loc) (ls : Array Slot), wp_X3_listed_34 r_X3_waitFor K x0 x2 x3 x4 S → cM E A s.heap S H locs → lv_has ls 7 [(0, .ref x0), (2, .int x2), (3, .int x3), (4, .int x4)] → W p l e R s m args below meth c H locs 0 0 Q (F0 m 34 ls []) := by
    intro x0 x2 x3 x4 S H locs ls h hC hl
    unfold wp_X3_listed_34 at h
    refine lv_iconst (v := 1) hx hb dX3_listed_34 (by decide) ?_
    refine lv_goto (tgt := 39) hx hb dX3_listed_35 (by decide) ?_
    exact cut39 x0 x2 x3 x4 1 S _ _ _ h hC (lv_sub hl [0, 1, 2, 3] rfl)
  have cut11 : ∀ (x0 : Nat) (x2 : Int32) (y0 : Int32) (S : kS) (H : Heap) (locs : List Loc) (ls : Array Slot), wp_X3_listed_11 r_X3_waitFor K x0 x2 y0 S → cM E A s.heap S H locs → lv_has ls 7 [(0, .ref x0), (2, .int x2)] → W p l e R s m args below meth c H locs 0 0 Q (F0 m 11 ls [.int y0]) := by
    intro x0 x2 y0 S H locs ls h hC hl
    unfold wp_X3_listed_11 at h
    refine lv_istore_n (lv' := [(3, .int y0), (0, .ref x0), (2, .int x2)]) hx hb dX3_listed_11 rfl hl (by decide) rfl (fun ls hl => ?_)
    refine lv_iconst (v := 0) hx hb dX3_listed_12 (by decide) ?_
    refine lv_istore (lv' := [(4, .int 0), (3, .int y0), (0, .ref x0), (2, .int x2)]) hx hb dX3_listed_13 hl (by decide) rfl (fun ls hl => ?_)
    refine lv_aload_n hx hb dX3_listed_15 rfl (lv_at hl 2 rfl) ?_
    refine lv_bipush (v := 40) hx hb dX3_listed_16 (by decide) ?_
    refine kv_callv [.int 40] (rest := []) (ci := 3) rfl hX hC h.1 (kt_X3_need l S x0 40 _ h.2 E _) (cw_X3_117 hts (by omega) (by omega)) rfl hl.1 (Nat.le_of_ble_eq_true rfl) ⟨Nat.zero_le _, Nat.zero_le _⟩ dX3_listed_18 (fun S2 H locs hC h => ?_)
    refine lv_iload_n hx hb dX3_listed_21 rfl (lv_at hl 1 rfl) ?_
    refine lv_if_eq (tgt := 34) hx hb dX3_listed_22 (by decide) (fun c3 => ?_) (fun c3 => ?_)
    · have h := h.1 c3
      exact cut34 x0 x2 y0 0 S2 _ _ _ h hC (lv_sub hl [2, 3, 1, 0] rfl)
    · have h := h.2 c3
      refine lv_aload_n hx hb dX3_listed_25 rfl (lv_at hl 2 rfl) ?_
      refine kv_calli [] (rest := []) (ci := 3) rfl hX hC h.1 (kt_X3_kind l S2 x0 _ h.2 E _) (cw_X3_62 hts (by omega) (by omega)) rfl hl.1 (Nat.le_of_ble_eq_true rfl) ⟨Nat.zero_le _, Nat.zero_le _⟩ dX3_listed_26 (fun r4 S4 H locs hC h => ?_)
      refine lv_bipush (v := 41) hx hb dX3_listed_29 (by decide) ?_
      refine lv_icmp_eq (tgt := 38) hx hb dX3_listed_31 (by decide) (fun c5 => ?_) (fun c5 => ?_)
      · have h := h.1 c5
        refine lv_iconst (v := 0) hx hb dX3_listed_38 (by decide) ?_
        exact cut39 x0 x2 y0 0 0 S4 _ _ _ h hC (lv_sub hl [2, 3, 1, 0] rfl)
      · have h := h.2 c5
        exact cut34 x0 x2 y0 0 S4 _ _ _ h hC (lv_sub hl [2, 3, 1, 0] rfl)
  have hl : lv_has ls 7 [(0, .ref t0), (1, .int a0), (2, .int a1)] := hl
  unfold wp_X3_listed at h
  refine lv_iload_n hx hb dX3_listed_0 rfl (lv_at hl 1 rfl) ?_
  refine lv_bipush (v := 30) hx hb dX3_listed_1 (by decide) ?_
  refine lv_icmp_ne (tgt := 10) hx hb dX3_listed_3 (by decide) (fun c1 => ?_) (fun c1 => ?_)
  · have h := h.1 c1
    refine lv_iconst (v := 0) hx hb dX3_listed_10 (by decide) ?_
    exact cut11 t0 a1 0 S _ _ _ h hC (lv_sub hl [0, 2] rfl)
  · have h := h.2 c1
    refine lv_iconst (v := 1) hx hb dX3_listed_6 (by decide) ?_
    refine lv_goto (tgt := 11) hx hb dX3_listed_7 (by decide) ?_
    exact cut11 t0 a1 1 S _ _ _ h hC (lv_sub hl [0, 2] rfl)
def wp_X3_waitFor_225 (r_X3_waitFor : Nat → Int32 → kS → (kS → Prop) → Prop) (K : kS → Prop) (x0 : Nat) (x1 : Int32) (y0 : Int32) (S : kS) : Prop := hasO S x0 3 ∧ wp_X3_emit x0 y0 0 S (fun (S36 : kS) (r36 : Int32) => hasO S36 x0 3 ∧ ∀ z37 : Option Nat, z37 = S36.2.1 15 x0 → ∃ q38 : Nat, z37 = some q38 ∧ hasO S36 q38 5 ∧ ∀ z39 : Option Nat, z39 = S36.2.1 29 q38 → hasO S36 x0 3 ∧ wp_X3_listed r_X3_waitFor x0 y0 x1 S36 (fun (S40 : kS) (r40 : Int32) => ∃ q41 : Nat, z39 = some q41 ∧ hasA S40 q41 8064 0 ∧ inR r36 8064 ∧ ∀ S42 : kS, S42 = cA S40 q41 (ix r36) r40 → hasO S42 x0 3 ∧ wp_X3_emit x0 34 0 S42 (fun (S43 : kS) (r43 : Int32) => K S43)))
def wp_X3_waitFor (r_X3_waitFor : Nat → Int32 → kS → (kS → Prop) → Prop) (t0 : Nat) (a0 : Int32) (S : kS) (K : kS → Prop) : Prop := hasO S t0 3 ∧ wp_X3_kind t0 S (fun (S1 : kS) (r1 : Int32) => wp_X3_startsWait r1 S1 (fun (S2 : kS) (r2 : Int32) => ((¬ r2 = 0 → ((a0 < 10 → hasO S2 t0 3 ∧ wp_X3_step t0 S2 (fun (S5 : kS) => ((r1 = 213 → hasO S5 t0 3 ∧ wp_X3_numberOf t0 0 7 S5 (fun (S7 : kS) (r7 : Int32) => hasO S7 t0 3 ∧ wp_X3_emit t0 27 r7 S7 (fun (S8 : kS) (r8 : Int32) => K S8))) ∧ (¬ r1 = 213 → ((r1 = 214 → hasO S5 t0 3 ∧ wp_X3_emit t0 26 0 S5 (fun (S10 : kS) (r10 : Int32) => hasO S10 t0 3 ∧ wq_X3_expression t0 0 S10 (fun (S11 : kS) => hasO S11 t0 3 ∧ wp_X3_emit t0 28 0 S11 (fun (S12 : kS) (r12 : Int32) => K S12)))) ∧ (¬ r1 = 214 → ((r1 = 215 → hasO S5 t0 3 ∧ wp_X3_emit t0 29 0 S5 (fun (S14 : kS) (r14 : Int32) => K S14)) ∧ (¬ r1 = 215 → ((r1 = 216 → hasO S5 t0 3 ∧ wp_X3_emit t0 26 0 S5 (fun (S16 : kS) (r16 : Int32) => hasO S16 t0 3 ∧ ∀ z17 : Int32, z17 = S16.1 6 t0 → hasO S16 t0 3 ∧ wp_X3_need t0 3 S16 (fun (S18 : kS) => hasO S18 t0 3 ∧ wp_X3_listed r_X3_waitFor t0 30 a0 S18 (fun (S19 : kS) (r19 : Int32) => hasO S19 t0 3 ∧ wp_X3_emit t0 30 0 S19 (fun (S20 : kS) (r20 : Int32) => hasO S20 t0 3 ∧ wp_X3_keepChild t0 z17 r19 r20 S20 (fun (S21 : kS) => K S21)))))) ∧ (¬ r1 = 216 → ((r1 = 217 → ((¬ r1 = 217 → wp_X3_waitFor_225 r_X3_waitFor K t0 a0 32 S5) ∧ (r1 = 217 → wp_X3_waitFor_225 r_X3_waitFor K t0 a0 31 S5))) ∧ (¬ r1 = 217 → ((r1 = 218 → ((¬ r1 = 217 → wp_X3_waitFor_225 r_X3_waitFor K t0 a0 32 S5) ∧ (r1 = 217 → wp_X3_waitFor_225 r_X3_waitFor K t0 a0 31 S5))) ∧ (¬ r1 = 218 → ((r1 = 219 → hasO S5 t0 3 ∧ wp_X3_emit t0 26 0 S5 (fun (S27 : kS) (r27 : Int32) => hasO S27 t0 3 ∧ wq_X3_expression t0 0 S27 (fun (S28 : kS) => hasO S28 t0 3 ∧ wp_X3_emit t0 33 0 S28 (fun (S29 : kS) (r29 : Int32) => ∀ z30 : Int32, z30 = a0 + 1 → hasO S29 t0 3 ∧ r_X3_waitFor t0 z30 S29 (fun (S31 : kS) => hasO S31 t0 3 ∧ wp_X3_emit t0 34 0 S31 (fun (S32 : kS) (r32 : Int32) => K S32)))))) ∧ (¬ r1 = 219 → ((¬ r1 = 217 → wp_X3_waitFor_225 r_X3_waitFor K t0 a0 32 S5) ∧ (r1 = 217 → wp_X3_waitFor_225 r_X3_waitFor K t0 a0 31 S5)))))))))))))))))) ∧ (¬ a0 < 10 → hasO S2 t0 3 ∧ wp_X3_wrong t0 5 S2 (fun (S34 : kS) => K S34)))) ∧ (r2 = 0 → hasO S2 t0 3 ∧ wp_X3_wrong t0 1 S2 (fun (S35 : kS) => K S35)))))
theorem cw_X3_161 {R : Room} {s : State} {args : Array Value} {fr lo : Nat} (hts : ∀ w ∈ tb, w.before args s = true) (h1 : fr + 1 ≤ R.frames) (h2 : 8 + (5 + 11) + lo ≤ R.locals) : CallW R s args RX3 RX3 161 yX3_numberOf cX3_numberOf 5 (some .int) (.code yX3_numberOf cX3_numberOf 5 (some .int) :: tb) (mRm fr lo) 0 0 2 := cwV 2 hts (gd_V wd_738 wd_740 sl_X3_numberOf wd_7 wd_741) rfl rfl rfl (by decide +kernel) ⟨h1, h2⟩
theorem cw_X3_221 {R : Room} {s : State} {args : Array Value} {fr lo : Nat} (hts : ∀ w ∈ tb, w.before args s = true) (h1 : fr + 1 ≤ R.frames) (h2 : 8 + (7 + 11) + lo ≤ R.locals) : CallW R s args RX3 RX3 221 yX3_listed cX3_listed 7 (some .int) (.code yX3_listed cX3_listed 7 (some .int) :: tb) (mRm fr lo) 0 0 2 := cwV 2 hts (gd_V wd_742 wd_744 sl_X3_listed wd_7 wd_745) rfl rfl rfl (by decide +kernel) ⟨h1, h2⟩
theorem cw_X3_224 {R : Room} {s : State} {args : Array Value} {fr lo : Nat} (hts : ∀ w ∈ tb, w.before args s = true) (h1 : fr + 1 ≤ R.frames) (h2 : 8 + (4 + 11) + lo ≤ R.locals) : CallW R s args RX3 RX3 224 yX3_keepChild cX3_keepChild 4 none (.code yX3_keepChild cX3_keepChild 4 none :: tb) (mRm fr lo) 0 0 3 := cwV 3 hts (gd_V wd_746 wd_748 sl_X3_keepChild wd_7 wd_749) rfl rfl rfl (by decide +kernel) ⟨h1, h2⟩
set_option maxHeartbeats 4000000 in
set_option maxRecDepth 100000 in
theorem ko_X3_waitFor (l : Launch) (fr lo F Lo : Nat) (r_X3_waitFor : Nat → Int32 → kS → (kS → Prop) → Prop) (hr_X3_waitFor : ∀ (t0 : Nat) (a0 : Int32) (S : kS) (K : kS → Prop), r_X3_waitFor t0 a0 S K → kMv l yX3_waitFor cX3_waitFor 7 none fr lo [.ref t0, .int a0] S K) (hF : fr + 2 ≤ F) (hL : lo + 52 ≤ Lo) (hF0 : 58 ≤ F) (hL0 : 1335 ≤ Lo) (S : kS) (t0 : Nat) (a0 : Int32) (K : kS → Prop) (h : wp_X3_waitFor r_X3_waitFor t0 a0 S K) : kMv l yX3_waitFor cX3_waitFor 7 none F Lo [.ref t0, .int a0] S K := by
  refine kv_ofv (own := RX3) (by decide) rfl (Nat.le_of_ble_eq_true rfl) ?_
  intro E p e R s m args below meth c A ls Q hRf hRl hX hC hl hret
  have hx := hX.1.1
  have hb := hX.1.2.1
  have hown := hX.1.2.2.2.1
  have hts := hX.1.2.2.2.2
  have cut225 : ∀ (x0 : Nat) (x1 : Int32) (y0 : Int32) (S : kS) (H : Heap) (locs : List Loc) (ls : Array Slot), wp_X3_waitFor_225 r_X3_waitFor K x0 x1 y0 S → cM E A s.heap S H locs → lv_has ls 7 [(0, .ref x0), (1, .int x1)] → W p l e R s m args below meth c H locs 0 0 Q (F0 m 225 ls [.int y0]) := by
    intro x0 x1 y0 S H locs ls h hC hl
    unfold wp_X3_waitFor_225 at h
    refine lv_istore (lv' := [(5, .int y0), (0, .ref x0), (1, .int x1)]) hx hb dX3_waitFor_225 hl (by decide) rfl (fun ls hl => ?_)
    refine lv_aload_n hx hb dX3_waitFor_227 rfl (lv_at hl 1 rfl) ?_
    refine lv_iload hx hb dX3_waitFor_228 (lv_at hl 0 rfl) ?_
    refine lv_iconst (v := 0) hx hb dX3_waitFor_230 (by decide) ?_
    refine kv_calli [.int y0, .int 0] (rest := []) (ci := 3) rfl hX hC h.1 (kt_X3_emit l S x0 y0 0 _ h.2 E _) (cw_X3_139 hts (by omega) (by omega)) rfl hl.1 (Nat.le_of_ble_eq_true rfl) ⟨Nat.zero_le _, Nat.zero_le _⟩ dX3_waitFor_231 (fun r36 S36 H locs hC h => ?_)
    refine lv_istore (lv' := [(6, .int r36), (5, .int y0), (0, .ref x0), (1, .int x1)]) hx hb dX3_waitFor_234 hl (by decide) rfl (fun ls hl => ?_)
    refine lv_aload_n hx hb dX3_waitFor_236 rfl (lv_at hl 2 rfl) ?_
    refine cq_getr (ci := 3) (k := 1) (f := 15) hX hC rfl in_X3 (by decide) wd_132 (fun _ h9 => h9) (fun _ _ => rfl) dX3_waitFor_237 h (fun z37 h => ?_)
    obtain ⟨q38, e9, hh⟩ := h
    subst e9
    have h := hh
    clear hh
    refine cq_getr (ci := 5) (k := 2) (f := 29) hX hC rfl in_X5 (by decide) wd_405 (fun _ h9 => h9) (fun _ _ => rfl) dX3_waitFor_240 h (fun z39 h => ?_)
    refine lv_iload hx hb dX3_waitFor_243 (lv_at hl 0 rfl) ?_
    refine lv_aload_n hx hb dX3_waitFor_245 rfl (lv_at hl 2 rfl) ?_
    refine lv_iload hx hb dX3_waitFor_246 (lv_at hl 1 rfl) ?_
    refine lv_iload_n hx hb dX3_waitFor_248 rfl (lv_at hl 3 rfl) ?_
    refine kv_calli [.int y0, .int x1] (rest := [.int r36, va_rf z39]) (ci := 3) rfl hX hC h.1 (ko_X3_listed l fr lo (max (fr + 1) 57) (max (lo + 26) 1309) r_X3_waitFor hr_X3_waitFor (Nat.le_max_left _ _) (Nat.le_max_left _ _) (Nat.le_max_right _ _) (Nat.le_max_right _ _) S36 x0 y0 x1 _ h.2 E _) (cw_X3_221 hts (by omega) (by omega)) rfl hl.1 (by rcases z39 with _ | _ <;> exact Nat.le_of_ble_eq_true rfl) ⟨Nat.zero_le _, Nat.zero_le _⟩ dX3_waitFor_249 (fun r40 S40 H locs hC h => ?_)
    obtain ⟨q41, e9, hh⟩ := h
    subst e9
    have h := hh
    clear hh
    refine cq_ist hX hC dX3_waitFor_252 h.1 h.2.1 h.2.2 (fun S42 H locs hC h => ?_)
    refine lv_aload_n hx hb dX3_waitFor_253 rfl (lv_at hl 2 rfl) ?_
    refine lv_bipush (v := 34) hx hb dX3_waitFor_254 (by decide) ?_
    refine lv_iconst (v := 0) hx hb dX3_waitFor_256 (by decide) ?_
    refine kv_calli [.int 34, .int 0] (rest := []) (ci := 3) rfl hX hC h.1 (kt_X3_emit l S42 x0 34 0 _ h.2 E _) (cw_X3_139 hts (by omega) (by omega)) rfl hl.1 (Nat.le_of_ble_eq_true rfl) ⟨Nat.zero_le _, Nat.zero_le _⟩ dX3_waitFor_257 (fun r43 S43 H locs hC h => ?_)
    refine lv_pop hx hb dX3_waitFor_260 rfl ?_
    exact hret _ _ _ _ _ hC h dX3_waitFor_261
  have hl : lv_has ls 7 [(0, .ref t0), (1, .int a0)] := hl
  unfold wp_X3_waitFor at h
  refine lv_aload_n hx hb dX3_waitFor_0 rfl (lv_at hl 0 rfl) ?_
  refine kv_calli [] (rest := []) (ci := 3) rfl hX hC h.1 (kt_X3_kind l S t0 _ h.2 E _) (cw_X3_62 hts (by omega) (by omega)) rfl hl.1 (Nat.le_of_ble_eq_true rfl) ⟨Nat.zero_le _, Nat.zero_le _⟩ dX3_waitFor_1 (fun r1 S1 H locs hC h => ?_)
  refine lv_istore_n (lv' := [(2, .int r1), (0, .ref t0), (1, .int a0)]) hx hb dX3_waitFor_4 rfl hl (by decide) rfl (fun ls hl => ?_)
  refine lv_iload_n hx hb dX3_waitFor_5 rfl (lv_at hl 0 rfl) ?_
  refine kv_callsi [.int r1] (rest := []) hX hC (kt_X3_startsWait l S1 r1 _ h E _) (cw_X3_218 hts (by omega) (by omega)) rfl hl.1 (Nat.le_of_ble_eq_true rfl) ⟨Nat.zero_le _, Nat.zero_le _⟩ dX3_waitFor_6 (fun r2 S2 H locs hC h => ?_)
  refine lv_if_ne (tgt := 18) hx hb dX3_waitFor_9 (by decide) (fun c3 => ?_) (fun c3 => ?_)
  · have h := h.1 c3
    refine lv_iload_n hx hb dX3_waitFor_18 rfl (lv_at hl 2 rfl) ?_
    refine lv_bipush (v := 10) hx hb dX3_waitFor_19 (by decide) ?_
    refine lv_icmp_lt (tgt := 30) hx hb dX3_waitFor_21 (by decide) (fun c4 => ?_) (fun c4 => ?_)
    · have h := h.1 c4
      refine lv_aload_n hx hb dX3_waitFor_30 rfl (lv_at hl 1 rfl) ?_
      refine kv_callv [] (rest := []) (ci := 3) rfl hX hC h.1 (kt_X3_step l S2 t0 _ h.2 E _) (cw_X3_103 hts (by omega) (by omega)) rfl hl.1 (Nat.le_of_ble_eq_true rfl) ⟨Nat.zero_le _, Nat.zero_le _⟩ dX3_waitFor_31 (fun S5 H locs hC h => ?_)
      refine lv_iload_n hx hb dX3_waitFor_34 rfl (lv_at hl 0 rfl) ?_
      rcases Decidable.em (r1 = 213) with c6 | c6
      · have h := h.1 c6
        refine lv_tableIn (tgt := 76) hx hb dX3_waitFor_35 (by rw [c6]; decide) (by rw [c6]; decide) (by rw [c6]; rfl) (by decide) ?_
        refine lv_aload_n hx hb dX3_waitFor_76 rfl (lv_at hl 1 rfl) ?_
        refine lv_bipush (v := 27) hx hb dX3_waitFor_77 (by decide) ?_
        refine lv_aload_n hx hb dX3_waitFor_79 rfl (lv_at hl 1 rfl) ?_
        refine lv_iconst (v := 0) hx hb dX3_waitFor_80 (by decide) ?_
        refine lv_bipush (v := 7) hx hb dX3_waitFor_81 (by decide) ?_
        refine kv_calli [.int 0, .int 7] (rest := [.int 27, .ref t0]) (ci := 3) rfl hX hC h.1 (kt_X3_numberOf l S5 t0 0 7 _ h.2 E _) (cw_X3_161 hts (by omega) (by omega)) rfl hl.1 (Nat.le_of_ble_eq_true rfl) ⟨Nat.zero_le _, Nat.zero_le _⟩ dX3_waitFor_83 (fun r7 S7 H locs hC h => ?_)
        refine kv_calli [.int 27, .int r7] (rest := []) (ci := 3) rfl hX hC h.1 (kt_X3_emit l S7 t0 27 r7 _ h.2 E _) (cw_X3_139 hts (by omega) (by omega)) rfl hl.1 (Nat.le_of_ble_eq_true rfl) ⟨Nat.zero_le _, Nat.zero_le _⟩ dX3_waitFor_86 (fun r8 S8 H locs hC h => ?_)
        refine lv_pop hx hb dX3_waitFor_89 rfl ?_
        refine lv_goto (tgt := 261) hx hb dX3_waitFor_90 (by decide) ?_
        exact hret _ _ _ _ _ hC h dX3_waitFor_261
      have h := h.2 c6
      rcases Decidable.em (r1 = 214) with c9 | c9
      · have h := h.1 c9
        refine lv_tableIn (tgt := 104) hx hb dX3_waitFor_35 (by rw [c9]; decide) (by rw [c9]; decide) (by rw [c9]; rfl) (by decide) ?_
        refine lv_aload_n hx hb dX3_waitFor_104 rfl (lv_at hl 1 rfl) ?_
        refine lv_bipush (v := 26) hx hb dX3_waitFor_105 (by decide) ?_
        refine lv_iconst (v := 0) hx hb dX3_waitFor_107 (by decide) ?_
        refine kv_calli [.int 26, .int 0] (rest := []) (ci := 3) rfl hX hC h.1 (kt_X3_emit l S5 t0 26 0 _ h.2 E _) (cw_X3_139 hts (by omega) (by omega)) rfl hl.1 (Nat.le_of_ble_eq_true rfl) ⟨Nat.zero_le _, Nat.zero_le _⟩ dX3_waitFor_108 (fun r10 S10 H locs hC h => ?_)
        refine lv_pop hx hb dX3_waitFor_111 rfl ?_
        refine lv_aload_n hx hb dX3_waitFor_112 rfl (lv_at hl 1 rfl) ?_
        refine lv_iconst (v := 0) hx hb dX3_waitFor_113 (by decide) ?_
        refine kv_callv [.int 0] (rest := []) (ci := 3) rfl hX hC h.1 (kt_X3_expression l S10 t0 0 _ h.2 E _) (cw_X3_155 hts (by omega) (by omega)) rfl hl.1 (Nat.le_of_ble_eq_true rfl) ⟨Nat.zero_le _, Nat.zero_le _⟩ dX3_waitFor_114 (fun S11 H locs hC h => ?_)
        refine lv_aload_n hx hb dX3_waitFor_117 rfl (lv_at hl 1 rfl) ?_
        refine lv_bipush (v := 28) hx hb dX3_waitFor_118 (by decide) ?_
        refine lv_iconst (v := 0) hx hb dX3_waitFor_120 (by decide) ?_
        refine kv_calli [.int 28, .int 0] (rest := []) (ci := 3) rfl hX hC h.1 (kt_X3_emit l S11 t0 28 0 _ h.2 E _) (cw_X3_139 hts (by omega) (by omega)) rfl hl.1 (Nat.le_of_ble_eq_true rfl) ⟨Nat.zero_le _, Nat.zero_le _⟩ dX3_waitFor_121 (fun r12 S12 H locs hC h => ?_)
        refine lv_pop hx hb dX3_waitFor_124 rfl ?_
        refine lv_goto (tgt := 261) hx hb dX3_waitFor_125 (by decide) ?_
        exact hret _ _ _ _ _ hC h dX3_waitFor_261
      have h := h.2 c9
      rcases Decidable.em (r1 = 215) with c13 | c13
      · have h := h.1 c13
        refine lv_tableIn (tgt := 93) hx hb dX3_waitFor_35 (by rw [c13]; decide) (by rw [c13]; decide) (by rw [c13]; rfl) (by decide) ?_
        refine lv_aload_n hx hb dX3_waitFor_93 rfl (lv_at hl 1 rfl) ?_
        refine lv_bipush (v := 29) hx hb dX3_waitFor_94 (by decide) ?_
        refine lv_iconst (v := 0) hx hb dX3_waitFor_96 (by decide) ?_
        refine kv_calli [.int 29, .int 0] (rest := []) (ci := 3) rfl hX hC h.1 (kt_X3_emit l S5 t0 29 0 _ h.2 E _) (cw_X3_139 hts (by omega) (by omega)) rfl hl.1 (Nat.le_of_ble_eq_true rfl) ⟨Nat.zero_le _, Nat.zero_le _⟩ dX3_waitFor_97 (fun r14 S14 H locs hC h => ?_)
        refine lv_pop hx hb dX3_waitFor_100 rfl ?_
        refine lv_goto (tgt := 261) hx hb dX3_waitFor_101 (by decide) ?_
        exact hret _ _ _ _ _ hC h dX3_waitFor_261
      have h := h.2 c13
      rcases Decidable.em (r1 = 216) with c15 | c15
      · have h := h.1 c15
        refine lv_tableIn (tgt := 128) hx hb dX3_waitFor_35 (by rw [c15]; decide) (by rw [c15]; decide) (by rw [c15]; rfl) (by decide) ?_
        refine lv_aload_n hx hb dX3_waitFor_128 rfl (lv_at hl 1 rfl) ?_
        refine lv_bipush (v := 26) hx hb dX3_waitFor_129 (by decide) ?_
        refine lv_iconst (v := 0) hx hb dX3_waitFor_131 (by decide) ?_
        refine kv_calli [.int 26, .int 0] (rest := []) (ci := 3) rfl hX hC h.1 (kt_X3_emit l S5 t0 26 0 _ h.2 E _) (cw_X3_139 hts (by omega) (by omega)) rfl hl.1 (Nat.le_of_ble_eq_true rfl) ⟨Nat.zero_le _, Nat.zero_le _⟩ dX3_waitFor_132 (fun r16 S16 H locs hC h => ?_)
        refine lv_pop hx hb dX3_waitFor_135 rfl ?_
        refine lv_aload_n hx hb dX3_waitFor_136 rfl (lv_at hl 1 rfl) ?_
        refine cq_geti (ci := 3) (k := 3) (f := 6) hX hC rfl in_X3 (by decide) wd_134 (fun _ h9 => h9) (fun _ _ => rfl) dX3_waitFor_137 h (fun z17 h => ?_)
        refine lv_istore_n (lv' := [(3, .int z17), (2, .int r1), (0, .ref t0), (1, .int a0)]) hx hb dX3_waitFor_140 rfl hl (by decide) rfl (fun ls hl => ?_)
        refine lv_aload_n hx hb dX3_waitFor_141 rfl (lv_at hl 2 rfl) ?_
        refine lv_iconst (v := 3) hx hb dX3_waitFor_142 (by decide) ?_
        refine kv_callv [.int 3] (rest := []) (ci := 3) rfl hX hC h.1 (kt_X3_need l S16 t0 3 _ h.2 E _) (cw_X3_117 hts (by omega) (by omega)) rfl hl.1 (Nat.le_of_ble_eq_true rfl) ⟨Nat.zero_le _, Nat.zero_le _⟩ dX3_waitFor_143 (fun S18 H locs hC h => ?_)
        refine lv_aload_n hx hb dX3_waitFor_146 rfl (lv_at hl 2 rfl) ?_
        refine lv_bipush (v := 30) hx hb dX3_waitFor_147 (by decide) ?_
        refine lv_iload_n hx hb dX3_waitFor_149 rfl (lv_at hl 3 rfl) ?_
        refine kv_calli [.int 30, .int a0] (rest := []) (ci := 3) rfl hX hC h.1 (ko_X3_listed l fr lo (max (fr + 1) 57) (max (lo + 26) 1309) r_X3_waitFor hr_X3_waitFor (Nat.le_max_left _ _) (Nat.le_max_left _ _) (Nat.le_max_right _ _) (Nat.le_max_right _ _) S18 t0 30 a0 _ h.2 E _) (cw_X3_221 hts (by omega) (by omega)) rfl hl.1 (Nat.le_of_ble_eq_true rfl) ⟨Nat.zero_le _, Nat.zero_le _⟩ dX3_waitFor_150 (fun r19 S19 H locs hC h => ?_)
        refine lv_istore (lv' := [(4, .int r19), (3, .int z17), (2, .int r1), (0, .ref t0), (1, .int a0)]) hx hb dX3_waitFor_153 hl (by decide) rfl (fun ls hl => ?_)
        refine lv_aload_n hx hb dX3_waitFor_155 rfl (lv_at hl 3 rfl) ?_
        refine lv_iload_n hx hb dX3_waitFor_156 rfl (lv_at hl 1 rfl) ?_
        refine lv_iload hx hb dX3_waitFor_157 (lv_at hl 0 rfl) ?_
        refine lv_aload_n hx hb dX3_waitFor_159 rfl (lv_at hl 3 rfl) ?_
        refine lv_bipush (v := 30) hx hb dX3_waitFor_160 (by decide) ?_
        refine lv_iconst (v := 0) hx hb dX3_waitFor_162 (by decide) ?_
        refine kv_calli [.int 30, .int 0] (rest := [.int r19, .int z17, .ref t0]) (ci := 3) rfl hX hC h.1 (kt_X3_emit l S19 t0 30 0 _ h.2 E _) (cw_X3_139 hts (by omega) (by omega)) rfl hl.1 (Nat.le_of_ble_eq_true rfl) ⟨Nat.zero_le _, Nat.zero_le _⟩ dX3_waitFor_163 (fun r20 S20 H locs hC h => ?_)
        refine kv_callv [.int z17, .int r19, .int r20] (rest := []) (ci := 3) rfl hX hC h.1 (kt_X3_keepChild l S20 t0 z17 r19 r20 _ h.2 E _) (cw_X3_224 hts (by omega) (by omega)) rfl hl.1 (Nat.le_of_ble_eq_true rfl) ⟨Nat.zero_le _, Nat.zero_le _⟩ dX3_waitFor_166 (fun S21 H locs hC h => ?_)
        refine lv_goto (tgt := 261) hx hb dX3_waitFor_169 (by decide) ?_
        exact hret _ _ _ _ _ hC h dX3_waitFor_261
      have h := h.2 c15
      rcases Decidable.em (r1 = 217) with c22 | c22
      · have h := h.1 c22
        refine lv_tableIn (tgt := 211) hx hb dX3_waitFor_35 (by rw [c22]; decide) (by rw [c22]; decide) (by rw [c22]; rfl) (by decide) ?_
        refine lv_iload_n hx hb dX3_waitFor_211 rfl (lv_at hl 0 rfl) ?_
        refine lv_sipush (v := 217) hx hb dX3_waitFor_212 (by decide) ?_
        refine lv_icmp_ne (tgt := 223) hx hb dX3_waitFor_215 (by decide) (fun c23 => ?_) (fun c23 => ?_)
        · have h := h.1 c23
          refine lv_bipush (v := 32) hx hb dX3_waitFor_223 (by decide) ?_
          exact cut225 t0 a0 32 S5 _ _ _ h hC (lv_sub hl [1, 2] rfl)
        · have h := h.2 c23
          refine lv_bipush (v := 31) hx hb dX3_waitFor_218 (by decide) ?_
          refine lv_goto (tgt := 225) hx hb dX3_waitFor_220 (by decide) ?_
          exact cut225 t0 a0 31 S5 _ _ _ h hC (lv_sub hl [1, 2] rfl)
      have h := h.2 c22
      rcases Decidable.em (r1 = 218) with c24 | c24
      · have h := h.1 c24
        refine lv_tableIn (tgt := 211) hx hb dX3_waitFor_35 (by rw [c24]; decide) (by rw [c24]; decide) (by rw [c24]; rfl) (by decide) ?_
        refine lv_iload_n hx hb dX3_waitFor_211 rfl (lv_at hl 0 rfl) ?_
        refine lv_sipush (v := 217) hx hb dX3_waitFor_212 (by decide) ?_
        refine lv_icmp_ne (tgt := 223) hx hb dX3_waitFor_215 (by decide) (fun c25 => ?_) (fun c25 => ?_)
        · have h := h.1 c25
          refine lv_bipush (v := 32) hx hb dX3_waitFor_223 (by decide) ?_
          exact cut225 t0 a0 32 S5 _ _ _ h hC (lv_sub hl [1, 2] rfl)
        · have h := h.2 c25
          refine lv_bipush (v := 31) hx hb dX3_waitFor_218 (by decide) ?_
          refine lv_goto (tgt := 225) hx hb dX3_waitFor_220 (by decide) ?_
          exact cut225 t0 a0 31 S5 _ _ _ h hC (lv_sub hl [1, 2] rfl)
      have h := h.2 c24
      rcases Decidable.em (r1 = 219) with c26 | c26
      · have h := h.1 c26
        refine lv_tableIn (tgt := 172) hx hb dX3_waitFor_35 (by rw [c26]; decide) (by rw [c26]; decide) (by rw [c26]; rfl) (by decide) ?_
        refine lv_aload_n hx hb dX3_waitFor_172 rfl (lv_at hl 1 rfl) ?_
        refine lv_bipush (v := 26) hx hb dX3_waitFor_173 (by decide) ?_
        refine lv_iconst (v := 0) hx hb dX3_waitFor_175 (by decide) ?_
        refine kv_calli [.int 26, .int 0] (rest := []) (ci := 3) rfl hX hC h.1 (kt_X3_emit l S5 t0 26 0 _ h.2 E _) (cw_X3_139 hts (by omega) (by omega)) rfl hl.1 (Nat.le_of_ble_eq_true rfl) ⟨Nat.zero_le _, Nat.zero_le _⟩ dX3_waitFor_176 (fun r27 S27 H locs hC h => ?_)
        refine lv_pop hx hb dX3_waitFor_179 rfl ?_
        refine lv_aload_n hx hb dX3_waitFor_180 rfl (lv_at hl 1 rfl) ?_
        refine lv_iconst (v := 0) hx hb dX3_waitFor_181 (by decide) ?_
        refine kv_callv [.int 0] (rest := []) (ci := 3) rfl hX hC h.1 (kt_X3_expression l S27 t0 0 _ h.2 E _) (cw_X3_155 hts (by omega) (by omega)) rfl hl.1 (Nat.le_of_ble_eq_true rfl) ⟨Nat.zero_le _, Nat.zero_le _⟩ dX3_waitFor_182 (fun S28 H locs hC h => ?_)
        refine lv_aload_n hx hb dX3_waitFor_185 rfl (lv_at hl 1 rfl) ?_
        refine lv_bipush (v := 33) hx hb dX3_waitFor_186 (by decide) ?_
        refine lv_iconst (v := 0) hx hb dX3_waitFor_188 (by decide) ?_
        refine kv_calli [.int 33, .int 0] (rest := []) (ci := 3) rfl hX hC h.1 (kt_X3_emit l S28 t0 33 0 _ h.2 E _) (cw_X3_139 hts (by omega) (by omega)) rfl hl.1 (Nat.le_of_ble_eq_true rfl) ⟨Nat.zero_le _, Nat.zero_le _⟩ dX3_waitFor_189 (fun r29 S29 H locs hC h => ?_)
        refine lv_pop hx hb dX3_waitFor_192 rfl ?_
        refine lv_aload_n hx hb dX3_waitFor_193 rfl (lv_at hl 1 rfl) ?_
        refine lv_iload_n hx hb dX3_waitFor_194 rfl (lv_at hl 2 rfl) ?_
        refine lv_iconst (v := 1) hx hb dX3_waitFor_195 (by decide) ?_
        refine lq_iadd hx hb dX3_waitFor_196 h (fun z30 h => ?_)
        refine kv_callv [.int z30] (rest := []) (ci := 3) rfl hX hC h.1 (hr_X3_waitFor t0 z30 S29 _ h.2 E _) (cw_X3_173 hts (by omega) (by omega)) rfl hl.1 (Nat.le_of_ble_eq_true rfl) ⟨Nat.zero_le _, Nat.zero_le _⟩ dX3_waitFor_197 (fun S31 H locs hC h => ?_)
        refine lv_aload_n hx hb dX3_waitFor_200 rfl (lv_at hl 1 rfl) ?_
        refine lv_bipush (v := 34) hx hb dX3_waitFor_201 (by decide) ?_
        refine lv_iconst (v := 0) hx hb dX3_waitFor_203 (by decide) ?_
        refine kv_calli [.int 34, .int 0] (rest := []) (ci := 3) rfl hX hC h.1 (kt_X3_emit l S31 t0 34 0 _ h.2 E _) (cw_X3_139 hts (by omega) (by omega)) rfl hl.1 (Nat.le_of_ble_eq_true rfl) ⟨Nat.zero_le _, Nat.zero_le _⟩ dX3_waitFor_204 (fun r32 S32 H locs hC h => ?_)
        refine lv_pop hx hb dX3_waitFor_207 rfl ?_
        refine lv_goto (tgt := 261) hx hb dX3_waitFor_208 (by decide) ?_
        exact hret _ _ _ _ _ hC h dX3_waitFor_261
      have h := h.2 c26
      refine lv_tableOut (tgt := 211) hx hb dX3_waitFor_35 (by have nc6 := lv_neT c6 (show (213 : Int32).toInt = 213 by decide); have nc9 := lv_neT c9 (show (214 : Int32).toInt = 214 by decide); have nc13 := lv_neT c13 (show (215 : Int32).toInt = 215 by decide); have nc15 := lv_neT c15 (show (216 : Int32).toInt = 216 by decide); have nc22 := lv_neT c22 (show (217 : Int32).toInt = 217 by decide); have nc24 := lv_neT c24 (show (218 : Int32).toInt = 218 by decide); have nc26 := lv_neT c26 (show (219 : Int32).toInt = 219 by decide); omega) (by decide) ?_
      refine lv_iload_n hx hb dX3_waitFor_211 rfl (lv_at hl 0 rfl) ?_
      refine lv_sipush (v := 217) hx hb dX3_waitFor_212 (by decide) ?_
      refine lv_icmp_ne (tgt := 223) hx hb dX3_waitFor_215 (by decide) (fun c33 => ?_) (fun c33 => ?_)
      · have h := h.1 c33
        refine lv_bipush (v := 32) hx hb dX3_waitFor_223 (by decide) ?_
        exact cut225 t0 a0 32 S5 _ _ _ h hC (lv_sub hl [1, 2] rfl)
      · have h := h.2 c33
        refine lv_bipush (v := 31) hx hb dX3_waitFor_218 (by decide) ?_
        refine lv_goto (tgt := 225) hx hb dX3_waitFor_220 (by decide) ?_
        exact cut225 t0 a0 31 S5 _ _ _ h hC (lv_sub hl [1, 2] rfl)
    · have h := h.2 c4
      refine lv_aload_n hx hb dX3_waitFor_24 rfl (lv_at hl 1 rfl) ?_
      refine lv_iconst (v := 5) hx hb dX3_waitFor_25 (by decide) ?_
      refine kv_callv [.int 5] (rest := []) (ci := 3) rfl hX hC h.1 (kt_X3_wrong l S2 t0 5 _ h.2 E _) (cw_X3_78 hts (by omega) (by omega)) rfl hl.1 (Nat.le_of_ble_eq_true rfl) ⟨Nat.zero_le _, Nat.zero_le _⟩ dX3_waitFor_26 (fun S34 H locs hC h => ?_)
      exact hret _ _ _ _ _ hC h dX3_waitFor_29
  · have h := h.2 c3
    refine lv_aload_n hx hb dX3_waitFor_12 rfl (lv_at hl 1 rfl) ?_
    refine lv_iconst (v := 1) hx hb dX3_waitFor_13 (by decide) ?_
    refine kv_callv [.int 1] (rest := []) (ci := 3) rfl hX hC h.1 (kt_X3_wrong l S2 t0 1 _ h.2 E _) (cw_X3_78 hts (by omega) (by omega)) rfl hl.1 (Nat.le_of_ble_eq_true rfl) ⟨Nat.zero_le _, Nat.zero_le _⟩ dX3_waitFor_14 (fun S35 H locs hC h => ?_)
    exact hret _ _ _ _ _ hC h dX3_waitFor_17
def wr_X3_waitFor : Nat → Nat → Int32 → kS → (kS → Prop) → Prop
  | 0 => fun _ _ _ _ => False
  | n + 1 => wp_X3_waitFor (wr_X3_waitFor n)
def wq_X3_listed : Nat → Int32 → Int32 → kS → (kS → Int32 → Prop) → Prop := wp_X3_listed (wr_X3_waitFor 12)
def wq_X3_waitFor : Nat → Int32 → kS → (kS → Prop) → Prop := wr_X3_waitFor 12
set_option maxRecDepth 100000 in
theorem cr_X3_waitFor (l : Launch) : ∀ n : Nat, (∀ (t0 : Nat) (a0 : Int32) (S : kS) (K : kS → Prop), (wr_X3_waitFor n) t0 a0 S K → kMv l yX3_waitFor cX3_waitFor 7 none (2 * n + 58) (52 * n + 1335) [.ref t0, .int a0] S K) := by
  intro n
  induction n with
  | zero => exact fun _ _ _ _ h => h.elim
  | succ n ih => exact fun t0 a0 S K h => ko_X3_waitFor l (2 * n + 58) (52 * n + 1335) _ _ (wr_X3_waitFor n) ih (by omega) (by omega) (by omega) (by omega) S t0 a0 K h
theorem kt_X3_listed (l : Launch) (S : kS) (t0 : Nat) (a0 : Int32) (a1 : Int32) (K : kS → Int32 → Prop) (h : wq_X3_listed t0 a0 a1 S K) : kMi l yX3_listed cX3_listed 7 (some .int) 83 1985 [.ref t0, .int a0, .int a1] S K := ko_X3_listed l (2 * 12 + 58) (52 * 12 + 1335) _ _ (wr_X3_waitFor 12) (cr_X3_waitFor l 12) (by omega) (by omega) (by omega) (by omega) S t0 a0 a1 K h
theorem kt_X3_waitFor (l : Launch) (S : kS) (t0 : Nat) (a0 : Int32) (K : kS → Prop) (h : wq_X3_waitFor t0 a0 S K) : kMv l yX3_waitFor cX3_waitFor 7 none (2 * 12 + 58) (52 * 12 + 1335) [.ref t0, .int a0] S K := cr_X3_waitFor l 12 t0 a0 S K h
def wp_X5_newWait (t0 : Nat) (S : kS) (K : kS → Int32 → Prop) : Prop := hasO S t0 5 ∧ ∀ z1 : Int32, z1 = S.1 18 t0 → ∀ z2 : Int32, z2 = z1 - 1 → ((z2 < 0 → K S (-1)) ∧ (¬ z2 < 0 → hasO S t0 5 ∧ ∀ z4 : Option Nat, z4 = S.2.1 36 t0 → ∃ q5 : Nat, z4 = some q5 ∧ hasA S q5 12 0 ∧ inR z2 12 ∧ ∀ z6 : Int32, z6 = S.2.2.1 q5 (ix z2) → ((z6 < 16 → hasO S t0 5 ∧ ∀ z8 : Option Nat, z8 = S.2.1 36 t0 → ∃ q9 : Nat, z8 = some q9 ∧ hasA S q9 12 0 ∧ inR z2 12 ∧ ∀ z10 : Int32, z10 = S.2.2.1 q9 (ix z2) → ∀ z11 : Int32, z11 = z10 + 1 → hasA S q9 12 0 ∧ inR z2 12 ∧ ∀ S12 : kS, S12 = cA S q9 (ix z2) z11 → hasO S12 t0 5 ∧ ∀ z13 : Option Nat, z13 = S12.2.1 36 t0 → ∃ q14 : Nat, z13 = some q14 ∧ hasA S12 q14 12 0 ∧ inR z2 12 ∧ ∀ z15 : Int32, z15 = S12.2.2.1 q14 (ix z2) → ∀ z16 : Int32, z16 = z15 - 1 → K S12 z16) ∧ (¬ z6 < 16 → K S (-1)))))
set_option maxHeartbeats 4000000 in
set_option maxRecDepth 100000 in
theorem kt_X5_newWait (l : Launch) (S : kS) (t0 : Nat) (K : kS → Int32 → Prop) (h : wp_X5_newWait t0 S K) : kMi l yX5_newWait cX5_newWait 2 (some .int) 0 0 [.ref t0] S K := by
  refine kv_ofi (own := RX5) (by decide) rfl (Nat.le_of_ble_eq_true rfl) ?_
  intro E p e R s m args below meth c A ls Q hRf hRl hX hC hl hret
  have hx := hX.1.1
  have hb := hX.1.2.1
  have hown := hX.1.2.2.2.1
  have hts := hX.1.2.2.2.2
  have hl : lv_has ls 2 [(0, .ref t0)] := hl
  unfold wp_X5_newWait at h
  refine lv_aload_n hx hb dX5_newWait_0 rfl (lv_at hl 0 rfl) ?_
  refine cq_geti (ci := 5) (k := 5) (f := 18) hX hC rfl in_X5 (by decide) wd_413 (fun _ h9 => h9) (fun _ _ => rfl) dX5_newWait_1 h (fun z1 h => ?_)
  refine lv_iconst (v := 1) hx hb dX5_newWait_4 (by decide) ?_
  refine lq_isub hx hb dX5_newWait_5 h (fun z2 h => ?_)
  refine lv_istore_n (lv' := [(1, .int z2), (0, .ref t0)]) hx hb dX5_newWait_6 rfl hl (by decide) rfl (fun ls hl => ?_)
  refine lv_iload_n hx hb dX5_newWait_7 rfl (lv_at hl 0 rfl) ?_
  refine lv_if_lt (tgt := 22) hx hb dX5_newWait_8 (by decide) (fun c3 => ?_) (fun c3 => ?_)
  · have h := h.1 c3
    refine lv_iconst (v := -1) hx hb dX5_newWait_22 (by decide) ?_
    exact hret _ _ _ _ _ _ hC h dX5_newWait_23
  · have h := h.2 c3
    refine lv_aload_n hx hb dX5_newWait_11 rfl (lv_at hl 1 rfl) ?_
    refine cq_getr (ci := 5) (k := 10) (f := 36) hX hC rfl in_X5 (by decide) wd_427 (fun _ h9 => h9) (fun _ _ => rfl) dX5_newWait_12 h (fun z4 h => ?_)
    refine lv_iload_n hx hb dX5_newWait_15 rfl (lv_at hl 0 rfl) ?_
    obtain ⟨q5, e9, hh⟩ := h
    subst e9
    have h := hh
    clear hh
    refine cq_ild hX hC dX5_newWait_16 h (fun z6 h => ?_)
    refine lv_bipush (v := 16) hx hb dX5_newWait_17 (by decide) ?_
    refine lv_icmp_lt (tgt := 24) hx hb dX5_newWait_19 (by decide) (fun c7 => ?_) (fun c7 => ?_)
    · have h := h.1 c7
      refine lv_aload_n hx hb dX5_newWait_24 rfl (lv_at hl 1 rfl) ?_
      refine cq_getr (ci := 5) (k := 10) (f := 36) hX hC rfl in_X5 (by decide) wd_427 (fun _ h9 => h9) (fun _ _ => rfl) dX5_newWait_25 h (fun z8 h => ?_)
      refine lv_iload_n hx hb dX5_newWait_28 rfl (lv_at hl 0 rfl) ?_
      refine lv_dup2_11 hx hb dX5_newWait_29 (by first | rfl | exact cat_o) (by first | rfl | exact cat_o) ?_
      obtain ⟨q9, e9, hh⟩ := h
      subst e9
      have h := hh
      clear hh
      refine cq_ild hX hC dX5_newWait_30 h (fun z10 h => ?_)
      refine lv_iconst (v := 1) hx hb dX5_newWait_31 (by decide) ?_
      refine lq_iadd hx hb dX5_newWait_32 h (fun z11 h => ?_)
      refine cq_ist hX hC dX5_newWait_33 h.1 h.2.1 h.2.2 (fun S12 H locs hC h => ?_)
      refine lv_aload_n hx hb dX5_newWait_34 rfl (lv_at hl 1 rfl) ?_
      refine cq_getr (ci := 5) (k := 10) (f := 36) hX hC rfl in_X5 (by decide) wd_427 (fun _ h9 => h9) (fun _ _ => rfl) dX5_newWait_35 h (fun z13 h => ?_)
      refine lv_iload_n hx hb dX5_newWait_38 rfl (lv_at hl 0 rfl) ?_
      obtain ⟨q14, e9, hh⟩ := h
      subst e9
      have h := hh
      clear hh
      refine cq_ild hX hC dX5_newWait_39 h (fun z15 h => ?_)
      refine lv_iconst (v := 1) hx hb dX5_newWait_40 (by decide) ?_
      refine lq_isub hx hb dX5_newWait_41 h (fun z16 h => ?_)
      exact hret _ _ _ _ _ _ hC h dX5_newWait_42
    · have h := h.2 c7
      refine lv_iconst (v := -1) hx hb dX5_newWait_22 (by decide) ?_
      exact hret _ _ _ _ _ _ hC h dX5_newWait_23
def wp_X5_setStand (t0 : Nat) (a0 : Int32) (a1 : Int32) (S : kS) (K : kS → Prop) : Prop := hasO S t0 5 ∧ ∀ z1 : Int32, z1 = S.1 18 t0 → ((z1 ≤ 0 → K S) ∧ (¬ z1 ≤ 0 → ((a0 < 0 → K S) ∧ (¬ a0 < 0 → ((16 ≤ a0 → K S) ∧ (¬ 16 ≤ a0 → hasO S t0 5 ∧ ∀ z5 : Option Nat, z5 = S.2.1 37 t0 → hasO S t0 5 ∧ ∀ z6 : Int32, z6 = S.1 18 t0 → ∀ z7 : Int32, z7 = z6 - 1 → ∀ z8 : Int32, z8 = z7 * 16 → ∀ z9 : Int32, z9 = z8 + a0 → ∃ q10 : Nat, z5 = some q10 ∧ hasA S q10 192 0 ∧ inR z9 192 ∧ ∀ S11 : kS, S11 = cA S q10 (ix z9) a1 → K S11))))))
set_option maxHeartbeats 4000000 in
set_option maxRecDepth 100000 in
theorem kt_X5_setStand (l : Launch) (S : kS) (t0 : Nat) (a0 : Int32) (a1 : Int32) (K : kS → Prop) (h : wp_X5_setStand t0 a0 a1 S K) : kMv l yX5_setStand cX5_setStand 3 none 0 0 [.ref t0, .int a0, .int a1] S K := by
  refine kv_ofv (own := RX5) (by decide) rfl (Nat.le_of_ble_eq_true rfl) ?_
  intro E p e R s m args below meth c A ls Q hRf hRl hX hC hl hret
  have hx := hX.1.1
  have hb := hX.1.2.1
  have hown := hX.1.2.2.2.1
  have hts := hX.1.2.2.2.2
  have hl : lv_has ls 3 [(0, .ref t0), (1, .int a0), (2, .int a1)] := hl
  unfold wp_X5_setStand at h
  refine lv_aload_n hx hb dX5_setStand_0 rfl (lv_at hl 0 rfl) ?_
  refine cq_geti (ci := 5) (k := 5) (f := 18) hX hC rfl in_X5 (by decide) wd_413 (fun _ h9 => h9) (fun _ _ => rfl) dX5_setStand_1 h (fun z1 h => ?_)
  refine lv_if_le (tgt := 34) hx hb dX5_setStand_4 (by decide) (fun c2 => ?_) (fun c2 => ?_)
  · have h := h.1 c2
    exact hret _ _ _ _ _ hC h dX5_setStand_34
  · have h := h.2 c2
    refine lv_iload_n hx hb dX5_setStand_7 rfl (lv_at hl 1 rfl) ?_
    refine lv_if_lt (tgt := 34) hx hb dX5_setStand_8 (by decide) (fun c3 => ?_) (fun c3 => ?_)
    · have h := h.1 c3
      exact hret _ _ _ _ _ hC h dX5_setStand_34
    · have h := h.2 c3
      refine lv_iload_n hx hb dX5_setStand_11 rfl (lv_at hl 1 rfl) ?_
      refine lv_bipush (v := 16) hx hb dX5_setStand_12 (by decide) ?_
      refine lv_icmp_ge (tgt := 34) hx hb dX5_setStand_14 (by decide) (fun c4 => ?_) (fun c4 => ?_)
      · have h := h.1 c4
        exact hret _ _ _ _ _ hC h dX5_setStand_34
      · have h := h.2 c4
        refine lv_aload_n hx hb dX5_setStand_17 rfl (lv_at hl 0 rfl) ?_
        refine cq_getr (ci := 5) (k := 11) (f := 37) hX hC rfl in_X5 (by decide) wd_429 (fun _ h9 => h9) (fun _ _ => rfl) dX5_setStand_18 h (fun z5 h => ?_)
        refine lv_aload_n hx hb dX5_setStand_21 rfl (lv_at hl 0 rfl) ?_
        refine cq_geti (ci := 5) (k := 5) (f := 18) hX hC rfl in_X5 (by decide) wd_413 (fun _ h9 => h9) (fun _ _ => rfl) dX5_setStand_22 h (fun z6 h => ?_)
        refine lv_iconst (v := 1) hx hb dX5_setStand_25 (by decide) ?_
        refine lq_isub hx hb dX5_setStand_26 h (fun z7 h => ?_)
        refine lv_bipush (v := 16) hx hb dX5_setStand_27 (by decide) ?_
        refine lq_imul hx hb dX5_setStand_29 h (fun z8 h => ?_)
        refine lv_iload_n hx hb dX5_setStand_30 rfl (lv_at hl 1 rfl) ?_
        refine lq_iadd hx hb dX5_setStand_31 h (fun z9 h => ?_)
        refine lv_iload_n hx hb dX5_setStand_32 rfl (lv_at hl 2 rfl) ?_
        obtain ⟨q10, e9, hh⟩ := h
        subst e9
        have h := hh
        clear hh
        refine cq_ist hX hC dX5_setStand_33 h.1 h.2.1 h.2.2 (fun S11 H locs hC h => ?_)
        exact hret _ _ _ _ _ hC h dX5_setStand_34
