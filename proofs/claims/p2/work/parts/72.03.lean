theorem wd_1461 : (Jvm.Cond.fieldLink "SleepersModel" (374 : Nat) "SleepersModel" "lates" "I") ∈ tb := tb_at 1461 (by decide +kernel) (by decide +kernel)
theorem wd_1467 : (Jvm.Cond.fieldLink "SleepersModel" (415 : Nat) "SleepersModel" "inFinish" "Z") ∈ tb := tb_at 1467 (by decide +kernel) (by decide +kernel)
theorem wd_1926 : (Jvm.Cond.methodLink "SleepersModel" (479 : Nat) ({ cls := "SleepersModel", name := "marks", desc := "([ZI)V" } : Jvm.MethodName)) ∈ tb := tb_at 1926 (by decide +kernel) (by decide +kernel)
theorem wd_1928 : (Jvm.Cond.instanceMethod ({ cls := "SleepersModel", name := "marks", desc := "([ZI)V" } : Jvm.MethodName)) ∈ tb := tb_at 1928 (by decide +kernel) (by decide +kernel)
theorem wd_1929 : (Jvm.Cond.code ({ cls := "SleepersModel", name := "marks", desc := "([ZI)V" } : Jvm.MethodName) prog_14_method_38_code (5 : Nat) (Option.none : Option Jvm.ClassFile.FieldType)) ∈ tb := tb_at 1929 (by decide +kernel) (by decide +kernel)
theorem sl_X12_marks : Cond.selects RX12 yX12_marks yX12_marks ∈ tb := sl_of (y := ⟨"SleepersModel", "marks", "([ZI)V"⟩) (n := 128) (by decide +kernel) (by decide +kernel)
theorem dX12_child_0 : decode cX12_child 0 = .ok (.aload_n 0, 1) := by decide +kernel
theorem dX12_child_1 : decode cX12_child 1 = .ok (.getfield 337, 3) := by decide +kernel
theorem dX12_child_4 : decode cX12_child 4 = .ok (.ifCond .ne 15, 3) := by decide +kernel
theorem dX12_child_7 : decode cX12_child 7 = .ok (.aload_n 0, 1) := by decide +kernel
theorem dX12_child_8 : decode cX12_child 8 = .ok (.invokevirtual 387, 3) := by decide +kernel
theorem dX12_child_11 : decode cX12_child 11 = .ok (.ifCond .ne 8, 3) := by decide +kernel
theorem dX12_child_14 : decode cX12_child 14 = .ok (.aload_n 0, 1) := by decide +kernel
theorem dX12_child_15 : decode cX12_child 15 = .ok (.iconst 1, 1) := by decide +kernel
theorem dX12_child_16 : decode cX12_child 16 = .ok (.invokevirtual 343, 3) := by decide +kernel
theorem dX12_child_19 : decode cX12_child 19 = .ok (.aload_n 0, 1) := by decide +kernel
theorem dX12_child_20 : decode cX12_child 20 = .ok (.getfield 334, 3) := by decide +kernel
theorem dX12_child_23 : decode cX12_child 23 = .ok (.istore_n 1, 1) := by decide +kernel
theorem dX12_child_24 : decode cX12_child 24 = .ok (.aload_n 0, 1) := by decide +kernel
theorem dX12_child_25 : decode cX12_child 25 = .ok (.dup, 1) := by decide +kernel
theorem dX12_child_26 : decode cX12_child 26 = .ok (.getfield 334, 3) := by decide +kernel
theorem dX12_child_29 : decode cX12_child 29 = .ok (.iconst 1, 1) := by decide +kernel
theorem dX12_child_30 : decode cX12_child 30 = .ok (.iadd, 1) := by decide +kernel
theorem dX12_child_31 : decode cX12_child 31 = .ok (.putfield 334, 3) := by decide +kernel
theorem dX12_child_34 : decode cX12_child 34 = .ok (.aload_n 0, 1) := by decide +kernel
theorem dX12_child_35 : decode cX12_child 35 = .ok (.bipush 40, 2) := by decide +kernel
theorem dX12_child_37 : decode cX12_child 37 = .ok (.invokevirtual 394, 3) := by decide +kernel
theorem dX12_child_40 : decode cX12_child 40 = .ok (.iconst 0, 1) := by decide +kernel
theorem dX12_child_41 : decode cX12_child 41 = .ok (.istore_n 2, 1) := by decide +kernel
theorem dX12_child_42 : decode cX12_child 42 = .ok (.aload_n 0, 1) := by decide +kernel
theorem dX12_child_43 : decode cX12_child 43 = .ok (.bipush 41, 2) := by decide +kernel
theorem dX12_child_45 : decode cX12_child 45 = .ok (.invokevirtual 340, 3) := by decide +kernel
theorem dX12_child_48 : decode cX12_child 48 = .ok (.ifCond .ne 29, 3) := by decide +kernel
theorem dX12_child_51 : decode cX12_child 51 = .ok (.aload_n 0, 1) := by decide +kernel
theorem dX12_child_52 : decode cX12_child 52 = .ok (.invokevirtual 457, 3) := by decide +kernel
theorem dX12_child_55 : decode cX12_child 55 = .ok (.iinc 2 1, 3) := by decide +kernel
theorem dX12_child_58 : decode cX12_child 58 = .ok (.aload_n 0, 1) := by decide +kernel
theorem dX12_child_59 : decode cX12_child 59 = .ok (.bipush 44, 2) := by decide +kernel
theorem dX12_child_61 : decode cX12_child 61 = .ok (.invokevirtual 400, 3) := by decide +kernel
theorem dX12_child_64 : decode cX12_child 64 = .ok (.ifCond .eq 13, 3) := by decide +kernel
theorem dX12_child_67 : decode cX12_child 67 = .ok (.aload_n 0, 1) := by decide +kernel
theorem dX12_child_68 : decode cX12_child 68 = .ok (.invokevirtual 457, 3) := by decide +kernel
theorem dX12_child_71 : decode cX12_child 71 = .ok (.iinc 2 1, 3) := by decide +kernel
theorem dX12_child_74 : decode cX12_child 74 = .ok (.goto (-16), 3) := by decide +kernel
theorem dX12_child_77 : decode cX12_child 77 = .ok (.aload_n 0, 1) := by decide +kernel
theorem dX12_child_78 : decode cX12_child 78 = .ok (.bipush 41, 2) := by decide +kernel
theorem dX12_child_80 : decode cX12_child 80 = .ok (.invokevirtual 394, 3) := by decide +kernel
theorem dX12_child_83 : decode cX12_child 83 = .ok (.aload_n 0, 1) := by decide +kernel
theorem dX12_child_84 : decode cX12_child 84 = .ok (.bipush 27, 2) := by decide +kernel
theorem dX12_child_86 : decode cX12_child 86 = .ok (.iconst 0, 1) := by decide +kernel
theorem dX12_child_87 : decode cX12_child 87 = .ok (.iload_n 2, 1) := by decide +kernel
theorem dX12_child_88 : decode cX12_child 88 = .ok (.invokevirtual 431, 3) := by decide +kernel
theorem dX12_child_91 : decode cX12_child 91 = .ok (.istore_n 3, 1) := by decide +kernel
theorem dX12_child_92 : decode cX12_child 92 = .ok (.aload_n 0, 1) := by decide +kernel
theorem dX12_child_93 : decode cX12_child 93 = .ok (.getfield 337, 3) := by decide +kernel
theorem dX12_child_96 : decode cX12_child 96 = .ok (.ifCond .ne 43, 3) := by decide +kernel
theorem dX12_child_99 : decode cX12_child 99 = .ok (.aload_n 0, 1) := by decide +kernel
theorem dX12_child_100 : decode cX12_child 100 = .ok (.getfield 167, 3) := by decide +kernel
theorem dX12_child_103 : decode cX12_child 103 = .ok (.aload_n 0, 1) := by decide +kernel
theorem dX12_child_104 : decode cX12_child 104 = .ok (.getfield 374, 3) := by decide +kernel
theorem dX12_child_107 : decode cX12_child 107 = .ok (.iload_n 1, 1) := by decide +kernel
theorem dX12_child_108 : decode cX12_child 108 = .ok (.iastore, 1) := by decide +kernel
theorem dX12_child_109 : decode cX12_child 109 = .ok (.aload_n 0, 1) := by decide +kernel
theorem dX12_child_110 : decode cX12_child 110 = .ok (.getfield 170, 3) := by decide +kernel
theorem dX12_child_113 : decode cX12_child 113 = .ok (.aload_n 0, 1) := by decide +kernel
theorem dX12_child_114 : decode cX12_child 114 = .ok (.getfield 374, 3) := by decide +kernel
theorem dX12_child_117 : decode cX12_child 117 = .ok (.iload_n 2, 1) := by decide +kernel
theorem dX12_child_118 : decode cX12_child 118 = .ok (.iastore, 1) := by decide +kernel
theorem dX12_child_119 : decode cX12_child 119 = .ok (.aload_n 0, 1) := by decide +kernel
theorem dX12_child_120 : decode cX12_child 120 = .ok (.getfield 173, 3) := by decide +kernel
theorem dX12_child_123 : decode cX12_child 123 = .ok (.aload_n 0, 1) := by decide +kernel
theorem dX12_child_124 : decode cX12_child 124 = .ok (.getfield 374, 3) := by decide +kernel
theorem dX12_child_127 : decode cX12_child 127 = .ok (.iload_n 3, 1) := by decide +kernel
theorem dX12_child_128 : decode cX12_child 128 = .ok (.iastore, 1) := by decide +kernel
theorem dX12_child_129 : decode cX12_child 129 = .ok (.aload_n 0, 1) := by decide +kernel
theorem dX12_child_130 : decode cX12_child 130 = .ok (.dup, 1) := by decide +kernel
theorem dX12_child_131 : decode cX12_child 131 = .ok (.getfield 374, 3) := by decide +kernel
theorem dX12_child_134 : decode cX12_child 134 = .ok (.iconst 1, 1) := by decide +kernel
theorem dX12_child_135 : decode cX12_child 135 = .ok (.iadd, 1) := by decide +kernel
theorem dX12_child_136 : decode cX12_child 136 = .ok (.putfield 374, 3) := by decide +kernel
theorem dX12_child_139 : decode cX12_child 139 = .ok (.return_, 1) := by decide +kernel
theorem dX12_isWait_0 : decode cX12_isWait 0 = .ok (.aload_n 0, 1) := by decide +kernel
theorem dX12_isWait_1 : decode cX12_isWait 1 = .ok (.bipush 13, 2) := by decide +kernel
theorem dX12_isWait_3 : decode cX12_isWait 3 = .ok (.invokevirtual 347, 3) := by decide +kernel
theorem dX12_isWait_6 : decode cX12_isWait 6 = .ok (.ifCond .ne 57, 3) := by decide +kernel
theorem dX12_isWait_9 : decode cX12_isWait 9 = .ok (.aload_n 0, 1) := by decide +kernel
theorem dX12_isWait_10 : decode cX12_isWait 10 = .ok (.bipush 14, 2) := by decide +kernel
theorem dX12_isWait_12 : decode cX12_isWait 12 = .ok (.invokevirtual 347, 3) := by decide +kernel
theorem dX12_isWait_15 : decode cX12_isWait 15 = .ok (.ifCond .ne 48, 3) := by decide +kernel
theorem dX12_isWait_18 : decode cX12_isWait 18 = .ok (.aload_n 0, 1) := by decide +kernel
theorem dX12_isWait_19 : decode cX12_isWait 19 = .ok (.bipush 15, 2) := by decide +kernel
theorem dX12_isWait_21 : decode cX12_isWait 21 = .ok (.invokevirtual 347, 3) := by decide +kernel
theorem dX12_isWait_24 : decode cX12_isWait 24 = .ok (.ifCond .ne 39, 3) := by decide +kernel
theorem dX12_isWait_27 : decode cX12_isWait 27 = .ok (.aload_n 0, 1) := by decide +kernel
theorem dX12_isWait_28 : decode cX12_isWait 28 = .ok (.bipush 16, 2) := by decide +kernel
theorem dX12_isWait_30 : decode cX12_isWait 30 = .ok (.invokevirtual 347, 3) := by decide +kernel
theorem dX12_isWait_33 : decode cX12_isWait 33 = .ok (.ifCond .ne 30, 3) := by decide +kernel
theorem dX12_isWait_36 : decode cX12_isWait 36 = .ok (.aload_n 0, 1) := by decide +kernel
theorem dX12_isWait_37 : decode cX12_isWait 37 = .ok (.bipush 17, 2) := by decide +kernel
theorem dX12_isWait_39 : decode cX12_isWait 39 = .ok (.invokevirtual 347, 3) := by decide +kernel
theorem dX12_isWait_42 : decode cX12_isWait 42 = .ok (.ifCond .ne 21, 3) := by decide +kernel
theorem dX12_isWait_45 : decode cX12_isWait 45 = .ok (.aload_n 0, 1) := by decide +kernel
theorem dX12_isWait_46 : decode cX12_isWait 46 = .ok (.bipush 18, 2) := by decide +kernel
theorem dX12_isWait_48 : decode cX12_isWait 48 = .ok (.invokevirtual 347, 3) := by decide +kernel
theorem dX12_isWait_51 : decode cX12_isWait 51 = .ok (.ifCond .ne 12, 3) := by decide +kernel
theorem dX12_isWait_54 : decode cX12_isWait 54 = .ok (.aload_n 0, 1) := by decide +kernel
theorem dX12_isWait_55 : decode cX12_isWait 55 = .ok (.bipush 19, 2) := by decide +kernel
theorem dX12_isWait_57 : decode cX12_isWait 57 = .ok (.invokevirtual 347, 3) := by decide +kernel
theorem dX12_isWait_60 : decode cX12_isWait 60 = .ok (.ifCond .eq 7, 3) := by decide +kernel
theorem dX12_isWait_63 : decode cX12_isWait 63 = .ok (.iconst 1, 1) := by decide +kernel
theorem dX12_isWait_64 : decode cX12_isWait 64 = .ok (.goto 4, 3) := by decide +kernel
theorem dX12_isWait_67 : decode cX12_isWait 67 = .ok (.iconst 0, 1) := by decide +kernel
theorem dX12_isWait_68 : decode cX12_isWait 68 = .ok (.ireturn, 1) := by decide +kernel
theorem dX12_leaves_0 : decode cX12_leaves 0 = .ok (.aload_n 0, 1) := by decide +kernel
theorem dX12_leaves_1 : decode cX12_leaves 1 = .ok (.getfield 409, 3) := by decide +kernel
theorem dX12_leaves_4 : decode cX12_leaves 4 = .ok (.ifCond .lt 10, 3) := by decide +kernel
theorem dX12_leaves_7 : decode cX12_leaves 7 = .ok (.aload_n 0, 1) := by decide +kernel
theorem dX12_leaves_8 : decode cX12_leaves 8 = .ok (.getfield 415, 3) := by decide +kernel
theorem dX12_leaves_11 : decode cX12_leaves 11 = .ok (.ifCond .eq 9, 3) := by decide +kernel
theorem dX12_leaves_14 : decode cX12_leaves 14 = .ok (.aload_n 0, 1) := by decide +kernel
theorem dX12_leaves_15 : decode cX12_leaves 15 = .ok (.iconst 1, 1) := by decide +kernel
theorem dX12_leaves_16 : decode cX12_leaves 16 = .ok (.invokevirtual 343, 3) := by decide +kernel
theorem dX12_leaves_19 : decode cX12_leaves 19 = .ok (.return_, 1) := by decide +kernel
theorem dX12_leaves_20 : decode cX12_leaves 20 = .ok (.aload_n 0, 1) := by decide +kernel
theorem dX12_leaves_21 : decode cX12_leaves 21 = .ok (.dup, 1) := by decide +kernel
theorem dX12_leaves_22 : decode cX12_leaves 22 = .ok (.getfield 334, 3) := by decide +kernel
theorem dX12_leaves_25 : decode cX12_leaves 25 = .ok (.iconst 1, 1) := by decide +kernel
theorem dX12_leaves_26 : decode cX12_leaves 26 = .ok (.iadd, 1) := by decide +kernel
theorem dX12_leaves_27 : decode cX12_leaves 27 = .ok (.putfield 334, 3) := by decide +kernel
theorem dX12_leaves_30 : decode cX12_leaves 30 = .ok (.aload_n 0, 1) := by decide +kernel
theorem dX12_leaves_31 : decode cX12_leaves 31 = .ok (.iload_n 1, 1) := by decide +kernel
theorem dX12_leaves_32 : decode cX12_leaves 32 = .ok (.ifCond .eq 8, 3) := by decide +kernel
theorem dX12_leaves_35 : decode cX12_leaves 35 = .ok (.bipush 19, 2) := by decide +kernel
theorem dX12_leaves_37 : decode cX12_leaves 37 = .ok (.goto 5, 3) := by decide +kernel
theorem dX12_leaves_40 : decode cX12_leaves 40 = .ok (.bipush 20, 2) := by decide +kernel
theorem dX12_leaves_42 : decode cX12_leaves 42 = .ok (.aload_n 0, 1) := by decide +kernel
theorem dX12_leaves_43 : decode cX12_leaves 43 = .ok (.getfield 409, 3) := by decide +kernel
theorem dX12_leaves_46 : decode cX12_leaves 46 = .ok (.iconst 0, 1) := by decide +kernel
theorem dX12_leaves_47 : decode cX12_leaves 47 = .ok (.invokevirtual 431, 3) := by decide +kernel
theorem dX12_leaves_50 : decode cX12_leaves 50 = .ok (.istore_n 2, 1) := by decide +kernel
theorem dX12_leaves_51 : decode cX12_leaves 51 = .ok (.aload_n 0, 1) := by decide +kernel
theorem dX12_leaves_52 : decode cX12_leaves 52 = .ok (.iload_n 1, 1) := by decide +kernel
theorem dX12_leaves_53 : decode cX12_leaves 53 = .ok (.ifCond .eq 8, 3) := by decide +kernel
theorem dX12_leaves_56 : decode cX12_leaves 56 = .ok (.bipush 8, 2) := by decide +kernel
theorem dX12_leaves_58 : decode cX12_leaves 58 = .ok (.goto 5, 3) := by decide +kernel
theorem dX12_leaves_61 : decode cX12_leaves 61 = .ok (.bipush 9, 2) := by decide +kernel
theorem dX12_leaves_63 : decode cX12_leaves 63 = .ok (.aload_n 0, 1) := by decide +kernel
theorem dX12_leaves_64 : decode cX12_leaves 64 = .ok (.getfield 409, 3) := by decide +kernel
theorem dX12_leaves_67 : decode cX12_leaves 67 = .ok (.invokevirtual 460, 3) := by decide +kernel
theorem dX12_leaves_70 : decode cX12_leaves 70 = .ok (.istore_n 2, 1) := by decide +kernel
theorem dX12_leaves_71 : decode cX12_leaves 71 = .ok (.aload_n 0, 1) := by decide +kernel
theorem dX12_leaves_72 : decode cX12_leaves 72 = .ok (.iload_n 1, 1) := by decide +kernel
theorem dX12_leaves_73 : decode cX12_leaves 73 = .ok (.ifCond .eq 10, 3) := by decide +kernel
theorem dX12_leaves_76 : decode cX12_leaves 76 = .ok (.aload_n 0, 1) := by decide +kernel
theorem dX12_leaves_77 : decode cX12_leaves 77 = .ok (.getfield 140, 3) := by decide +kernel
theorem dX12_leaves_80 : decode cX12_leaves 80 = .ok (.goto 7, 3) := by decide +kernel
theorem dX12_leaves_83 : decode cX12_leaves 83 = .ok (.aload_n 0, 1) := by decide +kernel
theorem dX12_leaves_84 : decode cX12_leaves 84 = .ok (.getfield 143, 3) := by decide +kernel
theorem dX12_leaves_87 : decode cX12_leaves 87 = .ok (.aload_n 0, 1) := by decide +kernel
theorem dX12_leaves_88 : decode cX12_leaves 88 = .ok (.getfield 409, 3) := by decide +kernel
theorem dX12_leaves_91 : decode cX12_leaves 91 = .ok (.invokevirtual 479, 3) := by decide +kernel
theorem dX12_leaves_94 : decode cX12_leaves 94 = .ok (.aload_n 0, 1) := by decide +kernel
theorem dX12_leaves_95 : decode cX12_leaves 95 = .ok (.iconst (-1), 1) := by decide +kernel
theorem dX12_leaves_96 : decode cX12_leaves 96 = .ok (.putfield 425, 3) := by decide +kernel
theorem dX12_leaves_99 : decode cX12_leaves 99 = .ok (.return_, 1) := by decide +kernel
theorem dX12_takeNumber_0 : decode cX12_takeNumber 0 = .ok (.aload_n 0, 1) := by decide +kernel
theorem dX12_takeNumber_1 : decode cX12_takeNumber 1 = .ok (.getfield 337, 3) := by decide +kernel
theorem dX12_takeNumber_4 : decode cX12_takeNumber 4 = .ok (.ifCond .ne 24, 3) := by decide +kernel
theorem dX12_takeNumber_7 : decode cX12_takeNumber 7 = .ok (.aload_n 0, 1) := by decide +kernel
theorem dX12_takeNumber_8 : decode cX12_takeNumber 8 = .ok (.getfield 24, 3) := by decide +kernel
theorem dX12_takeNumber_11 : decode cX12_takeNumber 11 = .ok (.aload_n 0, 1) := by decide +kernel
theorem dX12_takeNumber_12 : decode cX12_takeNumber 12 = .ok (.getfield 334, 3) := by decide +kernel
theorem dX12_takeNumber_15 : decode cX12_takeNumber 15 = .ok (.iaload, 1) := by decide +kernel
theorem dX12_takeNumber_16 : decode cX12_takeNumber 16 = .ok (.iconst 2, 1) := by decide +kernel
theorem dX12_takeNumber_17 : decode cX12_takeNumber 17 = .ok (.if_icmp .eq 11, 3) := by decide +kernel
theorem dX12_takeNumber_20 : decode cX12_takeNumber 20 = .ok (.aload_n 0, 1) := by decide +kernel
theorem dX12_takeNumber_21 : decode cX12_takeNumber 21 = .ok (.iconst 1, 1) := by decide +kernel
theorem dX12_takeNumber_22 : decode cX12_takeNumber 22 = .ok (.invokevirtual 343, 3) := by decide +kernel
theorem dX12_takeNumber_25 : decode cX12_takeNumber 25 = .ok (.goto 45, 3) := by decide +kernel
theorem dX12_takeNumber_28 : decode cX12_takeNumber 28 = .ok (.aload_n 0, 1) := by decide +kernel
theorem dX12_takeNumber_29 : decode cX12_takeNumber 29 = .ok (.getfield 337, 3) := by decide +kernel
theorem dX12_takeNumber_32 : decode cX12_takeNumber 32 = .ok (.ifCond .ne 38, 3) := by decide +kernel
theorem dX12_takeNumber_35 : decode cX12_takeNumber 35 = .ok (.aload_n 0, 1) := by decide +kernel
theorem dX12_takeNumber_36 : decode cX12_takeNumber 36 = .ok (.getfield 30, 3) := by decide +kernel
theorem dX12_takeNumber_39 : decode cX12_takeNumber 39 = .ok (.aload_n 0, 1) := by decide +kernel
theorem dX12_takeNumber_40 : decode cX12_takeNumber 40 = .ok (.getfield 334, 3) := by decide +kernel
theorem dX12_takeNumber_43 : decode cX12_takeNumber 43 = .ok (.laload, 1) := by decide +kernel
theorem dX12_takeNumber_44 : decode cX12_takeNumber 44 = .ok (.iload_n 1, 1) := by decide +kernel
theorem dX12_takeNumber_45 : decode cX12_takeNumber 45 = .ok (.i2l, 1) := by decide +kernel
theorem dX12_takeNumber_46 : decode cX12_takeNumber 46 = .ok (.lcmp, 1) := by decide +kernel
theorem dX12_takeNumber_47 : decode cX12_takeNumber 47 = .ok (.ifCond .lt 18, 3) := by decide +kernel
theorem dX12_takeNumber_50 : decode cX12_takeNumber 50 = .ok (.aload_n 0, 1) := by decide +kernel
theorem dX12_takeNumber_51 : decode cX12_takeNumber 51 = .ok (.getfield 30, 3) := by decide +kernel
theorem dX12_takeNumber_54 : decode cX12_takeNumber 54 = .ok (.aload_n 0, 1) := by decide +kernel
theorem dX12_takeNumber_55 : decode cX12_takeNumber 55 = .ok (.getfield 334, 3) := by decide +kernel
theorem dX12_takeNumber_58 : decode cX12_takeNumber 58 = .ok (.laload, 1) := by decide +kernel
theorem dX12_takeNumber_59 : decode cX12_takeNumber 59 = .ok (.iload_n 2, 1) := by decide +kernel
theorem dX12_takeNumber_60 : decode cX12_takeNumber 60 = .ok (.i2l, 1) := by decide +kernel
theorem dX12_takeNumber_61 : decode cX12_takeNumber 61 = .ok (.lcmp, 1) := by decide +kernel
theorem dX12_takeNumber_62 : decode cX12_takeNumber 62 = .ok (.ifCond .le 8, 3) := by decide +kernel
theorem dX12_takeNumber_65 : decode cX12_takeNumber 65 = .ok (.aload_n 0, 1) := by decide +kernel
theorem dX12_takeNumber_66 : decode cX12_takeNumber 66 = .ok (.iconst 4, 1) := by decide +kernel
theorem dX12_takeNumber_67 : decode cX12_takeNumber 67 = .ok (.invokevirtual 343, 3) := by decide +kernel
theorem dX12_takeNumber_70 : decode cX12_takeNumber 70 = .ok (.aload_n 0, 1) := by decide +kernel
theorem dX12_takeNumber_71 : decode cX12_takeNumber 71 = .ok (.dup, 1) := by decide +kernel
theorem dX12_takeNumber_72 : decode cX12_takeNumber 72 = .ok (.getfield 334, 3) := by decide +kernel
theorem dX12_takeNumber_75 : decode cX12_takeNumber 75 = .ok (.iconst 1, 1) := by decide +kernel
theorem dX12_takeNumber_76 : decode cX12_takeNumber 76 = .ok (.iadd, 1) := by decide +kernel
theorem dX12_takeNumber_77 : decode cX12_takeNumber 77 = .ok (.putfield 334, 3) := by decide +kernel
theorem dX12_takeNumber_80 : decode cX12_takeNumber 80 = .ok (.aload_n 0, 1) := by decide +kernel
theorem dX12_takeNumber_81 : decode cX12_takeNumber 81 = .ok (.getfield 337, 3) := by decide +kernel
theorem dX12_takeNumber_84 : decode cX12_takeNumber 84 = .ok (.ifCond .le 7, 3) := by decide +kernel
theorem dX12_takeNumber_87 : decode cX12_takeNumber 87 = .ok (.iconst 0, 1) := by decide +kernel
theorem dX12_takeNumber_88 : decode cX12_takeNumber 88 = .ok (.goto 15, 3) := by decide +kernel
theorem dX12_takeNumber_91 : decode cX12_takeNumber 91 = .ok (.aload_n 0, 1) := by decide +kernel
theorem dX12_takeNumber_92 : decode cX12_takeNumber 92 = .ok (.getfield 30, 3) := by decide +kernel
theorem dX12_takeNumber_95 : decode cX12_takeNumber 95 = .ok (.aload_n 0, 1) := by decide +kernel
theorem dX12_takeNumber_96 : decode cX12_takeNumber 96 = .ok (.getfield 334, 3) := by decide +kernel
theorem dX12_takeNumber_99 : decode cX12_takeNumber 99 = .ok (.iconst 1, 1) := by decide +kernel
theorem dX12_takeNumber_100 : decode cX12_takeNumber 100 = .ok (.isub, 1) := by decide +kernel
theorem dX12_takeNumber_101 : decode cX12_takeNumber 101 = .ok (.laload, 1) := by decide +kernel
theorem dX12_takeNumber_102 : decode cX12_takeNumber 102 = .ok (.l2i, 1) := by decide +kernel
theorem dX12_takeNumber_103 : decode cX12_takeNumber 103 = .ok (.ireturn, 1) := by decide +kernel
theorem dX12_takeWord_0 : decode cX12_takeWord 0 = .ok (.aload_n 0, 1) := by decide +kernel
theorem dX12_takeWord_1 : decode cX12_takeWord 1 = .ok (.iload_n 1, 1) := by decide +kernel
theorem dX12_takeWord_2 : decode cX12_takeWord 2 = .ok (.invokevirtual 350, 3) := by decide +kernel
theorem dX12_takeWord_5 : decode cX12_takeWord 5 = .ok (.ifCond .ne 8, 3) := by decide +kernel
theorem dX12_takeWord_8 : decode cX12_takeWord 8 = .ok (.aload_n 0, 1) := by decide +kernel
theorem dX12_takeWord_9 : decode cX12_takeWord 9 = .ok (.iconst 1, 1) := by decide +kernel
theorem dX12_takeWord_10 : decode cX12_takeWord 10 = .ok (.invokevirtual 343, 3) := by decide +kernel
theorem dX12_takeWord_13 : decode cX12_takeWord 13 = .ok (.return_, 1) := by decide +kernel
def wp_marks_r_48 (K : mS → Prop) (k11 : Int32 × Int32 × Int32 × mS → Prop) (x2 : Int32) (x3 : Int32) (y1 : Int32) (y2 : Int32) (S : mS) : Prop := inR y1 1000 ∧ (y2 = 0 ∨ y2 = 1) ∧ ∀ S8 : mS, S8 = sF S 39 (ix y1) y2 → inR x3 1000 ∧ ∀ z9 : Int32, z9 = S8.2.1 26 (ix x3) → inR x3 1000 ∧ ∀ z10 : Int32, z10 = S8.2.1 25 (ix x3) → k11 (x2, z10, z9, S8)
def wp_marks_r_43 (K : mS → Prop) (k11 : Int32 × Int32 × Int32 × mS → Prop) (x2 : Int32) (x3 : Int32) (y1 : Int32) (S : mS) : Prop := wp_marks_r_48 K k11 x2 x3 y1 1 S
def wp_marks_r_29 (K : mS → Prop) (k11 : Int32 × Int32 × Int32 × mS → Prop) (x2 : Int32) (x3 : Int32) (x4 : Int32) (S : mS) : Prop := inR x3 1000 ∧ ∀ z5 : Int32, z5 = S.2.1 39 (ix x3) → ((¬ z5 = 0 → wp_marks_r_43 K k11 x2 x3 x3 S) ∧ (z5 = 0 → ((2 ≤ x4 → wp_marks_r_48 K k11 x2 x3 x3 0 S) ∧ (¬ 2 ≤ x4 → wp_marks_r_43 K k11 x2 x3 x3 S))))
def wp_marks_r_11 (K : mS → Prop) (k11 : Int32 × Int32 × Int32 × mS → Prop) (x2 : Int32) (x3 : Int32) (x4 : Int32) (S : mS) : Prop := ((x3 < 0 → K S) ∧ (¬ x3 < 0 → ((x2 < 0 → wp_marks_r_29 K k11 x2 x3 x4 S) ∧ (¬ x2 < 0 → inR x2 1000 ∧ ∀ z3 : Int32, z3 = S.2.1 40 (ix x2) → ((x3 = z3 → K S) ∧ (¬ x3 = z3 → wp_marks_r_29 K k11 x2 x3 x4 S))))))
def ls_marks_r_11 (K : mS → Prop) (k11 : Int32 × Int32 × Int32 × mS → Prop) (u : Int32 × Int32 × Int32 × mS) : Prop := wp_marks_r_11 K k11 u.1 u.2.1 u.2.2.1 u.2.2.2
def wp_marks_r (a1 : Int32) (S : mS) (K : mS → Prop) : Prop := (∃ n9, it (ls_marks_r_11 K) n9 (a1, S.1 13, S.1 14, S))
set_option maxHeartbeats 4000000 in
set_option maxRecDepth 100000 in
theorem ct_marks_r (l : Launch) (S : mS) (a1 : Int32) (K : mS → Prop) (h : wp_marks_r a1 S K) : mMv l yX12_marks cX12_marks 5 none 0 0 (fun E => [.ref (E.2.2.1 39), .int a1]) S K := by
  refine mv_ofv (by decide) rfl (fun _ => Nat.le_of_ble_eq_true rfl) ?_
  intro E p e R s m args below meth c A ls Q hRf hRl hX hC hl hret
  have hx := hX.1.1
  have hb := hX.1.2.1
  have hown := hX.1.2.2.2.1
  have hts := hX.1.2.2.2.2
  have cut11 : ∀ (n11 : Nat) (x2 : Int32) (x3 : Int32) (x4 : Int32) (S : mS) (H : Heap) (locs : List Loc) (ls : Array Slot), it (ls_marks_r_11 K) n11 (x2, x3, x4, S) → mC E A s.heap S H locs → lv_has ls 5 [(0, .ref E.2.1), (1, .ref (E.2.2.1 39)), (2, .int x2), (3, .int x3), (4, .int x4)] → W p l e R s m args below meth c H locs 0 0 Q (F0 m 11 ls []) := by
    intro n11
    induction n11 with
    | zero => intro x2 x3 x4 S H locs ls h hC hl; exact h.elim
    | succ n11 ih11 =>
      have cut48 : ∀ (x2 : Int32) (x3 : Int32) (y1 : Int32) (y2 : Int32) (S : mS) (H : Heap) (locs : List Loc) (ls : Array Slot), wp_marks_r_48 K (it (ls_marks_r_11 K) n11) x2 x3 y1 y2 S → mC E A s.heap S H locs → lv_has ls 5 [(0, .ref E.2.1), (1, .ref (E.2.2.1 39)), (2, .int x2), (3, .int x3)] → W p l e R s m args below meth c H locs 0 0 Q (F0 m 48 ls [.int y2, .int y1, .ref (E.2.2.1 39)]) := by
        intro x2 x3 y1 y2 S H locs ls h hC hl
        unfold wp_marks_r_48 at h
        refine mq_zst (n := 1000) (v := y2) hX hC 39 rfl rfl (nr_01 h.2.1) mf_39 dX12_marks_48 h.1 h.2.2 (fun S8 H locs hC h => ?_)
        refine lv_aload_n hx hb dX12_marks_49 rfl (lv_at hl 0 rfl) ?_
        refine mv_get (v := .ref (E.2.2.1 26)) hX hC 37 (Nat.le_of_ble_eq_true rfl) wd_1437 rfl dX12_marks_50 ?_
        refine lv_iload_n hx hb dX12_marks_53 rfl (lv_at hl 3 rfl) ?_
        refine mq_ild (n := 1000) hX hC 26 rfl rfl dX12_marks_54 h (fun z9 h => ?_)
        refine lv_istore (lv' := [(4, .int z9), (0, .ref E.2.1), (1, .ref (E.2.2.1 39)), (2, .int x2), (3, .int x3)]) hx hb dX12_marks_55 hl (by decide) rfl (fun ls hl => ?_)
        refine lv_aload_n hx hb dX12_marks_57 rfl (lv_at hl 1 rfl) ?_
        refine mv_get (v := .ref (E.2.2.1 25)) hX hC 36 (Nat.le_of_ble_eq_true rfl) wd_1436 rfl dX12_marks_58 ?_
        refine lv_iload_n hx hb dX12_marks_61 rfl (lv_at hl 4 rfl) ?_
        refine mq_ild (n := 1000) hX hC 25 rfl rfl dX12_marks_62 h (fun z10 h => ?_)
        refine lv_istore_n (lv' := [(3, .int z10), (4, .int z9), (0, .ref E.2.1), (1, .ref (E.2.2.1 39)), (2, .int x2)]) hx hb dX12_marks_63 rfl hl (by decide) rfl (fun ls hl => ?_)
        refine lv_goto (tgt := 11) hx hb dX12_marks_64 (by decide) ?_
        exact ih11 x2 z10 z9 S8 _ _ _ h hC (lv_sub hl [2, 3, 4, 0, 1] rfl)
      have cut43 : ∀ (x2 : Int32) (x3 : Int32) (y1 : Int32) (S : mS) (H : Heap) (locs : List Loc) (ls : Array Slot), wp_marks_r_43 K (it (ls_marks_r_11 K) n11) x2 x3 y1 S → mC E A s.heap S H locs → lv_has ls 5 [(0, .ref E.2.1), (1, .ref (E.2.2.1 39)), (2, .int x2), (3, .int x3)] → W p l e R s m args below meth c H locs 0 0 Q (F0 m 43 ls [.int y1, .ref (E.2.2.1 39)]) := by
        intro x2 x3 y1 S H locs ls h hC hl
        unfold wp_marks_r_43 at h
        refine lv_iconst (v := 1) hx hb dX12_marks_43 (by decide) ?_
        refine lv_goto (tgt := 48) hx hb dX12_marks_44 (by decide) ?_
        exact cut48 x2 x3 y1 1 S _ _ _ h hC (lv_sub hl [0, 1, 2, 3] rfl)
      have cut29 : ∀ (x2 : Int32) (x3 : Int32) (x4 : Int32) (S : mS) (H : Heap) (locs : List Loc) (ls : Array Slot), wp_marks_r_29 K (it (ls_marks_r_11 K) n11) x2 x3 x4 S → mC E A s.heap S H locs → lv_has ls 5 [(0, .ref E.2.1), (1, .ref (E.2.2.1 39)), (2, .int x2), (3, .int x3), (4, .int x4)] → W p l e R s m args below meth c H locs 0 0 Q (F0 m 29 ls []) := by
        intro x2 x3 x4 S H locs ls h hC hl
        unfold wp_marks_r_29 at h
        refine lv_aload_n hx hb dX12_marks_29 rfl (lv_at hl 1 rfl) ?_
        refine lv_iload_n hx hb dX12_marks_30 rfl (lv_at hl 3 rfl) ?_
        refine lv_aload_n hx hb dX12_marks_31 rfl (lv_at hl 1 rfl) ?_
        refine lv_iload_n hx hb dX12_marks_32 rfl (lv_at hl 3 rfl) ?_
        refine mq_zld (n := 1000) hX hC 39 rfl rfl dX12_marks_33 h (fun z5 h => ?_)
        refine lv_if_ne (tgt := 43) hx hb dX12_marks_34 (by decide) (fun c6 => ?_) (fun c6 => ?_)
        · have h := h.1 c6
          exact cut43 x2 x3 x3 S _ _ _ h hC (lv_sub hl [0, 1, 2, 3] rfl)
        · have h := h.2 c6
          refine lv_iload hx hb dX12_marks_37 (lv_at hl 4 rfl) ?_
          refine lv_iconst (v := 2) hx hb dX12_marks_39 (by decide) ?_
          refine lv_icmp_ge (tgt := 47) hx hb dX12_marks_40 (by decide) (fun c7 => ?_) (fun c7 => ?_)
          · have h := h.1 c7
            refine lv_iconst (v := 0) hx hb dX12_marks_47 (by decide) ?_
            exact cut48 x2 x3 x3 0 S _ _ _ h hC (lv_sub hl [0, 1, 2, 3] rfl)
          · have h := h.2 c7
            exact cut43 x2 x3 x3 S _ _ _ h hC (lv_sub hl [0, 1, 2, 3] rfl)
      intro x2 x3 x4 S H locs ls h hC hl
      have h : wp_marks_r_11 K (it (ls_marks_r_11 K) n11) x2 x3 x4 S := h
      unfold wp_marks_r_11 at h
      refine lv_iload_n hx hb dX12_marks_11 rfl (lv_at hl 3 rfl) ?_
      refine lv_if_lt (tgt := 67) hx hb dX12_marks_12 (by decide) (fun c1 => ?_) (fun c1 => ?_)
      · have h := h.1 c1
        exact hret _ _ _ _ _ hC h dX12_marks_67
      · have h := h.2 c1
        refine lv_iload_n hx hb dX12_marks_15 rfl (lv_at hl 2 rfl) ?_
        refine lv_if_lt (tgt := 29) hx hb dX12_marks_16 (by decide) (fun c2 => ?_) (fun c2 => ?_)
        · have h := h.1 c2
          exact cut29 x2 x3 x4 S _ _ _ h hC (lv_sub hl [0, 1, 2, 3, 4] rfl)
        · have h := h.2 c2
          refine lv_iload_n hx hb dX12_marks_19 rfl (lv_at hl 3 rfl) ?_
          refine lv_aload_n hx hb dX12_marks_20 rfl (lv_at hl 0 rfl) ?_
          refine mv_get (v := .ref (E.2.2.1 40)) hX hC 52 (Nat.le_of_ble_eq_true rfl) wd_1452 rfl dX12_marks_21 ?_
          refine lv_iload_n hx hb dX12_marks_24 rfl (lv_at hl 2 rfl) ?_
          refine mq_ild (n := 1000) hX hC 40 rfl rfl dX12_marks_25 h (fun z3 h => ?_)
          refine lv_icmp_eq (tgt := 67) hx hb dX12_marks_26 (by decide) (fun c4 => ?_) (fun c4 => ?_)
          · have h := h.1 c4
            exact hret _ _ _ _ _ hC h dX12_marks_67
          · have h := h.2 c4
            exact cut29 x2 x3 x4 S _ _ _ h hC (lv_sub hl [0, 1, 2, 3, 4] rfl)
  have hl : lv_has ls 5 [(0, .ref E.2.1), (1, .ref (E.2.2.1 39)), (2, .int a1)] := hl
  unfold wp_marks_r at h
  refine lv_aload_n hx hb dX12_marks_0 rfl (lv_at hl 0 rfl) ?_
  refine mv_get (v := .int (S.1 13)) hX hC 63 (Nat.le_of_ble_eq_true rfl) wd_1463 rfl dX12_marks_1 ?_
  refine lv_istore_n (lv' := [(3, .int (S.1 13)), (0, .ref E.2.1), (1, .ref (E.2.2.1 39)), (2, .int a1)]) hx hb dX12_marks_4 rfl hl (by decide) rfl (fun ls hl => ?_)
  refine lv_aload_n hx hb dX12_marks_5 rfl (lv_at hl 1 rfl) ?_
  refine mv_get (v := .int (S.1 14)) hX hC 64 (Nat.le_of_ble_eq_true rfl) wd_1464 rfl dX12_marks_6 ?_
  refine lv_istore (lv' := [(4, .int (S.1 14)), (3, .int (S.1 13)), (0, .ref E.2.1), (1, .ref (E.2.2.1 39)), (2, .int a1)]) hx hb dX12_marks_9 hl (by decide) rfl (fun ls hl => ?_)
  obtain ⟨n9, h⟩ := h
  exact cut11 n9 a1 (S.1 13) (S.1 14) S _ _ _ h hC (lv_sub hl [2, 3, 4, 1, 0] rfl)
def wp_leaves (a0 : Int32) (S : mS) (K : mS → Prop) : Prop := (((S.1 15) < 0 → wp_wrong 1 S (fun (S2 : mS) => K S2)) ∧ (¬ (S.1 15) < 0 → (((S.1 17) = 0 → ∀ z4 : Int32, z4 = (S.1 3) + 1 → ∀ S5 : mS, S5 = sZ S 3 z4 → ((a0 = 0 → wp_emit 20 (S5.1 15) 0 S5 (fun (S7 : mS) (r7 : Int32) => ((a0 = 0 → wp_then 9 (S7.1 15) S7 (fun (S9 : mS) (r9 : Int32) => ((a0 = 0 → wp_marks_c (S9.1 15) S9 (fun (S11 : mS) => ∀ S12 : mS, S12 = sZ S11 19 (-1) → K S12)) ∧ (¬ a0 = 0 → wp_marks_b (S9.1 15) S9 (fun (S13 : mS) => ∀ S14 : mS, S14 = sZ S13 19 (-1) → K S14))))) ∧ (¬ a0 = 0 → wp_then 8 (S7.1 15) S7 (fun (S15 : mS) (r15 : Int32) => ((a0 = 0 → wp_marks_c (S15.1 15) S15 (fun (S17 : mS) => ∀ S18 : mS, S18 = sZ S17 19 (-1) → K S18)) ∧ (¬ a0 = 0 → wp_marks_b (S15.1 15) S15 (fun (S19 : mS) => ∀ S20 : mS, S20 = sZ S19 19 (-1) → K S20)))))))) ∧ (¬ a0 = 0 → wp_emit 19 (S5.1 15) 0 S5 (fun (S21 : mS) (r21 : Int32) => ((a0 = 0 → wp_then 9 (S21.1 15) S21 (fun (S23 : mS) (r23 : Int32) => ((a0 = 0 → wp_marks_c (S23.1 15) S23 (fun (S25 : mS) => ∀ S26 : mS, S26 = sZ S25 19 (-1) → K S26)) ∧ (¬ a0 = 0 → wp_marks_b (S23.1 15) S23 (fun (S27 : mS) => ∀ S28 : mS, S28 = sZ S27 19 (-1) → K S28))))) ∧ (¬ a0 = 0 → wp_then 8 (S21.1 15) S21 (fun (S29 : mS) (r29 : Int32) => ((a0 = 0 → wp_marks_c (S29.1 15) S29 (fun (S31 : mS) => ∀ S32 : mS, S32 = sZ S31 19 (-1) → K S32)) ∧ (¬ a0 = 0 → wp_marks_b (S29.1 15) S29 (fun (S33 : mS) => ∀ S34 : mS, S34 = sZ S33 19 (-1) → K S34)))))))))) ∧ (¬ (S.1 17) = 0 → wp_wrong 1 S (fun (S35 : mS) => K S35)))))
theorem cw_X12_marks {R : Room} {s : State} {args : Array Value} {fr lo : Nat} (hts : ∀ w ∈ tb, w.before args s = true) (h1 : fr + 1 ≤ R.frames) (h2 : 8 + (5 + 11) + lo ≤ R.locals) : CallW R s args RX12 RX12 479 yX12_marks cX12_marks 5 none (.code yX12_marks cX12_marks 5 none :: tb) (mRm fr lo) 0 0 2 := cwV 2 hts (gd_V wd_1926 wd_1928 sl_X12_marks wd_15 wd_1929) rfl rfl rfl (by decide +kernel) ⟨h1, h2⟩
set_option maxHeartbeats 4000000 in
set_option maxRecDepth 100000 in
theorem ct_leaves (l : Launch) (S : mS) (a0 : Int32) (K : mS → Prop) (h : wp_leaves a0 S K) : mMv l yX12_leaves cX12_leaves 3 none 2 45 (fun E => [.int a0]) S K := by
  refine mv_ofv (by decide) rfl (fun _ => Nat.le_of_ble_eq_true rfl) ?_
  intro E p e R s m args below meth c A ls Q hRf hRl hX hC hl hret
  have hx := hX.1.1
  have hb := hX.1.2.1
  have hown := hX.1.2.2.2.1
  have hts := hX.1.2.2.2.2
  have hl : lv_has ls 3 [(0, .ref E.2.1), (1, .int a0)] := hl
  unfold wp_leaves at h
  refine lv_aload_n hx hb dX12_leaves_0 rfl (lv_at hl 0 rfl) ?_
  refine mv_get (v := .int (S.1 15)) hX hC 65 (Nat.le_of_ble_eq_true rfl) wd_1465 rfl dX12_leaves_1 ?_
  refine lv_if_lt (tgt := 14) hx hb dX12_leaves_4 (by decide) (fun c1 => ?_) (fun c1 => ?_)
  · have h := h.1 c1
    refine lv_aload_n hx hb dX12_leaves_14 rfl (lv_at hl 0 rfl) ?_
    refine lv_iconst (v := 1) hx hb dX12_leaves_15 (by decide) ?_
    refine mv_callv [.int 1] (rest := []) hX hC (ct_wrong l S 1 _ h E _) (cw_X12_wrong hts (by omega) (by omega)) rfl hl.1 (Nat.le_of_ble_eq_true rfl) ⟨Nat.zero_le _, Nat.zero_le _⟩ dX12_leaves_16 (fun S2 H locs hC h => ?_)
    exact hret _ _ _ _ _ hC h dX12_leaves_19
  · have h := h.2 c1
    refine lv_aload_n hx hb dX12_leaves_7 rfl (lv_at hl 0 rfl) ?_
    refine mv_get (v := .int (S.1 17)) hX hC 67 (Nat.le_of_ble_eq_true rfl) wd_1467 rfl dX12_leaves_8 ?_
    refine lv_if_eq (tgt := 20) hx hb dX12_leaves_11 (by decide) (fun c3 => ?_) (fun c3 => ?_)
    · have h := h.1 c3
      refine lv_aload_n hx hb dX12_leaves_20 rfl (lv_at hl 0 rfl) ?_
      refine lv_dup hx hb dX12_leaves_21 rfl ?_
      refine mv_get (v := .int (S.1 3)) hX hC 7 (Nat.le_of_ble_eq_true rfl) wd_1407 rfl dX12_leaves_22 ?_
      refine lv_iconst (v := 1) hx hb dX12_leaves_25 (by decide) ?_
      refine lq_iadd hx hb dX12_leaves_26 h (fun z4 h => ?_)
      refine mq_put (v := z4) hX hC 7 3 (Nat.le_of_ble_eq_true rfl) wd_1407 rfl rfl rfl mz_3 dX12_leaves_27 h (fun S5 H locs hC h => ?_)
      refine lv_aload_n hx hb dX12_leaves_30 rfl (lv_at hl 0 rfl) ?_
      refine lv_iload_n hx hb dX12_leaves_31 rfl (lv_at hl 1 rfl) ?_
      refine lv_if_eq (tgt := 40) hx hb dX12_leaves_32 (by decide) (fun c6 => ?_) (fun c6 => ?_)
      · have h := h.1 c6
        refine lv_bipush (v := 20) hx hb dX12_leaves_40 (by decide) ?_
        refine lv_aload_n hx hb dX12_leaves_42 rfl (lv_at hl 0 rfl) ?_
        refine mv_get (v := .int (S5.1 15)) hX hC 65 (Nat.le_of_ble_eq_true rfl) wd_1465 rfl dX12_leaves_43 ?_
        refine lv_iconst (v := 0) hx hb dX12_leaves_46 (by decide) ?_
        refine mv_calli [.int 20, .int (S5.1 15), .int 0] (rest := []) hX hC (ct_emit l S5 20 (S5.1 15) 0 _ h E _) (cw_X12_emit hts (by omega) (by omega)) rfl hl.1 (Nat.le_of_ble_eq_true rfl) ⟨Nat.zero_le _, Nat.zero_le _⟩ dX12_leaves_47 (fun r7 S7 H locs hC h => ?_)
        refine lv_istore_n (lv' := [(2, .int r7), (0, .ref E.2.1), (1, .int a0)]) hx hb dX12_leaves_50 rfl hl (by decide) rfl (fun ls hl => ?_)
        refine lv_aload_n hx hb dX12_leaves_51 rfl (lv_at hl 1 rfl) ?_
        refine lv_iload_n hx hb dX12_leaves_52 rfl (lv_at hl 2 rfl) ?_
        refine lv_if_eq (tgt := 61) hx hb dX12_leaves_53 (by decide) (fun c8 => ?_) (fun c8 => ?_)
        · have h := h.1 c8
          refine lv_bipush (v := 9) hx hb dX12_leaves_61 (by decide) ?_
          refine lv_aload_n hx hb dX12_leaves_63 rfl (lv_at hl 1 rfl) ?_
          refine mv_get (v := .int (S7.1 15)) hX hC 65 (Nat.le_of_ble_eq_true rfl) wd_1465 rfl dX12_leaves_64 ?_
          refine mv_calli [.int 9, .int (S7.1 15)] (rest := []) hX hC (ct_then l S7 9 (S7.1 15) _ h E _) (cw_X12_then hts (by omega) (by omega)) rfl hl.1 (Nat.le_of_ble_eq_true rfl) ⟨Nat.zero_le _, Nat.zero_le _⟩ dX12_leaves_67 (fun r9 S9 H locs hC h => ?_)
          refine lv_istore_n (lv' := [(2, .int r9), (0, .ref E.2.1), (1, .int a0)]) hx hb dX12_leaves_70 rfl hl (by decide) rfl (fun ls hl => ?_)
          refine lv_aload_n hx hb dX12_leaves_71 rfl (lv_at hl 1 rfl) ?_
          refine lv_iload_n hx hb dX12_leaves_72 rfl (lv_at hl 2 rfl) ?_
          refine lv_if_eq (tgt := 83) hx hb dX12_leaves_73 (by decide) (fun c10 => ?_) (fun c10 => ?_)
          · have h := h.1 c10
            refine lv_aload_n hx hb dX12_leaves_83 rfl (lv_at hl 1 rfl) ?_
            refine mv_get (v := .ref (E.2.2.1 38)) hX hC 49 (Nat.le_of_ble_eq_true rfl) wd_1449 rfl dX12_leaves_84 ?_
            refine lv_aload_n hx hb dX12_leaves_87 rfl (lv_at hl 1 rfl) ?_
            refine mv_get (v := .int (S9.1 15)) hX hC 65 (Nat.le_of_ble_eq_true rfl) wd_1465 rfl dX12_leaves_88 ?_
            refine mv_callv [.ref (E.2.2.1 38), .int (S9.1 15)] (rest := []) hX hC (ct_marks_c l S9 (S9.1 15) _ h E _) (cw_X12_marks hts (by omega) (by omega)) rfl hl.1 (Nat.le_of_ble_eq_true rfl) ⟨Nat.zero_le _, Nat.zero_le _⟩ dX12_leaves_91 (fun S11 H locs hC h => ?_)
            refine lv_aload_n hx hb dX12_leaves_94 rfl (lv_at hl 1 rfl) ?_
            refine lv_iconst (v := -1) hx hb dX12_leaves_95 (by decide) ?_
            refine mq_put (v := -1) hX hC 69 19 (Nat.le_of_ble_eq_true rfl) wd_1469 rfl rfl rfl mz_19 dX12_leaves_96 h (fun S12 H locs hC h => ?_)
            exact hret _ _ _ _ _ hC h dX12_leaves_99
          · have h := h.2 c10
            refine lv_aload_n hx hb dX12_leaves_76 rfl (lv_at hl 1 rfl) ?_
            refine mv_get (v := .ref (E.2.2.1 37)) hX hC 48 (Nat.le_of_ble_eq_true rfl) wd_1448 rfl dX12_leaves_77 ?_
            refine lv_goto (tgt := 87) hx hb dX12_leaves_80 (by decide) ?_
            refine lv_aload_n hx hb dX12_leaves_87 rfl (lv_at hl 1 rfl) ?_
            refine mv_get (v := .int (S9.1 15)) hX hC 65 (Nat.le_of_ble_eq_true rfl) wd_1465 rfl dX12_leaves_88 ?_
            refine mv_callv [.ref (E.2.2.1 37), .int (S9.1 15)] (rest := []) hX hC (ct_marks_b l S9 (S9.1 15) _ h E _) (cw_X12_marks hts (by omega) (by omega)) rfl hl.1 (Nat.le_of_ble_eq_true rfl) ⟨Nat.zero_le _, Nat.zero_le _⟩ dX12_leaves_91 (fun S13 H locs hC h => ?_)
            refine lv_aload_n hx hb dX12_leaves_94 rfl (lv_at hl 1 rfl) ?_
            refine lv_iconst (v := -1) hx hb dX12_leaves_95 (by decide) ?_
            refine mq_put (v := -1) hX hC 69 19 (Nat.le_of_ble_eq_true rfl) wd_1469 rfl rfl rfl mz_19 dX12_leaves_96 h (fun S14 H locs hC h => ?_)
            exact hret _ _ _ _ _ hC h dX12_leaves_99
        · have h := h.2 c8
          refine lv_bipush (v := 8) hx hb dX12_leaves_56 (by decide) ?_
          refine lv_goto (tgt := 63) hx hb dX12_leaves_58 (by decide) ?_
          refine lv_aload_n hx hb dX12_leaves_63 rfl (lv_at hl 1 rfl) ?_
          refine mv_get (v := .int (S7.1 15)) hX hC 65 (Nat.le_of_ble_eq_true rfl) wd_1465 rfl dX12_leaves_64 ?_
          refine mv_calli [.int 8, .int (S7.1 15)] (rest := []) hX hC (ct_then l S7 8 (S7.1 15) _ h E _) (cw_X12_then hts (by omega) (by omega)) rfl hl.1 (Nat.le_of_ble_eq_true rfl) ⟨Nat.zero_le _, Nat.zero_le _⟩ dX12_leaves_67 (fun r15 S15 H locs hC h => ?_)
          refine lv_istore_n (lv' := [(2, .int r15), (0, .ref E.2.1), (1, .int a0)]) hx hb dX12_leaves_70 rfl hl (by decide) rfl (fun ls hl => ?_)
          refine lv_aload_n hx hb dX12_leaves_71 rfl (lv_at hl 1 rfl) ?_
          refine lv_iload_n hx hb dX12_leaves_72 rfl (lv_at hl 2 rfl) ?_
          refine lv_if_eq (tgt := 83) hx hb dX12_leaves_73 (by decide) (fun c16 => ?_) (fun c16 => ?_)
          · have h := h.1 c16
            refine lv_aload_n hx hb dX12_leaves_83 rfl (lv_at hl 1 rfl) ?_
            refine mv_get (v := .ref (E.2.2.1 38)) hX hC 49 (Nat.le_of_ble_eq_true rfl) wd_1449 rfl dX12_leaves_84 ?_
            refine lv_aload_n hx hb dX12_leaves_87 rfl (lv_at hl 1 rfl) ?_
            refine mv_get (v := .int (S15.1 15)) hX hC 65 (Nat.le_of_ble_eq_true rfl) wd_1465 rfl dX12_leaves_88 ?_
            refine mv_callv [.ref (E.2.2.1 38), .int (S15.1 15)] (rest := []) hX hC (ct_marks_c l S15 (S15.1 15) _ h E _) (cw_X12_marks hts (by omega) (by omega)) rfl hl.1 (Nat.le_of_ble_eq_true rfl) ⟨Nat.zero_le _, Nat.zero_le _⟩ dX12_leaves_91 (fun S17 H locs hC h => ?_)
            refine lv_aload_n hx hb dX12_leaves_94 rfl (lv_at hl 1 rfl) ?_
            refine lv_iconst (v := -1) hx hb dX12_leaves_95 (by decide) ?_
            refine mq_put (v := -1) hX hC 69 19 (Nat.le_of_ble_eq_true rfl) wd_1469 rfl rfl rfl mz_19 dX12_leaves_96 h (fun S18 H locs hC h => ?_)
            exact hret _ _ _ _ _ hC h dX12_leaves_99
          · have h := h.2 c16
            refine lv_aload_n hx hb dX12_leaves_76 rfl (lv_at hl 1 rfl) ?_
            refine mv_get (v := .ref (E.2.2.1 37)) hX hC 48 (Nat.le_of_ble_eq_true rfl) wd_1448 rfl dX12_leaves_77 ?_
            refine lv_goto (tgt := 87) hx hb dX12_leaves_80 (by decide) ?_
            refine lv_aload_n hx hb dX12_leaves_87 rfl (lv_at hl 1 rfl) ?_
            refine mv_get (v := .int (S15.1 15)) hX hC 65 (Nat.le_of_ble_eq_true rfl) wd_1465 rfl dX12_leaves_88 ?_
            refine mv_callv [.ref (E.2.2.1 37), .int (S15.1 15)] (rest := []) hX hC (ct_marks_b l S15 (S15.1 15) _ h E _) (cw_X12_marks hts (by omega) (by omega)) rfl hl.1 (Nat.le_of_ble_eq_true rfl) ⟨Nat.zero_le _, Nat.zero_le _⟩ dX12_leaves_91 (fun S19 H locs hC h => ?_)
            refine lv_aload_n hx hb dX12_leaves_94 rfl (lv_at hl 1 rfl) ?_
            refine lv_iconst (v := -1) hx hb dX12_leaves_95 (by decide) ?_
            refine mq_put (v := -1) hX hC 69 19 (Nat.le_of_ble_eq_true rfl) wd_1469 rfl rfl rfl mz_19 dX12_leaves_96 h (fun S20 H locs hC h => ?_)
            exact hret _ _ _ _ _ hC h dX12_leaves_99
      · have h := h.2 c6
        refine lv_bipush (v := 19) hx hb dX12_leaves_35 (by decide) ?_
        refine lv_goto (tgt := 42) hx hb dX12_leaves_37 (by decide) ?_
        refine lv_aload_n hx hb dX12_leaves_42 rfl (lv_at hl 0 rfl) ?_
        refine mv_get (v := .int (S5.1 15)) hX hC 65 (Nat.le_of_ble_eq_true rfl) wd_1465 rfl dX12_leaves_43 ?_
        refine lv_iconst (v := 0) hx hb dX12_leaves_46 (by decide) ?_
        refine mv_calli [.int 19, .int (S5.1 15), .int 0] (rest := []) hX hC (ct_emit l S5 19 (S5.1 15) 0 _ h E _) (cw_X12_emit hts (by omega) (by omega)) rfl hl.1 (Nat.le_of_ble_eq_true rfl) ⟨Nat.zero_le _, Nat.zero_le _⟩ dX12_leaves_47 (fun r21 S21 H locs hC h => ?_)
        refine lv_istore_n (lv' := [(2, .int r21), (0, .ref E.2.1), (1, .int a0)]) hx hb dX12_leaves_50 rfl hl (by decide) rfl (fun ls hl => ?_)
        refine lv_aload_n hx hb dX12_leaves_51 rfl (lv_at hl 1 rfl) ?_
        refine lv_iload_n hx hb dX12_leaves_52 rfl (lv_at hl 2 rfl) ?_
        refine lv_if_eq (tgt := 61) hx hb dX12_leaves_53 (by decide) (fun c22 => ?_) (fun c22 => ?_)
        · have h := h.1 c22
          refine lv_bipush (v := 9) hx hb dX12_leaves_61 (by decide) ?_
          refine lv_aload_n hx hb dX12_leaves_63 rfl (lv_at hl 1 rfl) ?_
          refine mv_get (v := .int (S21.1 15)) hX hC 65 (Nat.le_of_ble_eq_true rfl) wd_1465 rfl dX12_leaves_64 ?_
          refine mv_calli [.int 9, .int (S21.1 15)] (rest := []) hX hC (ct_then l S21 9 (S21.1 15) _ h E _) (cw_X12_then hts (by omega) (by omega)) rfl hl.1 (Nat.le_of_ble_eq_true rfl) ⟨Nat.zero_le _, Nat.zero_le _⟩ dX12_leaves_67 (fun r23 S23 H locs hC h => ?_)
          refine lv_istore_n (lv' := [(2, .int r23), (0, .ref E.2.1), (1, .int a0)]) hx hb dX12_leaves_70 rfl hl (by decide) rfl (fun ls hl => ?_)
          refine lv_aload_n hx hb dX12_leaves_71 rfl (lv_at hl 1 rfl) ?_
          refine lv_iload_n hx hb dX12_leaves_72 rfl (lv_at hl 2 rfl) ?_
          refine lv_if_eq (tgt := 83) hx hb dX12_leaves_73 (by decide) (fun c24 => ?_) (fun c24 => ?_)
          · have h := h.1 c24
            refine lv_aload_n hx hb dX12_leaves_83 rfl (lv_at hl 1 rfl) ?_
            refine mv_get (v := .ref (E.2.2.1 38)) hX hC 49 (Nat.le_of_ble_eq_true rfl) wd_1449 rfl dX12_leaves_84 ?_
            refine lv_aload_n hx hb dX12_leaves_87 rfl (lv_at hl 1 rfl) ?_
            refine mv_get (v := .int (S23.1 15)) hX hC 65 (Nat.le_of_ble_eq_true rfl) wd_1465 rfl dX12_leaves_88 ?_
            refine mv_callv [.ref (E.2.2.1 38), .int (S23.1 15)] (rest := []) hX hC (ct_marks_c l S23 (S23.1 15) _ h E _) (cw_X12_marks hts (by omega) (by omega)) rfl hl.1 (Nat.le_of_ble_eq_true rfl) ⟨Nat.zero_le _, Nat.zero_le _⟩ dX12_leaves_91 (fun S25 H locs hC h => ?_)
            refine lv_aload_n hx hb dX12_leaves_94 rfl (lv_at hl 1 rfl) ?_
            refine lv_iconst (v := -1) hx hb dX12_leaves_95 (by decide) ?_
            refine mq_put (v := -1) hX hC 69 19 (Nat.le_of_ble_eq_true rfl) wd_1469 rfl rfl rfl mz_19 dX12_leaves_96 h (fun S26 H locs hC h => ?_)
            exact hret _ _ _ _ _ hC h dX12_leaves_99
          · have h := h.2 c24
            refine lv_aload_n hx hb dX12_leaves_76 rfl (lv_at hl 1 rfl) ?_
            refine mv_get (v := .ref (E.2.2.1 37)) hX hC 48 (Nat.le_of_ble_eq_true rfl) wd_1448 rfl dX12_leaves_77 ?_
            refine lv_goto (tgt := 87) hx hb dX12_leaves_80 (by decide) ?_
            refine lv_aload_n hx hb dX12_leaves_87 rfl (lv_at hl 1 rfl) ?_
            refine mv_get (v := .int (S23.1 15)) hX hC 65 (Nat.le_of_ble_eq_true rfl) wd_1465 rfl dX12_leaves_88 ?_
            refine mv_callv [.ref (E.2.2.1 37), .int (S23.1 15)] (rest := []) hX hC (ct_marks_b l S23 (S23.1 15) _ h E _) (cw_X12_marks hts (by omega) (by omega)) rfl hl.1 (Nat.le_of_ble_eq_true rfl) ⟨Nat.zero_le _, Nat.zero_le _⟩ dX12_leaves_91 (fun S27 H locs hC h => ?_)
            refine lv_aload_n hx hb dX12_leaves_94 rfl (lv_at hl 1 rfl) ?_
            refine lv_iconst (v := -1) hx hb dX12_leaves_95 (by decide) ?_
            refine mq_put (v := -1) hX hC 69 19 (Nat.le_of_ble_eq_true rfl) wd_1469 rfl rfl rfl mz_19 dX12_leaves_96 h (fun S28 H locs hC h => ?_)
            exact hret _ _ _ _ _ hC h dX12_leaves_99
        · have h := h.2 c22
          refine lv_bipush (v := 8) hx hb dX12_leaves_56 (by decide) ?_
          refine lv_goto (tgt := 63) hx hb dX12_leaves_58 (by decide) ?_
          refine lv_aload_n hx hb dX12_leaves_63 rfl (lv_at hl 1 rfl) ?_
          refine mv_get (v := .int (S21.1 15)) hX hC 65 (Nat.le_of_ble_eq_true rfl) wd_1465 rfl dX12_leaves_64 ?_
          refine mv_calli [.int 8, .int (S21.1 15)] (rest := []) hX hC (ct_then l S21 8 (S21.1 15) _ h E _) (cw_X12_then hts (by omega) (by omega)) rfl hl.1 (Nat.le_of_ble_eq_true rfl) ⟨Nat.zero_le _, Nat.zero_le _⟩ dX12_leaves_67 (fun r29 S29 H locs hC h => ?_)
          refine lv_istore_n (lv' := [(2, .int r29), (0, .ref E.2.1), (1, .int a0)]) hx hb dX12_leaves_70 rfl hl (by decide) rfl (fun ls hl => ?_)
          refine lv_aload_n hx hb dX12_leaves_71 rfl (lv_at hl 1 rfl) ?_
          refine lv_iload_n hx hb dX12_leaves_72 rfl (lv_at hl 2 rfl) ?_
          refine lv_if_eq (tgt := 83) hx hb dX12_leaves_73 (by decide) (fun c30 => ?_) (fun c30 => ?_)
          · have h := h.1 c30
            refine lv_aload_n hx hb dX12_leaves_83 rfl (lv_at hl 1 rfl) ?_
            refine mv_get (v := .ref (E.2.2.1 38)) hX hC 49 (Nat.le_of_ble_eq_true rfl) wd_1449 rfl dX12_leaves_84 ?_
            refine lv_aload_n hx hb dX12_leaves_87 rfl (lv_at hl 1 rfl) ?_
            refine mv_get (v := .int (S29.1 15)) hX hC 65 (Nat.le_of_ble_eq_true rfl) wd_1465 rfl dX12_leaves_88 ?_
            refine mv_callv [.ref (E.2.2.1 38), .int (S29.1 15)] (rest := []) hX hC (ct_marks_c l S29 (S29.1 15) _ h E _) (cw_X12_marks hts (by omega) (by omega)) rfl hl.1 (Nat.le_of_ble_eq_true rfl) ⟨Nat.zero_le _, Nat.zero_le _⟩ dX12_leaves_91 (fun S31 H locs hC h => ?_)
            refine lv_aload_n hx hb dX12_leaves_94 rfl (lv_at hl 1 rfl) ?_
            refine lv_iconst (v := -1) hx hb dX12_leaves_95 (by decide) ?_
            refine mq_put (v := -1) hX hC 69 19 (Nat.le_of_ble_eq_true rfl) wd_1469 rfl rfl rfl mz_19 dX12_leaves_96 h (fun S32 H locs hC h => ?_)
            exact hret _ _ _ _ _ hC h dX12_leaves_99
          · have h := h.2 c30
            refine lv_aload_n hx hb dX12_leaves_76 rfl (lv_at hl 1 rfl) ?_
            refine mv_get (v := .ref (E.2.2.1 37)) hX hC 48 (Nat.le_of_ble_eq_true rfl) wd_1448 rfl dX12_leaves_77 ?_
            refine lv_goto (tgt := 87) hx hb dX12_leaves_80 (by decide) ?_
            refine lv_aload_n hx hb dX12_leaves_87 rfl (lv_at hl 1 rfl) ?_
            refine mv_get (v := .int (S29.1 15)) hX hC 65 (Nat.le_of_ble_eq_true rfl) wd_1465 rfl dX12_leaves_88 ?_
            refine mv_callv [.ref (E.2.2.1 37), .int (S29.1 15)] (rest := []) hX hC (ct_marks_b l S29 (S29.1 15) _ h E _) (cw_X12_marks hts (by omega) (by omega)) rfl hl.1 (Nat.le_of_ble_eq_true rfl) ⟨Nat.zero_le _, Nat.zero_le _⟩ dX12_leaves_91 (fun S33 H locs hC h => ?_)
            refine lv_aload_n hx hb dX12_leaves_94 rfl (lv_at hl 1 rfl) ?_
            refine lv_iconst (v := -1) hx hb dX12_leaves_95 (by decide) ?_
            refine mq_put (v := -1) hX hC 69 19 (Nat.le_of_ble_eq_true rfl) wd_1469 rfl rfl rfl mz_19 dX12_leaves_96 h (fun S34 H locs hC h => ?_)
            exact hret _ _ _ _ _ hC h dX12_leaves_99
    · have h := h.2 c3
      refine lv_aload_n hx hb dX12_leaves_14 rfl (lv_at hl 0 rfl) ?_
      refine lv_iconst (v := 1) hx hb dX12_leaves_15 (by decide) ?_
      refine mv_callv [.int 1] (rest := []) hX hC (ct_wrong l S 1 _ h E _) (cw_X12_wrong hts (by omega) (by omega)) rfl hl.1 (Nat.le_of_ble_eq_true rfl) ⟨Nat.zero_le _, Nat.zero_le _⟩ dX12_leaves_16 (fun S35 H locs hC h => ?_)
      exact hret _ _ _ _ _ hC h dX12_leaves_19
def wp_child_77 (K : mS → Prop) (x1 : Int32) (x2 : Int32) (S : mS) : Prop := wp_takeSign 41 S (fun (S15 : mS) => wp_emit 27 0 x2 S15 (fun (S16 : mS) (r16 : Int32) => ((¬ (S16.1 4) = 0 → K S16) ∧ ((S16.1 4) = 0 → inR (S16.1 11) 1000 ∧ ∀ S18 : mS, S18 = sF S16 46 (ix (S16.1 11)) x1 → inR (S18.1 11) 1000 ∧ ∀ S19 : mS, S19 = sF S18 47 (ix (S18.1 11)) x2 → inR (S19.1 11) 1000 ∧ ∀ S20 : mS, S20 = sF S19 48 (ix (S19.1 11)) r16 → ∀ z21 : Int32, z21 = (S20.1 11) + 1 → ∀ S22 : mS, S22 = sZ S20 11 z21 → K S22))))
def wp_child_58 (K : mS → Prop) (k58 : Int32 × Int32 × mS → Prop) (x1 : Int32) (x2 : Int32) (S : mS) : Prop := wp_hasSign 44 S (fun (S11 : mS) (r11 : Int32) => ((r11 = 0 → wp_child_77 K x1 x2 S11) ∧ (¬ r11 = 0 → wq_expression S11 (fun (S13 : mS) => ∀ z14 : Int32, z14 = x2 + 1 → k58 (x1, z14, S13)))))
def ls_child_58 (K : mS → Prop) (k58 : Int32 × Int32 × mS → Prop) (u : Int32 × Int32 × mS) : Prop := wp_child_58 K k58 u.1 u.2.1 u.2.2
def wp_child_19 (K : mS → Prop) (S : mS) : Prop := ∀ z5 : Int32, z5 = (S.1 3) + 1 → ∀ S6 : mS, S6 = sZ S 3 z5 → wp_takeSign 40 S6 (fun (S7 : mS) => wp_isSign 41 S7 (fun (S8 : mS) (r8 : Int32) => ((¬ r8 = 0 → wp_child_77 K (S.1 3) 0 S8) ∧ (r8 = 0 → wq_expression S8 (fun (S10 : mS) => (∃ n9, it (ls_child_58 K) n9 (S.1 3, 1, S10)))))))
def wp_child (S : mS) (K : mS → Prop) : Prop := ((¬ (S.1 4) = 0 → wp_child_19 K S) ∧ ((S.1 4) = 0 → wp_isName S (fun (S2 : mS) (r2 : Int32) => ((¬ r2 = 0 → wp_child_19 K S2) ∧ (r2 = 0 → wp_wrong 1 S2 (fun (S4 : mS) => wp_child_19 K S4))))))
set_option maxHeartbeats 4000000 in
set_option maxRecDepth 100000 in
theorem ct_child (l : Launch) (S : mS) (K : mS → Prop) (h : wp_child S K) : mMv l yX12_child cX12_child 4 none 70 1515 (fun E => []) S K := by
  refine mv_ofv (by decide) rfl (fun _ => Nat.le_of_ble_eq_true rfl) ?_
  intro E p e R s m args below meth c A ls Q hRf hRl hX hC hl hret
  have hx := hX.1.1
  have hb := hX.1.2.1
  have hown := hX.1.2.2.2.1
  have hts := hX.1.2.2.2.2
  have cut77 : ∀ (x1 : Int32) (x2 : Int32) (S : mS) (H : Heap) (locs : List Loc) (ls : Array Slot), wp_child_77 K x1 x2 S → mC E A s.heap S H locs → lv_has ls 4 [(0, .ref E.2.1), (1, .int x1), (2, .int x2)] → W p l e R s m args below meth c H locs 0 0 Q (F0 m 77 ls []) := by
    intro x1 x2 S H locs ls h hC hl
    unfold wp_child_77 at h
    refine lv_aload_n hx hb dX12_child_77 rfl (lv_at hl 0 rfl) ?_
    refine lv_bipush (v := 41) hx hb dX12_child_78 (by decide) ?_
    refine mv_callv [.int 41] (rest := []) hX hC (ct_takeSign l S 41 _ h E _) (cw_X12_takeSign hts (by omega) (by omega)) rfl hl.1 (Nat.le_of_ble_eq_true rfl) ⟨Nat.zero_le _, Nat.zero_le _⟩ dX12_child_80 (fun S15 H locs hC h => ?_)
    refine lv_aload_n hx hb dX12_child_83 rfl (lv_at hl 0 rfl) ?_
    refine lv_bipush (v := 27) hx hb dX12_child_84 (by decide) ?_
    refine lv_iconst (v := 0) hx hb dX12_child_86 (by decide) ?_
    refine lv_iload_n hx hb dX12_child_87 rfl (lv_at hl 2 rfl) ?_
    refine mv_calli [.int 27, .int 0, .int x2] (rest := []) hX hC (ct_emit l S15 27 0 x2 _ h E _) (cw_X12_emit hts (by omega) (by omega)) rfl hl.1 (Nat.le_of_ble_eq_true rfl) ⟨Nat.zero_le _, Nat.zero_le _⟩ dX12_child_88 (fun r16 S16 H locs hC h => ?_)
    refine lv_istore_n (lv' := [(3, .int r16), (0, .ref E.2.1), (1, .int x1), (2, .int x2)]) hx hb dX12_child_91 rfl hl (by decide) rfl (fun ls hl => ?_)
    refine lv_aload_n hx hb dX12_child_92 rfl (lv_at hl 1 rfl) ?_
    refine mv_get (v := .int (S16.1 4)) hX hC 8 (Nat.le_of_ble_eq_true rfl) wd_1408 rfl dX12_child_93 ?_
    refine lv_if_ne (tgt := 139) hx hb dX12_child_96 (by decide) (fun c17 => ?_) (fun c17 => ?_)
    · have h := h.1 c17
      exact hret _ _ _ _ _ hC h dX12_child_139
    · have h := h.2 c17
      refine lv_aload_n hx hb dX12_child_99 rfl (lv_at hl 1 rfl) ?_
      refine mv_get (v := .ref (E.2.2.1 46)) hX hC 58 (Nat.le_of_ble_eq_true rfl) wd_1458 rfl dX12_child_100 ?_
      refine lv_aload_n hx hb dX12_child_103 rfl (lv_at hl 1 rfl) ?_
      refine mv_get (v := .int (S16.1 11)) hX hC 61 (Nat.le_of_ble_eq_true rfl) wd_1461 rfl dX12_child_104 ?_
      refine lv_iload_n hx hb dX12_child_107 rfl (lv_at hl 2 rfl) ?_
      refine mq_ist (n := 1000) (v := x1) hX hC 46 rfl rfl mf_46 dX12_child_108 h.1 h.2 (fun S18 H locs hC h => ?_)
      refine lv_aload_n hx hb dX12_child_109 rfl (lv_at hl 1 rfl) ?_
      refine mv_get (v := .ref (E.2.2.1 47)) hX hC 59 (Nat.le_of_ble_eq_true rfl) wd_1459 rfl dX12_child_110 ?_
      refine lv_aload_n hx hb dX12_child_113 rfl (lv_at hl 1 rfl) ?_
      refine mv_get (v := .int (S18.1 11)) hX hC 61 (Nat.le_of_ble_eq_true rfl) wd_1461 rfl dX12_child_114 ?_
      refine lv_iload_n hx hb dX12_child_117 rfl (lv_at hl 3 rfl) ?_
      refine mq_ist (n := 1000) (v := x2) hX hC 47 rfl rfl mf_47 dX12_child_118 h.1 h.2 (fun S19 H locs hC h => ?_)
      refine lv_aload_n hx hb dX12_child_119 rfl (lv_at hl 1 rfl) ?_
      refine mv_get (v := .ref (E.2.2.1 48)) hX hC 60 (Nat.le_of_ble_eq_true rfl) wd_1460 rfl dX12_child_120 ?_
      refine lv_aload_n hx hb dX12_child_123 rfl (lv_at hl 1 rfl) ?_
      refine mv_get (v := .int (S19.1 11)) hX hC 61 (Nat.le_of_ble_eq_true rfl) wd_1461 rfl dX12_child_124 ?_
      refine lv_iload_n hx hb dX12_child_127 rfl (lv_at hl 0 rfl) ?_
      refine mq_ist (n := 1000) (v := r16) hX hC 48 rfl rfl mf_48 dX12_child_128 h.1 h.2 (fun S20 H locs hC h => ?_)
      refine lv_aload_n hx hb dX12_child_129 rfl (lv_at hl 1 rfl) ?_
      refine lv_dup hx hb dX12_child_130 rfl ?_
      refine mv_get (v := .int (S20.1 11)) hX hC 61 (Nat.le_of_ble_eq_true rfl) wd_1461 rfl dX12_child_131 ?_
      refine lv_iconst (v := 1) hx hb dX12_child_134 (by decide) ?_
      refine lq_iadd hx hb dX12_child_135 h (fun z21 h => ?_)
      refine mq_put (v := z21) hX hC 61 11 (Nat.le_of_ble_eq_true rfl) wd_1461 rfl rfl rfl mz_11 dX12_child_136 h (fun S22 H locs hC h => ?_)
      exact hret _ _ _ _ _ hC h dX12_child_139
  have cut58 : ∀ (n58 : Nat) (x1 : Int32) (x2 : Int32) (S : mS) (H : Heap) (locs : List Loc) (ls : Array Slot), it (ls_child_58 K) n58 (x1, x2, S) → mC E A s.heap S H locs → lv_has ls 4 [(0, .ref E.2.1), (1, .int x1), (2, .int x2)] → W p l e R s m args below meth c H locs 0 0 Q (F0 m 58 ls []) := by
    intro n58
    induction n58 with
    | zero => intro x1 x2 S H locs ls h hC hl; exact h.elim
    | succ n58 ih58 =>
      intro x1 x2 S H locs ls h hC hl
      have h : wp_child_58 K (it (ls_child_58 K) n58) x1 x2 S := h
      unfold wp_child_58 at h
      refine lv_aload_n hx hb dX12_child_58 rfl (lv_at hl 0 rfl) ?_
      refine lv_bipush (v := 44) hx hb dX12_child_59 (by decide) ?_
      refine mv_calli [.int 44] (rest := []) hX hC (ct_hasSign l S 44 _ h E _) (cw_X12_hasSign hts (by omega) (by omega)) rfl hl.1 (Nat.le_of_ble_eq_true rfl) ⟨Nat.zero_le _, Nat.zero_le _⟩ dX12_child_61 (fun r11 S11 H locs hC h => ?_)
      refine lv_if_eq (tgt := 77) hx hb dX12_child_64 (by decide) (fun c12 => ?_) (fun c12 => ?_)
      · have h := h.1 c12
        exact cut77 x1 x2 S11 _ _ _ h hC (lv_sub hl [0, 1, 2] rfl)
      · have h := h.2 c12
        refine lv_aload_n hx hb dX12_child_67 rfl (lv_at hl 0 rfl) ?_
        refine mv_callv [] (rest := []) hX hC (ct_expression l S11 _ h E _) (cw_X12_expression hts (by omega) (by omega)) rfl hl.1 (Nat.le_of_ble_eq_true rfl) ⟨Nat.zero_le _, Nat.zero_le _⟩ dX12_child_68 (fun S13 H locs hC h => ?_)
        obtain ⟨z14, ez14⟩ : ∃ y : Int32, y = x2 + 1 := ⟨_, rfl⟩
        have h := h z14 ez14
        refine lv_iinc (v := z14) (lv' := [(2, .int z14), (0, .ref E.2.1), (1, .int x1)]) hx hb dX12_child_71 hl (k := 2) rfl (by rw [ez14]; rfl) (by decide) rfl (fun ls hl => ?_)
        refine lv_goto (tgt := 58) hx hb dX12_child_74 (by decide) ?_
        exact ih58 x1 z14 S13 _ _ _ h hC (lv_sub hl [1, 2, 0] rfl)
  have cut19 : ∀ (S : mS) (H : Heap) (locs : List Loc) (ls : Array Slot), wp_child_19 K S → mC E A s.heap S H locs → lv_has ls 4 [(0, .ref E.2.1)] → W p l e R s m args below meth c H locs 0 0 Q (F0 m 19 ls []) := by
    intro S H locs ls h hC hl
    unfold wp_child_19 at h
    refine lv_aload_n hx hb dX12_child_19 rfl (lv_at hl 0 rfl) ?_
    refine mv_get (v := .int (S.1 3)) hX hC 7 (Nat.le_of_ble_eq_true rfl) wd_1407 rfl dX12_child_20 ?_
    refine lv_istore_n (lv' := [(1, .int (S.1 3)), (0, .ref E.2.1)]) hx hb dX12_child_23 rfl hl (by decide) rfl (fun ls hl => ?_)
    refine lv_aload_n hx hb dX12_child_24 rfl (lv_at hl 1 rfl) ?_
    refine lv_dup hx hb dX12_child_25 rfl ?_
    refine mv_get (v := .int (S.1 3)) hX hC 7 (Nat.le_of_ble_eq_true rfl) wd_1407 rfl dX12_child_26 ?_
    refine lv_iconst (v := 1) hx hb dX12_child_29 (by decide) ?_
    refine lq_iadd hx hb dX12_child_30 h (fun z5 h => ?_)
    refine mq_put (v := z5) hX hC 7 3 (Nat.le_of_ble_eq_true rfl) wd_1407 rfl rfl rfl mz_3 dX12_child_31 h (fun S6 H locs hC h => ?_)
    refine lv_aload_n hx hb dX12_child_34 rfl (lv_at hl 1 rfl) ?_
    refine lv_bipush (v := 40) hx hb dX12_child_35 (by decide) ?_
    refine mv_callv [.int 40] (rest := []) hX hC (ct_takeSign l S6 40 _ h E _) (cw_X12_takeSign hts (by omega) (by omega)) rfl hl.1 (Nat.le_of_ble_eq_true rfl) ⟨Nat.zero_le _, Nat.zero_le _⟩ dX12_child_37 (fun S7 H locs hC h => ?_)
    refine lv_iconst (v := 0) hx hb dX12_child_40 (by decide) ?_
    refine lv_istore_n (lv' := [(2, .int 0), (1, .int (S.1 3)), (0, .ref E.2.1)]) hx hb dX12_child_41 rfl hl (by decide) rfl (fun ls hl => ?_)
    refine lv_aload_n hx hb dX12_child_42 rfl (lv_at hl 2 rfl) ?_
    refine lv_bipush (v := 41) hx hb dX12_child_43 (by decide) ?_
    refine mv_calli [.int 41] (rest := []) hX hC (ct_isSign l S7 41 _ h E _) (cw_X12_isSign hts (by omega) (by omega)) rfl hl.1 (Nat.le_of_ble_eq_true rfl) ⟨Nat.zero_le _, Nat.zero_le _⟩ dX12_child_45 (fun r8 S8 H locs hC h => ?_)
    refine lv_if_ne (tgt := 77) hx hb dX12_child_48 (by decide) (fun c9 => ?_) (fun c9 => ?_)
    · have h := h.1 c9
      exact cut77 (S.1 3) 0 S8 _ _ _ h hC (lv_sub hl [2, 1, 0] rfl)
    · have h := h.2 c9
      refine lv_aload_n hx hb dX12_child_51 rfl (lv_at hl 2 rfl) ?_
      refine mv_callv [] (rest := []) hX hC (ct_expression l S8 _ h E _) (cw_X12_expression hts (by omega) (by omega)) rfl hl.1 (Nat.le_of_ble_eq_true rfl) ⟨Nat.zero_le _, Nat.zero_le _⟩ dX12_child_52 (fun S10 H locs hC h => ?_)
      refine lv_iinc (v := 1) (lv' := [(2, .int 1), (1, .int (S.1 3)), (0, .ref E.2.1)]) hx hb dX12_child_55 hl (k := 0) rfl (by decide) (by decide) rfl (fun ls hl => ?_)
      obtain ⟨n9, h⟩ := h
      exact cut58 n9 (S.1 3) 1 S10 _ _ _ h hC (lv_sub hl [2, 1, 0] rfl)
  have hl : lv_has ls 4 [(0, .ref E.2.1)] := hl
  unfold wp_child at h
  refine lv_aload_n hx hb dX12_child_0 rfl (lv_at hl 0 rfl) ?_
  refine mv_get (v := .int (S.1 4)) hX hC 8 (Nat.le_of_ble_eq_true rfl) wd_1408 rfl dX12_child_1 ?_
  refine lv_if_ne (tgt := 19) hx hb dX12_child_4 (by decide) (fun c1 => ?_) (fun c1 => ?_)
  · have h := h.1 c1
    exact cut19 S _ _ _ h hC (lv_sub hl [0] rfl)
  · have h := h.2 c1
    refine lv_aload_n hx hb dX12_child_7 rfl (lv_at hl 0 rfl) ?_
    refine mv_calli [] (rest := []) hX hC (ct_isName l S _ h E _) (cw_X12_isName hts (by omega) (by omega)) rfl hl.1 (Nat.le_of_ble_eq_true rfl) ⟨Nat.zero_le _, Nat.zero_le _⟩ dX12_child_8 (fun r2 S2 H locs hC h => ?_)
    refine lv_if_ne (tgt := 19) hx hb dX12_child_11 (by decide) (fun c3 => ?_) (fun c3 => ?_)
    · have h := h.1 c3
      exact cut19 S2 _ _ _ h hC (lv_sub hl [0] rfl)
    · have h := h.2 c3
      refine lv_aload_n hx hb dX12_child_14 rfl (lv_at hl 0 rfl) ?_
      refine lv_iconst (v := 1) hx hb dX12_child_15 (by decide) ?_
      refine mv_callv [.int 1] (rest := []) hX hC (ct_wrong l S2 1 _ h E _) (cw_X12_wrong hts (by omega) (by omega)) rfl hl.1 (Nat.le_of_ble_eq_true rfl) ⟨Nat.zero_le _, Nat.zero_le _⟩ dX12_child_16 (fun S4 H locs hC h => ?_)
      exact cut19 S4 _ _ _ h hC (lv_sub hl [0] rfl)
def wp_isWait (S : mS) (K : mS → Int32 → Prop) : Prop := wp_isWord 13 S (fun (S1 : mS) (r1 : Int32) => ((¬ r1 = 0 → K S1 1) ∧ (r1 = 0 → wp_isWord 14 S1 (fun (S3 : mS) (r3 : Int32) => ((¬ r3 = 0 → K S3 1) ∧ (r3 = 0 → wp_isWord 15 S3 (fun (S5 : mS) (r5 : Int32) => ((¬ r5 = 0 → K S5 1) ∧ (r5 = 0 → wp_isWord 16 S5 (fun (S7 : mS) (r7 : Int32) => ((¬ r7 = 0 → K S7 1) ∧ (r7 = 0 → wp_isWord 17 S7 (fun (S9 : mS) (r9 : Int32) => ((¬ r9 = 0 → K S9 1) ∧ (r9 = 0 → wp_isWord 18 S9 (fun (S11 : mS) (r11 : Int32) => ((¬ r11 = 0 → K S11 1) ∧ (r11 = 0 → wp_isWord 19 S11 (fun (S13 : mS) (r13 : Int32) => ((r13 = 0 → K S13 0) ∧ (¬ r13 = 0 → K S13 1)))))))))))))))))))))
set_option maxHeartbeats 4000000 in
set_option maxRecDepth 100000 in
theorem ct_isWait (l : Launch) (S : mS) (K : mS → Int32 → Prop) (h : wp_isWait S K) : mMi l yX12_isWait cX12_isWait 1 (some .boolean) 1 21 (fun E => []) S K := by
  refine mv_ofz (by decide) rfl (fun _ => Nat.le_of_ble_eq_true rfl) ?_
  intro E p e R s m args below meth c A ls Q hRf hRl hX hC hl hret
  have hx := hX.1.1
  have hb := hX.1.2.1
  have hown := hX.1.2.2.2.1
  have hts := hX.1.2.2.2.2
  have hl : lv_has ls 1 [(0, .ref E.2.1)] := hl
  unfold wp_isWait at h
  refine lv_aload_n hx hb dX12_isWait_0 rfl (lv_at hl 0 rfl) ?_
  refine lv_bipush (v := 13) hx hb dX12_isWait_1 (by decide) ?_
  refine mv_calli [.int 13] (rest := []) hX hC (ct_isWord l S 13 _ h E _) (cw_X12_isWord hts (by omega) (by omega)) rfl hl.1 (Nat.le_of_ble_eq_true rfl) ⟨Nat.zero_le _, Nat.zero_le _⟩ dX12_isWait_3 (fun r1 S1 H locs hC h => ?_)
  refine lv_if_ne (tgt := 63) hx hb dX12_isWait_6 (by decide) (fun c2 => ?_) (fun c2 => ?_)
  · have h := h.1 c2
    refine lv_iconst (v := 1) hx hb dX12_isWait_63 (by decide) ?_
    refine lv_goto (tgt := 68) hx hb dX12_isWait_64 (by decide) ?_
    exact hret _ _ _ _ _ _ hC (Or.inr rfl) h dX12_isWait_68
  · have h := h.2 c2
    refine lv_aload_n hx hb dX12_isWait_9 rfl (lv_at hl 0 rfl) ?_
    refine lv_bipush (v := 14) hx hb dX12_isWait_10 (by decide) ?_
    refine mv_calli [.int 14] (rest := []) hX hC (ct_isWord l S1 14 _ h E _) (cw_X12_isWord hts (by omega) (by omega)) rfl hl.1 (Nat.le_of_ble_eq_true rfl) ⟨Nat.zero_le _, Nat.zero_le _⟩ dX12_isWait_12 (fun r3 S3 H locs hC h => ?_)
    refine lv_if_ne (tgt := 63) hx hb dX12_isWait_15 (by decide) (fun c4 => ?_) (fun c4 => ?_)
    · have h := h.1 c4
      refine lv_iconst (v := 1) hx hb dX12_isWait_63 (by decide) ?_
      refine lv_goto (tgt := 68) hx hb dX12_isWait_64 (by decide) ?_
      exact hret _ _ _ _ _ _ hC (Or.inr rfl) h dX12_isWait_68
    · have h := h.2 c4
      refine lv_aload_n hx hb dX12_isWait_18 rfl (lv_at hl 0 rfl) ?_
      refine lv_bipush (v := 15) hx hb dX12_isWait_19 (by decide) ?_
      refine mv_calli [.int 15] (rest := []) hX hC (ct_isWord l S3 15 _ h E _) (cw_X12_isWord hts (by omega) (by omega)) rfl hl.1 (Nat.le_of_ble_eq_true rfl) ⟨Nat.zero_le _, Nat.zero_le _⟩ dX12_isWait_21 (fun r5 S5 H locs hC h => ?_)
      refine lv_if_ne (tgt := 63) hx hb dX12_isWait_24 (by decide) (fun c6 => ?_) (fun c6 => ?_)
      · have h := h.1 c6
        refine lv_iconst (v := 1) hx hb dX12_isWait_63 (by decide) ?_
        refine lv_goto (tgt := 68) hx hb dX12_isWait_64 (by decide) ?_
        exact hret _ _ _ _ _ _ hC (Or.inr rfl) h dX12_isWait_68
      · have h := h.2 c6
        refine lv_aload_n hx hb dX12_isWait_27 rfl (lv_at hl 0 rfl) ?_
        refine lv_bipush (v := 16) hx hb dX12_isWait_28 (by decide) ?_
        refine mv_calli [.int 16] (rest := []) hX hC (ct_isWord l S5 16 _ h E _) (cw_X12_isWord hts (by omega) (by omega)) rfl hl.1 (Nat.le_of_ble_eq_true rfl) ⟨Nat.zero_le _, Nat.zero_le _⟩ dX12_isWait_30 (fun r7 S7 H locs hC h => ?_)
        refine lv_if_ne (tgt := 63) hx hb dX12_isWait_33 (by decide) (fun c8 => ?_) (fun c8 => ?_)
        · have h := h.1 c8
          refine lv_iconst (v := 1) hx hb dX12_isWait_63 (by decide) ?_
          refine lv_goto (tgt := 68) hx hb dX12_isWait_64 (by decide) ?_
          exact hret _ _ _ _ _ _ hC (Or.inr rfl) h dX12_isWait_68
        · have h := h.2 c8
          refine lv_aload_n hx hb dX12_isWait_36 rfl (lv_at hl 0 rfl) ?_
          refine lv_bipush (v := 17) hx hb dX12_isWait_37 (by decide) ?_
          refine mv_calli [.int 17] (rest := []) hX hC (ct_isWord l S7 17 _ h E _) (cw_X12_isWord hts (by omega) (by omega)) rfl hl.1 (Nat.le_of_ble_eq_true rfl) ⟨Nat.zero_le _, Nat.zero_le _⟩ dX12_isWait_39 (fun r9 S9 H locs hC h => ?_)
          refine lv_if_ne (tgt := 63) hx hb dX12_isWait_42 (by decide) (fun c10 => ?_) (fun c10 => ?_)
          · have h := h.1 c10
            refine lv_iconst (v := 1) hx hb dX12_isWait_63 (by decide) ?_
            refine lv_goto (tgt := 68) hx hb dX12_isWait_64 (by decide) ?_
            exact hret _ _ _ _ _ _ hC (Or.inr rfl) h dX12_isWait_68
          · have h := h.2 c10
            refine lv_aload_n hx hb dX12_isWait_45 rfl (lv_at hl 0 rfl) ?_
            refine lv_bipush (v := 18) hx hb dX12_isWait_46 (by decide) ?_
            refine mv_calli [.int 18] (rest := []) hX hC (ct_isWord l S9 18 _ h E _) (cw_X12_isWord hts (by omega) (by omega)) rfl hl.1 (Nat.le_of_ble_eq_true rfl) ⟨Nat.zero_le _, Nat.zero_le _⟩ dX12_isWait_48 (fun r11 S11 H locs hC h => ?_)
            refine lv_if_ne (tgt := 63) hx hb dX12_isWait_51 (by decide) (fun c12 => ?_) (fun c12 => ?_)
            · have h := h.1 c12
              refine lv_iconst (v := 1) hx hb dX12_isWait_63 (by decide) ?_
              refine lv_goto (tgt := 68) hx hb dX12_isWait_64 (by decide) ?_
              exact hret _ _ _ _ _ _ hC (Or.inr rfl) h dX12_isWait_68
            · have h := h.2 c12
              refine lv_aload_n hx hb dX12_isWait_54 rfl (lv_at hl 0 rfl) ?_
              refine lv_bipush (v := 19) hx hb dX12_isWait_55 (by decide) ?_
              refine mv_calli [.int 19] (rest := []) hX hC (ct_isWord l S11 19 _ h E _) (cw_X12_isWord hts (by omega) (by omega)) rfl hl.1 (Nat.le_of_ble_eq_true rfl) ⟨Nat.zero_le _, Nat.zero_le _⟩ dX12_isWait_57 (fun r13 S13 H locs hC h => ?_)
              refine lv_if_eq (tgt := 67) hx hb dX12_isWait_60 (by decide) (fun c14 => ?_) (fun c14 => ?_)
              · have h := h.1 c14
                refine lv_iconst (v := 0) hx hb dX12_isWait_67 (by decide) ?_
                exact hret _ _ _ _ _ _ hC (Or.inl rfl) h dX12_isWait_68
              · have h := h.2 c14
                refine lv_iconst (v := 1) hx hb dX12_isWait_63 (by decide) ?_
                refine lv_goto (tgt := 68) hx hb dX12_isWait_64 (by decide) ?_
                exact hret _ _ _ _ _ _ hC (Or.inr rfl) h dX12_isWait_68
def wp_takeNumber_70 (K : mS → Int32 → Prop) (S : mS) : Prop := ∀ z5 : Int32, z5 = (S.1 3) + 1 → ∀ S6 : mS, S6 = sZ S 3 z5 → (((S6.1 4) ≤ 0 → ∀ z8 : Int32, z8 = (S6.1 3) - 1 → inR z8 4002 ∧ ∀ z9 : Int64, z9 = S6.2.2 3 (ix z8) → ∀ z10 : Int32, z10 = Int64.toInt32 z9 → K S6 z10) ∧ (¬ (S6.1 4) ≤ 0 → K S6 0))
def wp_takeNumber_65 (K : mS → Int32 → Prop) (S : mS) : Prop := wp_wrong 4 S (fun (S20 : mS) => wp_takeNumber_70 K S20)
def wp_takeNumber_28 (K : mS → Int32 → Prop) (x1 : Int32) (x2 : Int32) (S : mS) : Prop := ((¬ (S.1 4) = 0 → wp_takeNumber_70 K S) ∧ ((S.1 4) = 0 → inR (S.1 3) 4002 ∧ ∀ z12 : Int64, z12 = S.2.2 3 (ix (S.1 3)) → ∀ z13 : Int64, z13 = Int32.toInt64 x1 → ∀ z14 : Int32, z14 = lg_cmp z12 z13 → ((z14 < 0 → wp_takeNumber_65 K S) ∧ (¬ z14 < 0 → inR (S.1 3) 4002 ∧ ∀ z16 : Int64, z16 = S.2.2 3 (ix (S.1 3)) → ∀ z17 : Int64, z17 = Int32.toInt64 x2 → ∀ z18 : Int32, z18 = lg_cmp z16 z17 → ((z18 ≤ 0 → wp_takeNumber_70 K S) ∧ (¬ z18 ≤ 0 → wp_takeNumber_65 K S))))))
def wp_takeNumber (a0 : Int32) (a1 : Int32) (S : mS) (K : mS → Int32 → Prop) : Prop := ((¬ (S.1 4) = 0 → wp_takeNumber_28 K a0 a1 S) ∧ ((S.1 4) = 0 → inR (S.1 3) 4002 ∧ ∀ z2 : Int32, z2 = S.2.1 1 (ix (S.1 3)) → ((z2 = 2 → wp_takeNumber_28 K a0 a1 S) ∧ (¬ z2 = 2 → wp_wrong 1 S (fun (S4 : mS) => wp_takeNumber_70 K S4)))))
set_option maxHeartbeats 4000000 in
set_option maxRecDepth 100000 in
theorem ct_takeNumber (l : Launch) (S : mS) (a0 : Int32) (a1 : Int32) (K : mS → Int32 → Prop) (h : wp_takeNumber a0 a1 S K) : mMi l yX12_takeNumber cX12_takeNumber 3 (some .int) 1 21 (fun E => [.int a0, .int a1]) S K := by
  refine mv_ofi (by decide) rfl (fun _ => Nat.le_of_ble_eq_true rfl) ?_
  intro E p e R s m args below meth c A ls Q hRf hRl hX hC hl hret
  have hx := hX.1.1
  have hb := hX.1.2.1
  have hown := hX.1.2.2.2.1
  have hts := hX.1.2.2.2.2
  have cut70 : ∀ (S : mS) (H : Heap) (locs : List Loc) (ls : Array Slot), wp_takeNumber_70 K S → mC E A s.heap S H locs → lv_has ls 3 [(0, .ref E.2.1)] → W p l e R s m args below meth c H locs 0 0 Q (F0 m 70 ls []) := by
    intro S H locs ls h hC hl
    unfold wp_takeNumber_70 at h
    refine lv_aload_n hx hb dX12_takeNumber_70 rfl (lv_at hl 0 rfl) ?_
    refine lv_dup hx hb dX12_takeNumber_71 rfl ?_
    refine mv_get (v := .int (S.1 3)) hX hC 7 (Nat.le_of_ble_eq_true rfl) wd_1407 rfl dX12_takeNumber_72 ?_
    refine lv_iconst (v := 1) hx hb dX12_takeNumber_75 (by decide) ?_
    refine lq_iadd hx hb dX12_takeNumber_76 h (fun z5 h => ?_)
    refine mq_put (v := z5) hX hC 7 3 (Nat.le_of_ble_eq_true rfl) wd_1407 rfl rfl rfl mz_3 dX12_takeNumber_77 h (fun S6 H locs hC h => ?_)
    refine lv_aload_n hx hb dX12_takeNumber_80 rfl (lv_at hl 0 rfl) ?_
    refine mv_get (v := .int (S6.1 4)) hX hC 8 (Nat.le_of_ble_eq_true rfl) wd_1408 rfl dX12_takeNumber_81 ?_
    refine lv_if_le (tgt := 91) hx hb dX12_takeNumber_84 (by decide) (fun c7 => ?_) (fun c7 => ?_)
    · have h := h.1 c7
      refine lv_aload_n hx hb dX12_takeNumber_91 rfl (lv_at hl 0 rfl) ?_
      refine mv_get (v := .ref (E.2.2.1 3)) hX hC 6 (Nat.le_of_ble_eq_true rfl) wd_1406 rfl dX12_takeNumber_92 ?_
      refine lv_aload_n hx hb dX12_takeNumber_95 rfl (lv_at hl 0 rfl) ?_
      refine mv_get (v := .int (S6.1 3)) hX hC 7 (Nat.le_of_ble_eq_true rfl) wd_1407 rfl dX12_takeNumber_96 ?_
      refine lv_iconst (v := 1) hx hb dX12_takeNumber_99 (by decide) ?_
      refine lq_isub hx hb dX12_takeNumber_100 h (fun z8 h => ?_)
      refine mq_lld (n := 4002) hX hC 3 rfl rfl dX12_takeNumber_101 h (fun z9 h => ?_)
      refine lq_l2i hx hb dX12_takeNumber_102 h (fun z10 h => ?_)
      exact hret _ _ _ _ _ _ hC h dX12_takeNumber_103
    · have h := h.2 c7
      refine lv_iconst (v := 0) hx hb dX12_takeNumber_87 (by decide) ?_
      refine lv_goto (tgt := 103) hx hb dX12_takeNumber_88 (by decide) ?_
      exact hret _ _ _ _ _ _ hC h dX12_takeNumber_103
  have cut65 : ∀ (S : mS) (H : Heap) (locs : List Loc) (ls : Array Slot), wp_takeNumber_65 K S → mC E A s.heap S H locs → lv_has ls 3 [(0, .ref E.2.1)] → W p l e R s m args below meth c H locs 0 0 Q (F0 m 65 ls []) := by
    intro S H locs ls h hC hl
    unfold wp_takeNumber_65 at h
    refine lv_aload_n hx hb dX12_takeNumber_65 rfl (lv_at hl 0 rfl) ?_
    refine lv_iconst (v := 4) hx hb dX12_takeNumber_66 (by decide) ?_
    refine mv_callv [.int 4] (rest := []) hX hC (ct_wrong l S 4 _ h E _) (cw_X12_wrong hts (by omega) (by omega)) rfl hl.1 (Nat.le_of_ble_eq_true rfl) ⟨Nat.zero_le _, Nat.zero_le _⟩ dX12_takeNumber_67 (fun S20 H locs hC h => ?_)
    exact cut70 S20 _ _ _ h hC (lv_sub hl [0] rfl)
  have cut28 : ∀ (x1 : Int32) (x2 : Int32) (S : mS) (H : Heap) (locs : List Loc) (ls : Array Slot), wp_takeNumber_28 K x1 x2 S → mC E A s.heap S H locs → lv_has ls 3 [(0, .ref E.2.1), (1, .int x1), (2, .int x2)] → W p l e R s m args below meth c H locs 0 0 Q (F0 m 28 ls []) := by
    intro x1 x2 S H locs ls h hC hl
    unfold wp_takeNumber_28 at h
    refine lv_aload_n hx hb dX12_takeNumber_28 rfl (lv_at hl 0 rfl) ?_
    refine mv_get (v := .int (S.1 4)) hX hC 8 (Nat.le_of_ble_eq_true rfl) wd_1408 rfl dX12_takeNumber_29 ?_
    refine lv_if_ne (tgt := 70) hx hb dX12_takeNumber_32 (by decide) (fun c11 => ?_) (fun c11 => ?_)
    · have h := h.1 c11
      exact cut70 S _ _ _ h hC (lv_sub hl [0] rfl)
    · have h := h.2 c11
      refine lv_aload_n hx hb dX12_takeNumber_35 rfl (lv_at hl 0 rfl) ?_
      refine mv_get (v := .ref (E.2.2.1 3)) hX hC 6 (Nat.le_of_ble_eq_true rfl) wd_1406 rfl dX12_takeNumber_36 ?_
      refine lv_aload_n hx hb dX12_takeNumber_39 rfl (lv_at hl 0 rfl) ?_
      refine mv_get (v := .int (S.1 3)) hX hC 7 (Nat.le_of_ble_eq_true rfl) wd_1407 rfl dX12_takeNumber_40 ?_
      refine mq_lld (n := 4002) hX hC 3 rfl rfl dX12_takeNumber_43 h (fun z12 h => ?_)
      refine lv_iload_n hx hb dX12_takeNumber_44 rfl (lv_at hl 1 rfl) ?_
      refine lq_i2l hx hb dX12_takeNumber_45 h (fun z13 h => ?_)
      refine lq_lcmp hx hb dX12_takeNumber_46 h (fun z14 h => ?_)
      refine lv_if_lt (tgt := 65) hx hb dX12_takeNumber_47 (by decide) (fun c15 => ?_) (fun c15 => ?_)
      · have h := h.1 c15
        exact cut65 S _ _ _ h hC (lv_sub hl [0] rfl)
      · have h := h.2 c15
        refine lv_aload_n hx hb dX12_takeNumber_50 rfl (lv_at hl 0 rfl) ?_
        refine mv_get (v := .ref (E.2.2.1 3)) hX hC 6 (Nat.le_of_ble_eq_true rfl) wd_1406 rfl dX12_takeNumber_51 ?_
        refine lv_aload_n hx hb dX12_takeNumber_54 rfl (lv_at hl 0 rfl) ?_
        refine mv_get (v := .int (S.1 3)) hX hC 7 (Nat.le_of_ble_eq_true rfl) wd_1407 rfl dX12_takeNumber_55 ?_
        refine mq_lld (n := 4002) hX hC 3 rfl rfl dX12_takeNumber_58 h (fun z16 h => ?_)
        refine lv_iload_n hx hb dX12_takeNumber_59 rfl (lv_at hl 2 rfl) ?_
        refine lq_i2l hx hb dX12_takeNumber_60 h (fun z17 h => ?_)
        refine lq_lcmp hx hb dX12_takeNumber_61 h (fun z18 h => ?_)
        refine lv_if_le (tgt := 70) hx hb dX12_takeNumber_62 (by decide) (fun c19 => ?_) (fun c19 => ?_)
        · have h := h.1 c19
          exact cut70 S _ _ _ h hC (lv_sub hl [0] rfl)
        · have h := h.2 c19
          exact cut65 S _ _ _ h hC (lv_sub hl [0] rfl)
  have hl : lv_has ls 3 [(0, .ref E.2.1), (1, .int a0), (2, .int a1)] := hl
  unfold wp_takeNumber at h
  refine lv_aload_n hx hb dX12_takeNumber_0 rfl (lv_at hl 0 rfl) ?_
  refine mv_get (v := .int (S.1 4)) hX hC 8 (Nat.le_of_ble_eq_true rfl) wd_1408 rfl dX12_takeNumber_1 ?_
  refine lv_if_ne (tgt := 28) hx hb dX12_takeNumber_4 (by decide) (fun c1 => ?_) (fun c1 => ?_)
  · have h := h.1 c1
    exact cut28 a0 a1 S _ _ _ h hC (lv_sub hl [0, 1, 2] rfl)
  · have h := h.2 c1
    refine lv_aload_n hx hb dX12_takeNumber_7 rfl (lv_at hl 0 rfl) ?_
    refine mv_get (v := .ref (E.2.2.1 1)) hX hC 4 (Nat.le_of_ble_eq_true rfl) wd_1404 rfl dX12_takeNumber_8 ?_
    refine lv_aload_n hx hb dX12_takeNumber_11 rfl (lv_at hl 0 rfl) ?_
    refine mv_get (v := .int (S.1 3)) hX hC 7 (Nat.le_of_ble_eq_true rfl) wd_1407 rfl dX12_takeNumber_12 ?_
    refine mq_ild (n := 4002) hX hC 1 rfl rfl dX12_takeNumber_15 h (fun z2 h => ?_)
    refine lv_iconst (v := 2) hx hb dX12_takeNumber_16 (by decide) ?_
    refine lv_icmp_eq (tgt := 28) hx hb dX12_takeNumber_17 (by decide) (fun c3 => ?_) (fun c3 => ?_)
    · have h := h.1 c3
      exact cut28 a0 a1 S _ _ _ h hC (lv_sub hl [0, 1, 2] rfl)
    · have h := h.2 c3
      refine lv_aload_n hx hb dX12_takeNumber_20 rfl (lv_at hl 0 rfl) ?_
      refine lv_iconst (v := 1) hx hb dX12_takeNumber_21 (by decide) ?_
      refine mv_callv [.int 1] (rest := []) hX hC (ct_wrong l S 1 _ h E _) (cw_X12_wrong hts (by omega) (by omega)) rfl hl.1 (Nat.le_of_ble_eq_true rfl) ⟨Nat.zero_le _, Nat.zero_le _⟩ dX12_takeNumber_22 (fun S4 H locs hC h => ?_)
      refine lv_goto (tgt := 70) hx hb dX12_takeNumber_25 (by decide) ?_
      exact cut70 S4 _ _ _ h hC (lv_sub hl [0] rfl)
def wp_takeWord (a0 : Int32) (S : mS) (K : mS → Prop) : Prop := wp_hasWord a0 S (fun (S1 : mS) (r1 : Int32) => ((¬ r1 = 0 → K S1) ∧ (r1 = 0 → wp_wrong 1 S1 (fun (S3 : mS) => K S3))))
set_option maxHeartbeats 4000000 in
set_option maxRecDepth 100000 in
theorem ct_takeWord (l : Launch) (S : mS) (a0 : Int32) (K : mS → Prop) (h : wp_takeWord a0 S K) : mMv l yX12_takeWord cX12_takeWord 2 none 2 43 (fun E => [.int a0]) S K := by
  refine mv_ofv (by decide) rfl (fun _ => Nat.le_of_ble_eq_true rfl) ?_
  intro E p e R s m args below meth c A ls Q hRf hRl hX hC hl hret
  have hx := hX.1.1
  have hb := hX.1.2.1
  have hown := hX.1.2.2.2.1
  have hts := hX.1.2.2.2.2
  have hl : lv_has ls 2 [(0, .ref E.2.1), (1, .int a0)] := hl
  unfold wp_takeWord at h
  refine lv_aload_n hx hb dX12_takeWord_0 rfl (lv_at hl 0 rfl) ?_
  refine lv_iload_n hx hb dX12_takeWord_1 rfl (lv_at hl 1 rfl) ?_
  refine mv_calli [.int a0] (rest := []) hX hC (ct_hasWord l S a0 _ h E _) (cw_X12_hasWord hts (by omega) (by omega)) rfl hl.1 (Nat.le_of_ble_eq_true rfl) ⟨Nat.zero_le _, Nat.zero_le _⟩ dX12_takeWord_2 (fun r1 S1 H locs hC h => ?_)
  refine lv_if_ne (tgt := 13) hx hb dX12_takeWord_5 (by decide) (fun c2 => ?_) (fun c2 => ?_)
  · have h := h.1 c2
    exact hret _ _ _ _ _ hC h dX12_takeWord_13
  · have h := h.2 c2
    refine lv_aload_n hx hb dX12_takeWord_8 rfl (lv_at hl 0 rfl) ?_
    refine lv_iconst (v := 1) hx hb dX12_takeWord_9 (by decide) ?_
    refine mv_callv [.int 1] (rest := []) hX hC (ct_wrong l S1 1 _ h E _) (cw_X12_wrong hts (by omega) (by omega)) rfl hl.1 (Nat.le_of_ble_eq_true rfl) ⟨Nat.zero_le _, Nat.zero_le _⟩ dX12_takeWord_10 (fun S3 H locs hC h => ?_)
    exact hret _ _ _ _ _ hC h dX12_takeWord_13
