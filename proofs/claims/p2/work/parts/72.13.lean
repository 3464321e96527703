theorem wd_1974 : (Jvm.Cond.methodLink "SleepersModel" (532 : Nat) ({ cls := "SleepersModel", name := "goOn", desc := "(II)V" } : Jvm.MethodName)) ∈ tb := tb_at 1974 (by decide +kernel) (by decide +kernel)
theorem wd_1976 : (Jvm.Cond.instanceMethod ({ cls := "SleepersModel", name := "goOn", desc := "(II)V" } : Jvm.MethodName)) ∈ tb := tb_at 1976 (by decide +kernel) (by decide +kernel)
theorem wd_1977 : (Jvm.Cond.code ({ cls := "SleepersModel", name := "goOn", desc := "(II)V" } : Jvm.MethodName) prog_14_method_53_code (6 : Nat) (Option.none : Option Jvm.ClassFile.FieldType)) ∈ tb := tb_at 1977 (by decide +kernel) (by decide +kernel)
theorem wd_1978 : (Jvm.Cond.methodLink "SleepersModel" (519 : Nat) ({ cls := "SleepersModel", name := "failing", desc := "(II)I" } : Jvm.MethodName)) ∈ tb := tb_at 1978 (by decide +kernel) (by decide +kernel)
theorem wd_1980 : (Jvm.Cond.instanceMethod ({ cls := "SleepersModel", name := "failing", desc := "(II)I" } : Jvm.MethodName)) ∈ tb := tb_at 1980 (by decide +kernel) (by decide +kernel)
theorem wd_1981 : (Jvm.Cond.code ({ cls := "SleepersModel", name := "failing", desc := "(II)I" } : Jvm.MethodName) prog_14_method_49_code (5 : Nat) (Option.some Jvm.ClassFile.FieldType.int)) ∈ tb := tb_at 1981 (by decide +kernel) (by decide +kernel)
theorem wd_1982 : (Jvm.Cond.methodLink "SleepersModel" (522 : Nat) ({ cls := "SleepersModel", name := "goTo", desc := "(III)V" } : Jvm.MethodName)) ∈ tb := tb_at 1982 (by decide +kernel) (by decide +kernel)
theorem wd_1984 : (Jvm.Cond.instanceMethod ({ cls := "SleepersModel", name := "goTo", desc := "(III)V" } : Jvm.MethodName)) ∈ tb := tb_at 1984 (by decide +kernel) (by decide +kernel)
theorem wd_1985 : (Jvm.Cond.code ({ cls := "SleepersModel", name := "goTo", desc := "(III)V" } : Jvm.MethodName) prog_14_method_52_code (4 : Nat) (Option.none : Option Jvm.ClassFile.FieldType)) ∈ tb := tb_at 1985 (by decide +kernel) (by decide +kernel)
theorem wd_1986 : (Jvm.Cond.methodLink "SleepersModel" (526 : Nat) ({ cls := "SleepersModel", name := "finishing", desc := "(III)I" } : Jvm.MethodName)) ∈ tb := tb_at 1986 (by decide +kernel) (by decide +kernel)
theorem wd_1988 : (Jvm.Cond.instanceMethod ({ cls := "SleepersModel", name := "finishing", desc := "(III)I" } : Jvm.MethodName)) ∈ tb := tb_at 1988 (by decide +kernel) (by decide +kernel)
theorem wd_1989 : (Jvm.Cond.code ({ cls := "SleepersModel", name := "finishing", desc := "(III)I" } : Jvm.MethodName) prog_14_method_50_code (6 : Nat) (Option.some Jvm.ClassFile.FieldType.int)) ∈ tb := tb_at 1989 (by decide +kernel) (by decide +kernel)
theorem wd_1990 : (Jvm.Cond.methodLink "SleepersModel" (529 : Nat) ({ cls := "SleepersModel", name := "goFinished", desc := "(II)V" } : Jvm.MethodName)) ∈ tb := tb_at 1990 (by decide +kernel) (by decide +kernel)
theorem wd_1992 : (Jvm.Cond.instanceMethod ({ cls := "SleepersModel", name := "goFinished", desc := "(II)V" } : Jvm.MethodName)) ∈ tb := tb_at 1992 (by decide +kernel) (by decide +kernel)
theorem wd_1993 : (Jvm.Cond.code ({ cls := "SleepersModel", name := "goFinished", desc := "(II)V" } : Jvm.MethodName) prog_14_method_54_code (6 : Nat) (Option.none : Option Jvm.ClassFile.FieldType)) ∈ tb := tb_at 1993 (by decide +kernel) (by decide +kernel)
theorem sl_X12_failing : Cond.selects RX12 yX12_failing yX12_failing ∈ tb := sl_of (y := ⟨"SleepersModel", "failing", "(II)I"⟩) (n := 128) (by decide +kernel) (by decide +kernel)
theorem sl_X12_finishing : Cond.selects RX12 yX12_finishing yX12_finishing ∈ tb := sl_of (y := ⟨"SleepersModel", "finishing", "(III)I"⟩) (n := 128) (by decide +kernel) (by decide +kernel)
theorem sl_X12_goFinished : Cond.selects RX12 yX12_goFinished yX12_goFinished ∈ tb := sl_of (y := ⟨"SleepersModel", "goFinished", "(II)V"⟩) (n := 128) (by decide +kernel) (by decide +kernel)
theorem sl_X12_goOn : Cond.selects RX12 yX12_goOn yX12_goOn ∈ tb := sl_of (y := ⟨"SleepersModel", "goOn", "(II)V"⟩) (n := 128) (by decide +kernel) (by decide +kernel)
theorem sl_X12_goTo : Cond.selects RX12 yX12_goTo yX12_goTo ∈ tb := sl_of (y := ⟨"SleepersModel", "goTo", "(III)V"⟩) (n := 128) (by decide +kernel) (by decide +kernel)
theorem dX12_from_0 : decode cX12_from 0 = .ok (.iconst 0, 1) := by decide +kernel
theorem dX12_from_1 : decode cX12_from 1 = .ok (.istore_n 3, 1) := by decide +kernel
theorem dX12_from_2 : decode cX12_from 2 = .ok (.iload_n 3, 1) := by decide +kernel
theorem dX12_from_3 : decode cX12_from 3 = .ok (.sipush 12000, 3) := by decide +kernel
theorem dX12_from_6 : decode cX12_from 6 = .ok (.if_icmp .ge 16, 3) := by decide +kernel
theorem dX12_from_9 : decode cX12_from 9 = .ok (.aload_n 0, 1) := by decide +kernel
theorem dX12_from_10 : decode cX12_from 10 = .ok (.getfield 180, 3) := by decide +kernel
theorem dX12_from_13 : decode cX12_from 13 = .ok (.iload_n 3, 1) := by decide +kernel
theorem dX12_from_14 : decode cX12_from 14 = .ok (.iconst 0, 1) := by decide +kernel
theorem dX12_from_15 : decode cX12_from 15 = .ok (.bastore, 1) := by decide +kernel
theorem dX12_from_16 : decode cX12_from 16 = .ok (.iinc 3 1, 3) := by decide +kernel
theorem dX12_from_19 : decode cX12_from 19 = .ok (.goto (-17), 3) := by decide +kernel
theorem dX12_from_22 : decode cX12_from 22 = .ok (.aload_n 0, 1) := by decide +kernel
theorem dX12_from_23 : decode cX12_from 23 = .ok (.iconst 0, 1) := by decide +kernel
theorem dX12_from_24 : decode cX12_from 24 = .ok (.putfield 513, 3) := by decide +kernel
theorem dX12_from_27 : decode cX12_from 27 = .ok (.iload_n 2, 1) := by decide +kernel
theorem dX12_from_28 : decode cX12_from 28 = .ok (.ifCond .ne 22, 3) := by decide +kernel
theorem dX12_from_31 : decode cX12_from 31 = .ok (.aload_n 0, 1) := by decide +kernel
theorem dX12_from_32 : decode cX12_from 32 = .ok (.aload_n 0, 1) := by decide +kernel
theorem dX12_from_33 : decode cX12_from 33 = .ok (.getfield 94, 3) := by decide +kernel
theorem dX12_from_36 : decode cX12_from 36 = .ok (.iload_n 1, 1) := by decide +kernel
theorem dX12_from_37 : decode cX12_from 37 = .ok (.iaload, 1) := by decide +kernel
theorem dX12_from_38 : decode cX12_from 38 = .ok (.aload_n 0, 1) := by decide +kernel
theorem dX12_from_39 : decode cX12_from 39 = .ok (.getfield 97, 3) := by decide +kernel
theorem dX12_from_42 : decode cX12_from 42 = .ok (.iload_n 1, 1) := by decide +kernel
theorem dX12_from_43 : decode cX12_from 43 = .ok (.iaload, 1) := by decide +kernel
theorem dX12_from_44 : decode cX12_from 44 = .ok (.invokevirtual 516, 3) := by decide +kernel
theorem dX12_from_47 : decode cX12_from 47 = .ok (.goto 26, 3) := by decide +kernel
theorem dX12_from_50 : decode cX12_from 50 = .ok (.aload_n 0, 1) := by decide +kernel
theorem dX12_from_51 : decode cX12_from 51 = .ok (.aload_n 0, 1) := by decide +kernel
theorem dX12_from_52 : decode cX12_from 52 = .ok (.getfield 100, 3) := by decide +kernel
theorem dX12_from_55 : decode cX12_from 55 = .ok (.bipush 17, 2) := by decide +kernel
theorem dX12_from_57 : decode cX12_from 57 = .ok (.iload_n 1, 1) := by decide +kernel
theorem dX12_from_58 : decode cX12_from 58 = .ok (.imul, 1) := by decide +kernel
theorem dX12_from_59 : decode cX12_from 59 = .ok (.iload_n 2, 1) := by decide +kernel
theorem dX12_from_60 : decode cX12_from 60 = .ok (.iadd, 1) := by decide +kernel
theorem dX12_from_61 : decode cX12_from 61 = .ok (.iconst 1, 1) := by decide +kernel
theorem dX12_from_62 : decode cX12_from 62 = .ok (.isub, 1) := by decide +kernel
theorem dX12_from_63 : decode cX12_from 63 = .ok (.iaload, 1) := by decide +kernel
theorem dX12_from_64 : decode cX12_from 64 = .ok (.aload_n 0, 1) := by decide +kernel
theorem dX12_from_65 : decode cX12_from 65 = .ok (.getfield 97, 3) := by decide +kernel
theorem dX12_from_68 : decode cX12_from 68 = .ok (.iload_n 1, 1) := by decide +kernel
theorem dX12_from_69 : decode cX12_from 69 = .ok (.iaload, 1) := by decide +kernel
theorem dX12_from_70 : decode cX12_from 70 = .ok (.invokevirtual 532, 3) := by decide +kernel
theorem dX12_from_73 : decode cX12_from 73 = .ok (.return_, 1) := by decide +kernel
theorem dX12_goFinished_0 : decode cX12_goFinished 0 = .ok (.aload_n 0, 1) := by decide +kernel
theorem dX12_goFinished_1 : decode cX12_goFinished 1 = .ok (.getfield 103, 3) := by decide +kernel
theorem dX12_goFinished_4 : decode cX12_goFinished 4 = .ok (.iload_n 1, 1) := by decide +kernel
theorem dX12_goFinished_5 : decode cX12_goFinished 5 = .ok (.iaload, 1) := by decide +kernel
theorem dX12_goFinished_6 : decode cX12_goFinished 6 = .ok (.istore_n 3, 1) := by decide +kernel
theorem dX12_goFinished_7 : decode cX12_goFinished 7 = .ok (.aload_n 0, 1) := by decide +kernel
theorem dX12_goFinished_8 : decode cX12_goFinished 8 = .ok (.getfield 106, 3) := by decide +kernel
theorem dX12_goFinished_11 : decode cX12_goFinished 11 = .ok (.iload_n 1, 1) := by decide +kernel
theorem dX12_goFinished_12 : decode cX12_goFinished 12 = .ok (.iaload, 1) := by decide +kernel
theorem dX12_goFinished_13 : decode cX12_goFinished 13 = .ok (.istore 4, 2) := by decide +kernel
theorem dX12_goFinished_15 : decode cX12_goFinished 15 = .ok (.aload_n 0, 1) := by decide +kernel
theorem dX12_goFinished_16 : decode cX12_goFinished 16 = .ok (.getfield 109, 3) := by decide +kernel
theorem dX12_goFinished_19 : decode cX12_goFinished 19 = .ok (.iload_n 1, 1) := by decide +kernel
theorem dX12_goFinished_20 : decode cX12_goFinished 20 = .ok (.iaload, 1) := by decide +kernel
theorem dX12_goFinished_21 : decode cX12_goFinished 21 = .ok (.istore 5, 2) := by decide +kernel
theorem dX12_goFinished_23 : decode cX12_goFinished 23 = .ok (.aload_n 0, 1) := by decide +kernel
theorem dX12_goFinished_24 : decode cX12_goFinished 24 = .ok (.aload_n 0, 1) := by decide +kernel
theorem dX12_goFinished_25 : decode cX12_goFinished 25 = .ok (.getfield 137, 3) := by decide +kernel
theorem dX12_goFinished_28 : decode cX12_goFinished 28 = .ok (.iload_n 1, 1) := by decide +kernel
theorem dX12_goFinished_29 : decode cX12_goFinished 29 = .ok (.iaload, 1) := by decide +kernel
theorem dX12_goFinished_30 : decode cX12_goFinished 30 = .ok (.iload_n 2, 1) := by decide +kernel
theorem dX12_goFinished_31 : decode cX12_goFinished 31 = .ok (.invokevirtual 516, 3) := by decide +kernel
theorem dX12_goFinished_34 : decode cX12_goFinished 34 = .ok (.aload_n 0, 1) := by decide +kernel
theorem dX12_goFinished_35 : decode cX12_goFinished 35 = .ok (.aload_n 0, 1) := by decide +kernel
theorem dX12_goFinished_36 : decode cX12_goFinished 36 = .ok (.iload_n 3, 1) := by decide +kernel
theorem dX12_goFinished_37 : decode cX12_goFinished 37 = .ok (.iload 4, 2) := by decide +kernel
theorem dX12_goFinished_39 : decode cX12_goFinished 39 = .ok (.invokevirtual 519, 3) := by decide +kernel
theorem dX12_goFinished_42 : decode cX12_goFinished 42 = .ok (.iload_n 2, 1) := by decide +kernel
theorem dX12_goFinished_43 : decode cX12_goFinished 43 = .ok (.iload_n 2, 1) := by decide +kernel
theorem dX12_goFinished_44 : decode cX12_goFinished 44 = .ok (.invokevirtual 522, 3) := by decide +kernel
theorem dX12_goFinished_47 : decode cX12_goFinished 47 = .ok (.aload_n 0, 1) := by decide +kernel
theorem dX12_goFinished_48 : decode cX12_goFinished 48 = .ok (.aload_n 0, 1) := by decide +kernel
theorem dX12_goFinished_49 : decode cX12_goFinished 49 = .ok (.iload_n 3, 1) := by decide +kernel
theorem dX12_goFinished_50 : decode cX12_goFinished 50 = .ok (.iload 4, 2) := by decide +kernel
theorem dX12_goFinished_52 : decode cX12_goFinished 52 = .ok (.iconst (-1), 1) := by decide +kernel
theorem dX12_goFinished_53 : decode cX12_goFinished 53 = .ok (.invokevirtual 526, 3) := by decide +kernel
theorem dX12_goFinished_56 : decode cX12_goFinished 56 = .ok (.iload_n 2, 1) := by decide +kernel
theorem dX12_goFinished_57 : decode cX12_goFinished 57 = .ok (.iload_n 2, 1) := by decide +kernel
theorem dX12_goFinished_58 : decode cX12_goFinished 58 = .ok (.invokevirtual 522, 3) := by decide +kernel
theorem dX12_goFinished_61 : decode cX12_goFinished 61 = .ok (.aload_n 0, 1) := by decide +kernel
theorem dX12_goFinished_62 : decode cX12_goFinished 62 = .ok (.getfield 140, 3) := by decide +kernel
theorem dX12_goFinished_65 : decode cX12_goFinished 65 = .ok (.iload_n 1, 1) := by decide +kernel
theorem dX12_goFinished_66 : decode cX12_goFinished 66 = .ok (.baload, 1) := by decide +kernel
theorem dX12_goFinished_67 : decode cX12_goFinished 67 = .ok (.ifCond .eq 24, 3) := by decide +kernel
theorem dX12_goFinished_70 : decode cX12_goFinished 70 = .ok (.aload_n 0, 1) := by decide +kernel
theorem dX12_goFinished_71 : decode cX12_goFinished 71 = .ok (.aload_n 0, 1) := by decide +kernel
theorem dX12_goFinished_72 : decode cX12_goFinished 72 = .ok (.iload_n 3, 1) := by decide +kernel
theorem dX12_goFinished_73 : decode cX12_goFinished 73 = .ok (.iload 4, 2) := by decide +kernel
theorem dX12_goFinished_75 : decode cX12_goFinished 75 = .ok (.iload 5, 2) := by decide +kernel
theorem dX12_goFinished_77 : decode cX12_goFinished 77 = .ok (.invokevirtual 526, 3) := by decide +kernel
theorem dX12_goFinished_80 : decode cX12_goFinished 80 = .ok (.aload_n 0, 1) := by decide +kernel
theorem dX12_goFinished_81 : decode cX12_goFinished 81 = .ok (.getfield 164, 3) := by decide +kernel
theorem dX12_goFinished_84 : decode cX12_goFinished 84 = .ok (.iload 5, 2) := by decide +kernel
theorem dX12_goFinished_86 : decode cX12_goFinished 86 = .ok (.iaload, 1) := by decide +kernel
theorem dX12_goFinished_87 : decode cX12_goFinished 87 = .ok (.iload_n 2, 1) := by decide +kernel
theorem dX12_goFinished_88 : decode cX12_goFinished 88 = .ok (.invokevirtual 522, 3) := by decide +kernel
theorem dX12_goFinished_91 : decode cX12_goFinished 91 = .ok (.aload_n 0, 1) := by decide +kernel
theorem dX12_goFinished_92 : decode cX12_goFinished 92 = .ok (.getfield 143, 3) := by decide +kernel
theorem dX12_goFinished_95 : decode cX12_goFinished 95 = .ok (.iload_n 1, 1) := by decide +kernel
theorem dX12_goFinished_96 : decode cX12_goFinished 96 = .ok (.baload, 1) := by decide +kernel
theorem dX12_goFinished_97 : decode cX12_goFinished 97 = .ok (.ifCond .eq 24, 3) := by decide +kernel
theorem dX12_goFinished_100 : decode cX12_goFinished 100 = .ok (.aload_n 0, 1) := by decide +kernel
theorem dX12_goFinished_101 : decode cX12_goFinished 101 = .ok (.aload_n 0, 1) := by decide +kernel
theorem dX12_goFinished_102 : decode cX12_goFinished 102 = .ok (.iload_n 3, 1) := by decide +kernel
theorem dX12_goFinished_103 : decode cX12_goFinished 103 = .ok (.iload 4, 2) := by decide +kernel
theorem dX12_goFinished_105 : decode cX12_goFinished 105 = .ok (.iload 5, 2) := by decide +kernel
theorem dX12_goFinished_107 : decode cX12_goFinished 107 = .ok (.invokevirtual 526, 3) := by decide +kernel
theorem dX12_goFinished_110 : decode cX12_goFinished 110 = .ok (.aload_n 0, 1) := by decide +kernel
theorem dX12_goFinished_111 : decode cX12_goFinished 111 = .ok (.getfield 161, 3) := by decide +kernel
theorem dX12_goFinished_114 : decode cX12_goFinished 114 = .ok (.iload 5, 2) := by decide +kernel
theorem dX12_goFinished_116 : decode cX12_goFinished 116 = .ok (.iaload, 1) := by decide +kernel
theorem dX12_goFinished_117 : decode cX12_goFinished 117 = .ok (.iload_n 2, 1) := by decide +kernel
theorem dX12_goFinished_118 : decode cX12_goFinished 118 = .ok (.invokevirtual 522, 3) := by decide +kernel
theorem dX12_goFinished_121 : decode cX12_goFinished 121 = .ok (.return_, 1) := by decide +kernel
theorem dX12_goOn_0 : decode cX12_goOn 0 = .ok (.aload_n 0, 1) := by decide +kernel
theorem dX12_goOn_1 : decode cX12_goOn 1 = .ok (.getfield 85, 3) := by decide +kernel
theorem dX12_goOn_4 : decode cX12_goOn 4 = .ok (.iload_n 1, 1) := by decide +kernel
theorem dX12_goOn_5 : decode cX12_goOn 5 = .ok (.iaload, 1) := by decide +kernel
theorem dX12_goOn_6 : decode cX12_goOn 6 = .ok (.istore_n 3, 1) := by decide +kernel
theorem dX12_goOn_7 : decode cX12_goOn 7 = .ok (.aload_n 0, 1) := by decide +kernel
theorem dX12_goOn_8 : decode cX12_goOn 8 = .ok (.getfield 88, 3) := by decide +kernel
theorem dX12_goOn_11 : decode cX12_goOn 11 = .ok (.iload_n 1, 1) := by decide +kernel
theorem dX12_goOn_12 : decode cX12_goOn 12 = .ok (.iaload, 1) := by decide +kernel
theorem dX12_goOn_13 : decode cX12_goOn 13 = .ok (.istore 4, 2) := by decide +kernel
theorem dX12_goOn_15 : decode cX12_goOn 15 = .ok (.aload_n 0, 1) := by decide +kernel
theorem dX12_goOn_16 : decode cX12_goOn 16 = .ok (.getfield 76, 3) := by decide +kernel
theorem dX12_goOn_19 : decode cX12_goOn 19 = .ok (.iload_n 1, 1) := by decide +kernel
theorem dX12_goOn_20 : decode cX12_goOn 20 = .ok (.iaload, 1) := by decide +kernel
theorem dX12_goOn_21 : decode cX12_goOn 21 = .ok (.istore 5, 2) := by decide +kernel
theorem dX12_goOn_23 : decode cX12_goOn 23 = .ok (.aload_n 0, 1) := by decide +kernel
theorem dX12_goOn_24 : decode cX12_goOn 24 = .ok (.getfield 73, 3) := by decide +kernel
theorem dX12_goOn_27 : decode cX12_goOn 27 = .ok (.iload_n 1, 1) := by decide +kernel
theorem dX12_goOn_28 : decode cX12_goOn 28 = .ok (.iaload, 1) := by decide +kernel
theorem dX12_goOn_29 : decode cX12_goOn 29 = .ok (.tableswitch 193 3 10 #[48, 87, 112, 47, 185, 126, 148, 170], 47) := by decide +kernel
theorem dX12_goOn_76 : decode cX12_goOn 76 = .ok (.return_, 1) := by decide +kernel
theorem dX12_goOn_77 : decode cX12_goOn 77 = .ok (.aload_n 0, 1) := by decide +kernel
theorem dX12_goOn_78 : decode cX12_goOn 78 = .ok (.aload_n 0, 1) := by decide +kernel
theorem dX12_goOn_79 : decode cX12_goOn 79 = .ok (.getfield 79, 3) := by decide +kernel
theorem dX12_goOn_82 : decode cX12_goOn 82 = .ok (.iload_n 1, 1) := by decide +kernel
theorem dX12_goOn_83 : decode cX12_goOn 83 = .ok (.iaload, 1) := by decide +kernel
theorem dX12_goOn_84 : decode cX12_goOn 84 = .ok (.iload_n 2, 1) := by decide +kernel
theorem dX12_goOn_85 : decode cX12_goOn 85 = .ok (.invokevirtual 516, 3) := by decide +kernel
theorem dX12_goOn_88 : decode cX12_goOn 88 = .ok (.aload_n 0, 1) := by decide +kernel
theorem dX12_goOn_89 : decode cX12_goOn 89 = .ok (.aload_n 0, 1) := by decide +kernel
theorem dX12_goOn_90 : decode cX12_goOn 90 = .ok (.iload_n 3, 1) := by decide +kernel
theorem dX12_goOn_91 : decode cX12_goOn 91 = .ok (.iload 4, 2) := by decide +kernel
theorem dX12_goOn_93 : decode cX12_goOn 93 = .ok (.invokevirtual 519, 3) := by decide +kernel
theorem dX12_goOn_96 : decode cX12_goOn 96 = .ok (.iload_n 2, 1) := by decide +kernel
theorem dX12_goOn_97 : decode cX12_goOn 97 = .ok (.iload_n 2, 1) := by decide +kernel
theorem dX12_goOn_98 : decode cX12_goOn 98 = .ok (.invokevirtual 522, 3) := by decide +kernel
theorem dX12_goOn_101 : decode cX12_goOn 101 = .ok (.aload_n 0, 1) := by decide +kernel
theorem dX12_goOn_102 : decode cX12_goOn 102 = .ok (.aload_n 0, 1) := by decide +kernel
theorem dX12_goOn_103 : decode cX12_goOn 103 = .ok (.iload_n 3, 1) := by decide +kernel
theorem dX12_goOn_104 : decode cX12_goOn 104 = .ok (.iload 4, 2) := by decide +kernel
theorem dX12_goOn_106 : decode cX12_goOn 106 = .ok (.iconst (-1), 1) := by decide +kernel
theorem dX12_goOn_107 : decode cX12_goOn 107 = .ok (.invokevirtual 526, 3) := by decide +kernel
theorem dX12_goOn_110 : decode cX12_goOn 110 = .ok (.iload_n 2, 1) := by decide +kernel
theorem dX12_goOn_111 : decode cX12_goOn 111 = .ok (.iload_n 2, 1) := by decide +kernel
theorem dX12_goOn_112 : decode cX12_goOn 112 = .ok (.invokevirtual 522, 3) := by decide +kernel
theorem dX12_goOn_115 : decode cX12_goOn 115 = .ok (.return_, 1) := by decide +kernel
theorem dX12_goOn_116 : decode cX12_goOn 116 = .ok (.aload_n 0, 1) := by decide +kernel
theorem dX12_goOn_117 : decode cX12_goOn 117 = .ok (.aload_n 0, 1) := by decide +kernel
theorem dX12_goOn_118 : decode cX12_goOn 118 = .ok (.getfield 79, 3) := by decide +kernel
theorem dX12_goOn_121 : decode cX12_goOn 121 = .ok (.iload_n 1, 1) := by decide +kernel
theorem dX12_goOn_122 : decode cX12_goOn 122 = .ok (.iaload, 1) := by decide +kernel
theorem dX12_goOn_123 : decode cX12_goOn 123 = .ok (.iload_n 2, 1) := by decide +kernel
theorem dX12_goOn_124 : decode cX12_goOn 124 = .ok (.invokevirtual 516, 3) := by decide +kernel
theorem dX12_goOn_127 : decode cX12_goOn 127 = .ok (.aload_n 0, 1) := by decide +kernel
theorem dX12_goOn_128 : decode cX12_goOn 128 = .ok (.aload_n 0, 1) := by decide +kernel
theorem dX12_goOn_129 : decode cX12_goOn 129 = .ok (.iload_n 3, 1) := by decide +kernel
theorem dX12_goOn_130 : decode cX12_goOn 130 = .ok (.iload 4, 2) := by decide +kernel
theorem dX12_goOn_132 : decode cX12_goOn 132 = .ok (.invokevirtual 519, 3) := by decide +kernel
theorem dX12_goOn_135 : decode cX12_goOn 135 = .ok (.iload_n 2, 1) := by decide +kernel
theorem dX12_goOn_136 : decode cX12_goOn 136 = .ok (.iload_n 2, 1) := by decide +kernel
theorem dX12_goOn_137 : decode cX12_goOn 137 = .ok (.invokevirtual 522, 3) := by decide +kernel
theorem dX12_goOn_140 : decode cX12_goOn 140 = .ok (.return_, 1) := by decide +kernel
theorem dX12_goOn_141 : decode cX12_goOn 141 = .ok (.aload_n 0, 1) := by decide +kernel
theorem dX12_goOn_142 : decode cX12_goOn 142 = .ok (.aload_n 0, 1) := by decide +kernel
theorem dX12_goOn_143 : decode cX12_goOn 143 = .ok (.iload_n 3, 1) := by decide +kernel
theorem dX12_goOn_144 : decode cX12_goOn 144 = .ok (.iload 4, 2) := by decide +kernel
theorem dX12_goOn_146 : decode cX12_goOn 146 = .ok (.invokevirtual 519, 3) := by decide +kernel
theorem dX12_goOn_149 : decode cX12_goOn 149 = .ok (.iload_n 2, 1) := by decide +kernel
theorem dX12_goOn_150 : decode cX12_goOn 150 = .ok (.iload_n 2, 1) := by decide +kernel
theorem dX12_goOn_151 : decode cX12_goOn 151 = .ok (.invokevirtual 522, 3) := by decide +kernel
theorem dX12_goOn_154 : decode cX12_goOn 154 = .ok (.return_, 1) := by decide +kernel
theorem dX12_goOn_155 : decode cX12_goOn 155 = .ok (.aload_n 0, 1) := by decide +kernel
theorem dX12_goOn_156 : decode cX12_goOn 156 = .ok (.aload_n 0, 1) := by decide +kernel
theorem dX12_goOn_157 : decode cX12_goOn 157 = .ok (.iload_n 3, 1) := by decide +kernel
theorem dX12_goOn_158 : decode cX12_goOn 158 = .ok (.iload 4, 2) := by decide +kernel
theorem dX12_goOn_160 : decode cX12_goOn 160 = .ok (.iload 5, 2) := by decide +kernel
theorem dX12_goOn_162 : decode cX12_goOn 162 = .ok (.invokevirtual 526, 3) := by decide +kernel
theorem dX12_goOn_165 : decode cX12_goOn 165 = .ok (.aload_n 0, 1) := by decide +kernel
theorem dX12_goOn_166 : decode cX12_goOn 166 = .ok (.getfield 164, 3) := by decide +kernel
theorem dX12_goOn_169 : decode cX12_goOn 169 = .ok (.iload 5, 2) := by decide +kernel
theorem dX12_goOn_171 : decode cX12_goOn 171 = .ok (.iaload, 1) := by decide +kernel
theorem dX12_goOn_172 : decode cX12_goOn 172 = .ok (.iload_n 2, 1) := by decide +kernel
theorem dX12_goOn_173 : decode cX12_goOn 173 = .ok (.invokevirtual 522, 3) := by decide +kernel
theorem dX12_goOn_176 : decode cX12_goOn 176 = .ok (.return_, 1) := by decide +kernel
theorem dX12_goOn_177 : decode cX12_goOn 177 = .ok (.aload_n 0, 1) := by decide +kernel
theorem dX12_goOn_178 : decode cX12_goOn 178 = .ok (.aload_n 0, 1) := by decide +kernel
theorem dX12_goOn_179 : decode cX12_goOn 179 = .ok (.iload_n 3, 1) := by decide +kernel
theorem dX12_goOn_180 : decode cX12_goOn 180 = .ok (.iload 4, 2) := by decide +kernel
theorem dX12_goOn_182 : decode cX12_goOn 182 = .ok (.iload 5, 2) := by decide +kernel
theorem dX12_goOn_184 : decode cX12_goOn 184 = .ok (.invokevirtual 526, 3) := by decide +kernel
theorem dX12_goOn_187 : decode cX12_goOn 187 = .ok (.aload_n 0, 1) := by decide +kernel
theorem dX12_goOn_188 : decode cX12_goOn 188 = .ok (.getfield 161, 3) := by decide +kernel
theorem dX12_goOn_191 : decode cX12_goOn 191 = .ok (.iload 5, 2) := by decide +kernel
theorem dX12_goOn_193 : decode cX12_goOn 193 = .ok (.iaload, 1) := by decide +kernel
theorem dX12_goOn_194 : decode cX12_goOn 194 = .ok (.iload_n 2, 1) := by decide +kernel
theorem dX12_goOn_195 : decode cX12_goOn 195 = .ok (.invokevirtual 522, 3) := by decide +kernel
theorem dX12_goOn_198 : decode cX12_goOn 198 = .ok (.return_, 1) := by decide +kernel
theorem dX12_goOn_199 : decode cX12_goOn 199 = .ok (.aload_n 0, 1) := by decide +kernel
theorem dX12_goOn_200 : decode cX12_goOn 200 = .ok (.aload_n 0, 1) := by decide +kernel
theorem dX12_goOn_201 : decode cX12_goOn 201 = .ok (.iload_n 3, 1) := by decide +kernel
theorem dX12_goOn_202 : decode cX12_goOn 202 = .ok (.iload 4, 2) := by decide +kernel
theorem dX12_goOn_204 : decode cX12_goOn 204 = .ok (.iconst (-1), 1) := by decide +kernel
theorem dX12_goOn_205 : decode cX12_goOn 205 = .ok (.invokevirtual 526, 3) := by decide +kernel
theorem dX12_goOn_208 : decode cX12_goOn 208 = .ok (.iload_n 2, 1) := by decide +kernel
theorem dX12_goOn_209 : decode cX12_goOn 209 = .ok (.iload_n 2, 1) := by decide +kernel
theorem dX12_goOn_210 : decode cX12_goOn 210 = .ok (.invokevirtual 522, 3) := by decide +kernel
theorem dX12_goOn_213 : decode cX12_goOn 213 = .ok (.return_, 1) := by decide +kernel
theorem dX12_goOn_214 : decode cX12_goOn 214 = .ok (.aload_n 0, 1) := by decide +kernel
theorem dX12_goOn_215 : decode cX12_goOn 215 = .ok (.iload 5, 2) := by decide +kernel
theorem dX12_goOn_217 : decode cX12_goOn 217 = .ok (.iload_n 2, 1) := by decide +kernel
theorem dX12_goOn_218 : decode cX12_goOn 218 = .ok (.invokevirtual 529, 3) := by decide +kernel
theorem dX12_goOn_221 : decode cX12_goOn 221 = .ok (.return_, 1) := by decide +kernel
theorem dX12_goOn_222 : decode cX12_goOn 222 = .ok (.aload_n 0, 1) := by decide +kernel
theorem dX12_goOn_223 : decode cX12_goOn 223 = .ok (.getfield 79, 3) := by decide +kernel
theorem dX12_goOn_226 : decode cX12_goOn 226 = .ok (.iload_n 1, 1) := by decide +kernel
theorem dX12_goOn_227 : decode cX12_goOn 227 = .ok (.iaload, 1) := by decide +kernel
theorem dX12_goOn_228 : decode cX12_goOn 228 = .ok (.ifCond .lt 14, 3) := by decide +kernel
theorem dX12_goOn_231 : decode cX12_goOn 231 = .ok (.aload_n 0, 1) := by decide +kernel
theorem dX12_goOn_232 : decode cX12_goOn 232 = .ok (.aload_n 0, 1) := by decide +kernel
theorem dX12_goOn_233 : decode cX12_goOn 233 = .ok (.getfield 79, 3) := by decide +kernel
theorem dX12_goOn_236 : decode cX12_goOn 236 = .ok (.iload_n 1, 1) := by decide +kernel
theorem dX12_goOn_237 : decode cX12_goOn 237 = .ok (.iaload, 1) := by decide +kernel
theorem dX12_goOn_238 : decode cX12_goOn 238 = .ok (.iload_n 2, 1) := by decide +kernel
theorem dX12_goOn_239 : decode cX12_goOn 239 = .ok (.invokevirtual 516, 3) := by decide +kernel
theorem dX12_goOn_242 : decode cX12_goOn 242 = .ok (.aload_n 0, 1) := by decide +kernel
theorem dX12_goOn_243 : decode cX12_goOn 243 = .ok (.getfield 82, 3) := by decide +kernel
theorem dX12_goOn_246 : decode cX12_goOn 246 = .ok (.iload_n 1, 1) := by decide +kernel
theorem dX12_goOn_247 : decode cX12_goOn 247 = .ok (.iaload, 1) := by decide +kernel
theorem dX12_goOn_248 : decode cX12_goOn 248 = .ok (.ifCond .lt 14, 3) := by decide +kernel
theorem dX12_goOn_251 : decode cX12_goOn 251 = .ok (.aload_n 0, 1) := by decide +kernel
theorem dX12_goOn_252 : decode cX12_goOn 252 = .ok (.aload_n 0, 1) := by decide +kernel
theorem dX12_goOn_253 : decode cX12_goOn 253 = .ok (.getfield 82, 3) := by decide +kernel
theorem dX12_goOn_256 : decode cX12_goOn 256 = .ok (.iload_n 1, 1) := by decide +kernel
theorem dX12_goOn_257 : decode cX12_goOn 257 = .ok (.iaload, 1) := by decide +kernel
theorem dX12_goOn_258 : decode cX12_goOn 258 = .ok (.iload_n 2, 1) := by decide +kernel
theorem dX12_goOn_259 : decode cX12_goOn 259 = .ok (.invokevirtual 516, 3) := by decide +kernel
theorem dX12_goOn_262 : decode cX12_goOn 262 = .ok (.return_, 1) := by decide +kernel
theorem dX12_isState_0 : decode cX12_isState 0 = .ok (.iload_n 1, 1) := by decide +kernel
theorem dX12_isState_1 : decode cX12_isState 1 = .ok (.ifCond .lt 42, 3) := by decide +kernel
theorem dX12_isState_4 : decode cX12_isState 4 = .ok (.iload_n 1, 1) := by decide +kernel
theorem dX12_isState_5 : decode cX12_isState 5 = .ok (.aload_n 0, 1) := by decide +kernel
theorem dX12_isState_6 : decode cX12_isState 6 = .ok (.getfield 43, 3) := by decide +kernel
theorem dX12_isState_9 : decode cX12_isState 9 = .ok (.aload_n 0, 1) := by decide +kernel
theorem dX12_isState_10 : decode cX12_isState 10 = .ok (.getfield 356, 3) := by decide +kernel
theorem dX12_isState_13 : decode cX12_isState 13 = .ok (.iaload, 1) := by decide +kernel
theorem dX12_isState_14 : decode cX12_isState 14 = .ok (.if_icmp .ge 29, 3) := by decide +kernel
theorem dX12_isState_17 : decode cX12_isState 17 = .ok (.iload_n 2, 1) := by decide +kernel
theorem dX12_isState_18 : decode cX12_isState 18 = .ok (.ifCond .lt 25, 3) := by decide +kernel
theorem dX12_isState_21 : decode cX12_isState 21 = .ok (.iload_n 2, 1) := by decide +kernel
theorem dX12_isState_22 : decode cX12_isState 22 = .ok (.aload_n 0, 1) := by decide +kernel
theorem dX12_isState_23 : decode cX12_isState 23 = .ok (.getfield 58, 3) := by decide +kernel
theorem dX12_isState_26 : decode cX12_isState 26 = .ok (.bipush 12, 2) := by decide +kernel
theorem dX12_isState_28 : decode cX12_isState 28 = .ok (.aload_n 0, 1) := by decide +kernel
theorem dX12_isState_29 : decode cX12_isState 29 = .ok (.getfield 356, 3) := by decide +kernel
theorem dX12_isState_32 : decode cX12_isState 32 = .ok (.imul, 1) := by decide +kernel
theorem dX12_isState_33 : decode cX12_isState 33 = .ok (.iload_n 1, 1) := by decide +kernel
theorem dX12_isState_34 : decode cX12_isState 34 = .ok (.iadd, 1) := by decide +kernel
theorem dX12_isState_35 : decode cX12_isState 35 = .ok (.iaload, 1) := by decide +kernel
theorem dX12_isState_36 : decode cX12_isState 36 = .ok (.if_icmp .gt 7, 3) := by decide +kernel
theorem dX12_isState_39 : decode cX12_isState 39 = .ok (.iconst 1, 1) := by decide +kernel
theorem dX12_isState_40 : decode cX12_isState 40 = .ok (.goto 4, 3) := by decide +kernel
theorem dX12_isState_43 : decode cX12_isState 43 = .ok (.iconst 0, 1) := by decide +kernel
theorem dX12_isState_44 : decode cX12_isState 44 = .ok (.ireturn, 1) := by decide +kernel
theorem dX12_leavePart_0 : decode cX12_leavePart 0 = .ok (.bipush 11, 2) := by decide +kernel
theorem dX12_leavePart_2 : decode cX12_leavePart 2 = .ok (.aload_n 0, 1) := by decide +kernel
theorem dX12_leavePart_3 : decode cX12_leavePart 3 = .ok (.getfield 600, 3) := by decide +kernel
theorem dX12_leavePart_6 : decode cX12_leavePart 6 = .ok (.imul, 1) := by decide +kernel
theorem dX12_leavePart_7 : decode cX12_leavePart 7 = .ok (.aload_n 0, 1) := by decide +kernel
theorem dX12_leavePart_8 : decode cX12_leavePart 8 = .ok (.getfield 237, 3) := by decide +kernel
theorem dX12_leavePart_11 : decode cX12_leavePart 11 = .ok (.aload_n 0, 1) := by decide +kernel
theorem dX12_leavePart_12 : decode cX12_leavePart 12 = .ok (.getfield 600, 3) := by decide +kernel
theorem dX12_leavePart_15 : decode cX12_leavePart 15 = .ok (.iaload, 1) := by decide +kernel
theorem dX12_leavePart_16 : decode cX12_leavePart 16 = .ok (.iadd, 1) := by decide +kernel
theorem dX12_leavePart_17 : decode cX12_leavePart 17 = .ok (.iconst 1, 1) := by decide +kernel
theorem dX12_leavePart_18 : decode cX12_leavePart 18 = .ok (.isub, 1) := by decide +kernel
theorem dX12_leavePart_19 : decode cX12_leavePart 19 = .ok (.istore_n 2, 1) := by decide +kernel
theorem dX12_leavePart_20 : decode cX12_leavePart 20 = .ok (.aload_n 0, 1) := by decide +kernel
theorem dX12_leavePart_21 : decode cX12_leavePart 21 = .ok (.getfield 116, 3) := by decide +kernel
theorem dX12_leavePart_24 : decode cX12_leavePart 24 = .ok (.iload_n 1, 1) := by decide +kernel
theorem dX12_leavePart_25 : decode cX12_leavePart 25 = .ok (.baload, 1) := by decide +kernel
theorem dX12_leavePart_26 : decode cX12_leavePart 26 = .ok (.ifCond .eq 13, 3) := by decide +kernel
theorem dX12_leavePart_29 : decode cX12_leavePart 29 = .ok (.aload_n 0, 1) := by decide +kernel
theorem dX12_leavePart_30 : decode cX12_leavePart 30 = .ok (.iload_n 2, 1) := by decide +kernel
theorem dX12_leavePart_31 : decode cX12_leavePart 31 = .ok (.iconst 0, 1) := by decide +kernel
theorem dX12_leavePart_32 : decode cX12_leavePart 32 = .ok (.iconst 0, 1) := by decide +kernel
theorem dX12_leavePart_33 : decode cX12_leavePart 33 = .ok (.invokevirtual 666, 3) := by decide +kernel
theorem dX12_leavePart_36 : decode cX12_leavePart 36 = .ok (.goto 26, 3) := by decide +kernel
theorem dX12_leavePart_39 : decode cX12_leavePart 39 = .ok (.aload_n 0, 1) := by decide +kernel
theorem dX12_leavePart_40 : decode cX12_leavePart 40 = .ok (.getfield 237, 3) := by decide +kernel
theorem dX12_leavePart_43 : decode cX12_leavePart 43 = .ok (.aload_n 0, 1) := by decide +kernel
theorem dX12_leavePart_44 : decode cX12_leavePart 44 = .ok (.getfield 600, 3) := by decide +kernel
theorem dX12_leavePart_47 : decode cX12_leavePart 47 = .ok (.dup2, 1) := by decide +kernel
theorem dX12_leavePart_48 : decode cX12_leavePart 48 = .ok (.iaload, 1) := by decide +kernel
theorem dX12_leavePart_49 : decode cX12_leavePart 49 = .ok (.iconst 1, 1) := by decide +kernel
theorem dX12_leavePart_50 : decode cX12_leavePart 50 = .ok (.isub, 1) := by decide +kernel
theorem dX12_leavePart_51 : decode cX12_leavePart 51 = .ok (.iastore, 1) := by decide +kernel
theorem dX12_leavePart_52 : decode cX12_leavePart 52 = .ok (.aload_n 0, 1) := by decide +kernel
theorem dX12_leavePart_53 : decode cX12_leavePart 53 = .ok (.aload_n 0, 1) := by decide +kernel
theorem dX12_leavePart_54 : decode cX12_leavePart 54 = .ok (.getfield 128, 3) := by decide +kernel
theorem dX12_leavePart_57 : decode cX12_leavePart 57 = .ok (.iload_n 1, 1) := by decide +kernel
theorem dX12_leavePart_58 : decode cX12_leavePart 58 = .ok (.iaload, 1) := by decide +kernel
theorem dX12_leavePart_59 : decode cX12_leavePart 59 = .ok (.putfield 609, 3) := by decide +kernel
theorem dX12_leavePart_62 : decode cX12_leavePart 62 = .ok (.return_, 1) := by decide +kernel
theorem dX12_letter_0 : decode cX12_letter 0 = .ok (.aload_n 0, 1) := by decide +kernel
theorem dX12_letter_1 : decode cX12_letter 1 = .ok (.iconst 0, 1) := by decide +kernel
theorem dX12_letter_2 : decode cX12_letter 2 = .ok (.putfield 1, 3) := by decide +kernel
theorem dX12_letter_5 : decode cX12_letter 5 = .ok (.iload_n 1, 1) := by decide +kernel
theorem dX12_letter_6 : decode cX12_letter 6 = .ok (.ifCond .lt 9, 3) := by decide +kernel
theorem dX12_letter_9 : decode cX12_letter 9 = .ok (.iload_n 1, 1) := by decide +kernel
theorem dX12_letter_10 : decode cX12_letter 10 = .ok (.bipush 7, 2) := by decide +kernel
theorem dX12_letter_12 : decode cX12_letter 12 = .ok (.if_icmp .le 6, 3) := by decide +kernel
theorem dX12_letter_15 : decode cX12_letter 15 = .ok (.bipush (-2), 2) := by decide +kernel
theorem dX12_letter_17 : decode cX12_letter 17 = .ok (.ireturn, 1) := by decide +kernel
theorem dX12_letter_18 : decode cX12_letter 18 = .ok (.iconst 0, 1) := by decide +kernel
theorem dX12_letter_19 : decode cX12_letter 19 = .ok (.istore_n 3, 1) := by decide +kernel
theorem dX12_letter_20 : decode cX12_letter 20 = .ok (.iload_n 3, 1) := by decide +kernel
theorem dX12_letter_21 : decode cX12_letter 21 = .ok (.aload_n 0, 1) := by decide +kernel
theorem dX12_letter_22 : decode cX12_letter 22 = .ok (.getfield 563, 3) := by decide +kernel
theorem dX12_letter_25 : decode cX12_letter 25 = .ok (.if_icmp .ge 65, 3) := by decide +kernel
theorem dX12_letter_28 : decode cX12_letter 28 = .ok (.aload_n 0, 1) := by decide +kernel
theorem dX12_letter_29 : decode cX12_letter 29 = .ok (.getfield 295, 3) := by decide +kernel
theorem dX12_letter_32 : decode cX12_letter 32 = .ok (.iload_n 3, 1) := by decide +kernel
theorem dX12_letter_33 : decode cX12_letter 33 = .ok (.iaload, 1) := by decide +kernel
theorem dX12_letter_34 : decode cX12_letter 34 = .ok (.istore 4, 2) := by decide +kernel
theorem dX12_letter_36 : decode cX12_letter 36 = .ok (.aload_n 0, 1) := by decide +kernel
theorem dX12_letter_37 : decode cX12_letter 37 = .ok (.getfield 274, 3) := by decide +kernel
theorem dX12_letter_40 : decode cX12_letter 40 = .ok (.iload 4, 2) := by decide +kernel
theorem dX12_letter_42 : decode cX12_letter 42 = .ok (.iaload, 1) := by decide +kernel
theorem dX12_letter_43 : decode cX12_letter 43 = .ok (.iconst 3, 1) := by decide +kernel
theorem dX12_letter_44 : decode cX12_letter 44 = .ok (.if_icmp .ne 40, 3) := by decide +kernel
theorem dX12_letter_47 : decode cX12_letter 47 = .ok (.aload_n 0, 1) := by decide +kernel
theorem dX12_letter_48 : decode cX12_letter 48 = .ok (.getfield 286, 3) := by decide +kernel
theorem dX12_letter_51 : decode cX12_letter 51 = .ok (.iload 4, 2) := by decide +kernel
theorem dX12_letter_53 : decode cX12_letter 53 = .ok (.iaload, 1) := by decide +kernel
theorem dX12_letter_54 : decode cX12_letter 54 = .ok (.iload_n 1, 1) := by decide +kernel
theorem dX12_letter_55 : decode cX12_letter 55 = .ok (.if_icmp .ne 29, 3) := by decide +kernel
theorem dX12_letter_58 : decode cX12_letter 58 = .ok (.aload_n 0, 1) := by decide +kernel
theorem dX12_letter_59 : decode cX12_letter 59 = .ok (.getfield 289, 3) := by decide +kernel
theorem dX12_letter_62 : decode cX12_letter 62 = .ok (.iload 4, 2) := by decide +kernel
theorem dX12_letter_64 : decode cX12_letter 64 = .ok (.iaload, 1) := by decide +kernel
theorem dX12_letter_65 : decode cX12_letter 65 = .ok (.istore 5, 2) := by decide +kernel
theorem dX12_letter_67 : decode cX12_letter 67 = .ok (.aload_n 0, 1) := by decide +kernel
theorem dX12_letter_68 : decode cX12_letter 68 = .ok (.iload 4, 2) := by decide +kernel
theorem dX12_letter_70 : decode cX12_letter 70 = .ok (.invokevirtual 587, 3) := by decide +kernel
theorem dX12_letter_73 : decode cX12_letter 73 = .ok (.aload_n 0, 1) := by decide +kernel
theorem dX12_letter_74 : decode cX12_letter 74 = .ok (.iload 4, 2) := by decide +kernel
theorem dX12_letter_76 : decode cX12_letter 76 = .ok (.iconst 1, 1) := by decide +kernel
theorem dX12_letter_77 : decode cX12_letter 77 = .ok (.iload_n 2, 1) := by decide +kernel
theorem dX12_letter_78 : decode cX12_letter 78 = .ok (.invokevirtual 572, 3) := by decide +kernel
theorem dX12_letter_81 : decode cX12_letter 81 = .ok (.iload 5, 2) := by decide +kernel
theorem dX12_letter_83 : decode cX12_letter 83 = .ok (.ireturn, 1) := by decide +kernel
theorem dX12_letter_84 : decode cX12_letter 84 = .ok (.iinc 3 1, 3) := by decide +kernel
theorem dX12_letter_87 : decode cX12_letter 87 = .ok (.goto (-67), 3) := by decide +kernel
theorem dX12_letter_90 : decode cX12_letter 90 = .ok (.aload_n 0, 1) := by decide +kernel
theorem dX12_letter_91 : decode cX12_letter 91 = .ok (.getfield 267, 3) := by decide +kernel
theorem dX12_letter_94 : decode cX12_letter 94 = .ok (.iload_n 1, 1) := by decide +kernel
theorem dX12_letter_95 : decode cX12_letter 95 = .ok (.iaload, 1) := by decide +kernel
theorem dX12_letter_96 : decode cX12_letter 96 = .ok (.bipush 50, 2) := by decide +kernel
theorem dX12_letter_98 : decode cX12_letter 98 = .ok (.if_icmp .ne 6, 3) := by decide +kernel
theorem dX12_letter_101 : decode cX12_letter 101 = .ok (.bipush (-2), 2) := by decide +kernel
theorem dX12_letter_103 : decode cX12_letter 103 = .ok (.ireturn, 1) := by decide +kernel
theorem dX12_letter_104 : decode cX12_letter 104 = .ok (.aload_n 0, 1) := by decide +kernel
theorem dX12_letter_105 : decode cX12_letter 105 = .ok (.getfield 270, 3) := by decide +kernel
theorem dX12_letter_108 : decode cX12_letter 108 = .ok (.bipush 50, 2) := by decide +kernel
theorem dX12_letter_110 : decode cX12_letter 110 = .ok (.iload_n 1, 1) := by decide +kernel
theorem dX12_letter_111 : decode cX12_letter 111 = .ok (.imul, 1) := by decide +kernel
theorem dX12_letter_112 : decode cX12_letter 112 = .ok (.aload_n 0, 1) := by decide +kernel
theorem dX12_letter_113 : decode cX12_letter 113 = .ok (.getfield 267, 3) := by decide +kernel
theorem dX12_letter_116 : decode cX12_letter 116 = .ok (.iload_n 1, 1) := by decide +kernel
theorem dX12_letter_117 : decode cX12_letter 117 = .ok (.iaload, 1) := by decide +kernel
theorem dX12_letter_118 : decode cX12_letter 118 = .ok (.iadd, 1) := by decide +kernel
theorem dX12_letter_119 : decode cX12_letter 119 = .ok (.iload_n 2, 1) := by decide +kernel
theorem dX12_letter_120 : decode cX12_letter 120 = .ok (.iastore, 1) := by decide +kernel
theorem dX12_letter_121 : decode cX12_letter 121 = .ok (.aload_n 0, 1) := by decide +kernel
theorem dX12_letter_122 : decode cX12_letter 122 = .ok (.getfield 267, 3) := by decide +kernel
theorem dX12_letter_125 : decode cX12_letter 125 = .ok (.iload_n 1, 1) := by decide +kernel
theorem dX12_letter_126 : decode cX12_letter 126 = .ok (.dup2, 1) := by decide +kernel
theorem dX12_letter_127 : decode cX12_letter 127 = .ok (.iaload, 1) := by decide +kernel
theorem dX12_letter_128 : decode cX12_letter 128 = .ok (.iconst 1, 1) := by decide +kernel
theorem dX12_letter_129 : decode cX12_letter 129 = .ok (.iadd, 1) := by decide +kernel
theorem dX12_letter_130 : decode cX12_letter 130 = .ok (.iastore, 1) := by decide +kernel
theorem dX12_letter_131 : decode cX12_letter 131 = .ok (.iconst (-1), 1) := by decide +kernel
theorem dX12_letter_132 : decode cX12_letter 132 = .ok (.ireturn, 1) := by decide +kernel
def wp_goFinished_91 (K : mS → Prop) (x1 : Int32) (x2 : Int32) (x3 : Int32) (x4 : Int32) (x5 : Int32) (S : mS) : Prop := inR x1 1000 ∧ ∀ z15 : Int32, z15 = S.2.1 38 (ix x1) → ((z15 = 0 → K S) ∧ (¬ z15 = 0 → wp_finishing x3 x4 x5 S (fun (S17 : mS) (r17 : Int32) => inR x5 1000 ∧ ∀ z18 : Int32, z18 = S17.2.1 44 (ix x5) → wp_goTo r17 z18 x2 S17 (fun (S19 : mS) => K S19))))
def wp_goFinished (a0 : Int32) (a1 : Int32) (S : mS) (K : mS → Prop) : Prop := inR a0 1000 ∧ ∀ z1 : Int32, z1 = S.2.1 25 (ix a0) → inR a0 1000 ∧ ∀ z2 : Int32, z2 = S.2.1 26 (ix a0) → inR a0 1000 ∧ ∀ z3 : Int32, z3 = S.2.1 27 (ix a0) → inR a0 1000 ∧ ∀ z4 : Int32, z4 = S.2.1 36 (ix a0) → wp_go z4 a1 S (fun (S5 : mS) => wp_failing z1 z2 S5 (fun (S6 : mS) (r6 : Int32) => wp_goTo r6 a1 a1 S6 (fun (S7 : mS) => wp_finishing z1 z2 (-1) S7 (fun (S8 : mS) (r8 : Int32) => wp_goTo r8 a1 a1 S8 (fun (S9 : mS) => inR a0 1000 ∧ ∀ z10 : Int32, z10 = S9.2.1 37 (ix a0) → ((z10 = 0 → wp_goFinished_91 K a0 a1 z1 z2 z3 S9) ∧ (¬ z10 = 0 → wp_finishing z1 z2 z3 S9 (fun (S12 : mS) (r12 : Int32) => inR z3 1000 ∧ ∀ z13 : Int32, z13 = S12.2.1 45 (ix z3) → wp_goTo r12 z13 a1 S12 (fun (S14 : mS) => wp_goFinished_91 K a0 a1 z1 z2 z3 S14)))))))))
theorem cw_X12_failing {R : Room} {s : State} {args : Array Value} {fr lo : Nat} (hts : ∀ w ∈ tb, w.before args s = true) (h1 : fr + 1 ≤ R.frames) (h2 : 8 + (5 + 11) + lo ≤ R.locals) : CallW R s args RX12 RX12 519 yX12_failing cX12_failing 5 (some .int) (.code yX12_failing cX12_failing 5 (some .int) :: tb) (mRm fr lo) 0 0 2 := cwV 2 hts (gd_V wd_1978 wd_1980 sl_X12_failing wd_15 wd_1981) rfl rfl rfl (by decide +kernel) ⟨h1, h2⟩
theorem cw_X12_goTo {R : Room} {s : State} {args : Array Value} {fr lo : Nat} (hts : ∀ w ∈ tb, w.before args s = true) (h1 : fr + 1 ≤ R.frames) (h2 : 8 + (4 + 11) + lo ≤ R.locals) : CallW R s args RX12 RX12 522 yX12_goTo cX12_goTo 4 none (.code yX12_goTo cX12_goTo 4 none :: tb) (mRm fr lo) 0 0 3 := cwV 3 hts (gd_V wd_1982 wd_1984 sl_X12_goTo wd_15 wd_1985) rfl rfl rfl (by decide +kernel) ⟨h1, h2⟩
theorem cw_X12_finishing {R : Room} {s : State} {args : Array Value} {fr lo : Nat} (hts : ∀ w ∈ tb, w.before args s = true) (h1 : fr + 1 ≤ R.frames) (h2 : 8 + (6 + 11) + lo ≤ R.locals) : CallW R s args RX12 RX12 526 yX12_finishing cX12_finishing 6 (some .int) (.code yX12_finishing cX12_finishing 6 (some .int) :: tb) (mRm fr lo) 0 0 3 := cwV 3 hts (gd_V wd_1986 wd_1988 sl_X12_finishing wd_15 wd_1989) rfl rfl rfl (by decide +kernel) ⟨h1, h2⟩
set_option maxHeartbeats 4000000 in
set_option maxRecDepth 100000 in
theorem ct_goFinished (l : Launch) (S : mS) (a0 : Int32) (a1 : Int32) (K : mS → Prop) (h : wp_goFinished a0 a1 S K) : mMv l yX12_goFinished cX12_goFinished 6 none 2 47 (fun E => [.int a0, .int a1]) S K := by
  refine mv_ofv (by decide) rfl (fun _ => Nat.le_of_ble_eq_true rfl) ?_
  intro E p e R s m args below meth c A ls Q hRf hRl hX hC hl hret
  have hx := hX.1.1
  have hb := hX.1.2.1
  have hown := hX.1.2.2.2.1
  have hts := hX.1.2.2.2.2
  have cut91 : ∀ (x1 : Int32) (x2 : Int32) (x3 : Int32) (x4 : Int32) (x5 : Int32) (S : mS) (H : Heap) (locs : List Loc) (ls : Array Slot), wp_goFinished_91 K x1 x2 x3 x4 x5 S → mC E A s.heap S H locs → lv_has ls 6 [(0, .ref E.2.1), (1, .int x1), (2, .int x2), (3, .int x3), (4, .int x4), (5, .int x5)] → W p l e R s m args below meth c H locs 0 0 Q (F0 m 91 ls []) := by
    intro x1 x2 x3 x4 x5 S H locs ls h hC hl
    unfold wp_goFinished_91 at h
    refine lv_aload_n hx hb dX12_goFinished_91 rfl (lv_at hl 0 rfl) ?_
    refine mv_get (v := .ref (E.2.2.1 38)) hX hC 49 (Nat.le_of_ble_eq_true rfl) wd_1449 rfl dX12_goFinished_92 ?_
    refine lv_iload_n hx hb dX12_goFinished_95 rfl (lv_at hl 1 rfl) ?_
    refine mq_zld (n := 1000) hX hC 38 rfl rfl dX12_goFinished_96 h (fun z15 h => ?_)
    refine lv_if_eq (tgt := 121) hx hb dX12_goFinished_97 (by decide) (fun c16 => ?_) (fun c16 => ?_)
    · have h := h.1 c16
      exact hret _ _ _ _ _ hC h dX12_goFinished_121
    · have h := h.2 c16
      refine lv_aload_n hx hb dX12_goFinished_100 rfl (lv_at hl 0 rfl) ?_
      refine lv_aload_n hx hb dX12_goFinished_101 rfl (lv_at hl 0 rfl) ?_
      refine lv_iload_n hx hb dX12_goFinished_102 rfl (lv_at hl 3 rfl) ?_
      refine lv_iload hx hb dX12_goFinished_103 (lv_at hl 4 rfl) ?_
      refine lv_iload hx hb dX12_goFinished_105 (lv_at hl 5 rfl) ?_
      refine mv_calli [.int x3, .int x4, .int x5] (rest := [.ref E.2.1]) hX hC (ct_finishing l S x3 x4 x5 _ h E _) (cw_X12_finishing hts (by omega) (by omega)) rfl hl.1 (Nat.le_of_ble_eq_true rfl) ⟨Nat.zero_le _, Nat.zero_le _⟩ dX12_goFinished_107 (fun r17 S17 H locs hC h => ?_)
      refine lv_aload_n hx hb dX12_goFinished_110 rfl (lv_at hl 0 rfl) ?_
      refine mv_get (v := .ref (E.2.2.1 44)) hX hC 56 (Nat.le_of_ble_eq_true rfl) wd_1456 rfl dX12_goFinished_111 ?_
      refine lv_iload hx hb dX12_goFinished_114 (lv_at hl 5 rfl) ?_
      refine mq_ild (n := 1000) hX hC 44 rfl rfl dX12_goFinished_116 h (fun z18 h => ?_)
      refine lv_iload_n hx hb dX12_goFinished_117 rfl (lv_at hl 2 rfl) ?_
      refine mv_callv [.int r17, .int z18, .int x2] (rest := []) hX hC (ct_goTo l S17 r17 z18 x2 _ h E _) (cw_X12_goTo hts (by omega) (by omega)) rfl hl.1 (Nat.le_of_ble_eq_true rfl) ⟨Nat.zero_le _, Nat.zero_le _⟩ dX12_goFinished_118 (fun S19 H locs hC h => ?_)
      exact hret _ _ _ _ _ hC h dX12_goFinished_121
  have hl : lv_has ls 6 [(0, .ref E.2.1), (1, .int a0), (2, .int a1)] := hl
  unfold wp_goFinished at h
  refine lv_aload_n hx hb dX12_goFinished_0 rfl (lv_at hl 0 rfl) ?_
  refine mv_get (v := .ref (E.2.2.1 25)) hX hC 36 (Nat.le_of_ble_eq_true rfl) wd_1436 rfl dX12_goFinished_1 ?_
  refine lv_iload_n hx hb dX12_goFinished_4 rfl (lv_at hl 1 rfl) ?_
  refine mq_ild (n := 1000) hX hC 25 rfl rfl dX12_goFinished_5 h (fun z1 h => ?_)
  refine lv_istore_n (lv' := [(3, .int z1), (0, .ref E.2.1), (1, .int a0), (2, .int a1)]) hx hb dX12_goFinished_6 rfl hl (by decide) rfl (fun ls hl => ?_)
  refine lv_aload_n hx hb dX12_goFinished_7 rfl (lv_at hl 1 rfl) ?_
  refine mv_get (v := .ref (E.2.2.1 26)) hX hC 37 (Nat.le_of_ble_eq_true rfl) wd_1437 rfl dX12_goFinished_8 ?_
  refine lv_iload_n hx hb dX12_goFinished_11 rfl (lv_at hl 2 rfl) ?_
  refine mq_ild (n := 1000) hX hC 26 rfl rfl dX12_goFinished_12 h (fun z2 h => ?_)
  refine lv_istore (lv' := [(4, .int z2), (3, .int z1), (0, .ref E.2.1), (1, .int a0), (2, .int a1)]) hx hb dX12_goFinished_13 hl (by decide) rfl (fun ls hl => ?_)
  refine lv_aload_n hx hb dX12_goFinished_15 rfl (lv_at hl 2 rfl) ?_
  refine mv_get (v := .ref (E.2.2.1 27)) hX hC 38 (Nat.le_of_ble_eq_true rfl) wd_1438 rfl dX12_goFinished_16 ?_
  refine lv_iload_n hx hb dX12_goFinished_19 rfl (lv_at hl 3 rfl) ?_
  refine mq_ild (n := 1000) hX hC 27 rfl rfl dX12_goFinished_20 h (fun z3 h => ?_)
  refine lv_istore (lv' := [(5, .int z3), (4, .int z2), (3, .int z1), (0, .ref E.2.1), (1, .int a0), (2, .int a1)]) hx hb dX12_goFinished_21 hl (by decide) rfl (fun ls hl => ?_)
  refine lv_aload_n hx hb dX12_goFinished_23 rfl (lv_at hl 3 rfl) ?_
  refine lv_aload_n hx hb dX12_goFinished_24 rfl (lv_at hl 3 rfl) ?_
  refine mv_get (v := .ref (E.2.2.1 36)) hX hC 47 (Nat.le_of_ble_eq_true rfl) wd_1447 rfl dX12_goFinished_25 ?_
  refine lv_iload_n hx hb dX12_goFinished_28 rfl (lv_at hl 4 rfl) ?_
  refine mq_ild (n := 1000) hX hC 36 rfl rfl dX12_goFinished_29 h (fun z4 h => ?_)
  refine lv_iload_n hx hb dX12_goFinished_30 rfl (lv_at hl 5 rfl) ?_
  refine mv_callv [.int z4, .int a1] (rest := []) hX hC (ct_go l S z4 a1 _ h E _) (cw_X12_go hts (by omega) (by omega)) rfl hl.1 (Nat.le_of_ble_eq_true rfl) ⟨Nat.zero_le _, Nat.zero_le _⟩ dX12_goFinished_31 (fun S5 H locs hC h => ?_)
  refine lv_aload_n hx hb dX12_goFinished_34 rfl (lv_at hl 3 rfl) ?_
  refine lv_aload_n hx hb dX12_goFinished_35 rfl (lv_at hl 3 rfl) ?_
  refine lv_iload_n hx hb dX12_goFinished_36 rfl (lv_at hl 2 rfl) ?_
  refine lv_iload hx hb dX12_goFinished_37 (lv_at hl 1 rfl) ?_
  refine mv_calli [.int z1, .int z2] (rest := [.ref E.2.1]) hX hC (ct_failing l S5 z1 z2 _ h E _) (cw_X12_failing hts (by omega) (by omega)) rfl hl.1 (Nat.le_of_ble_eq_true rfl) ⟨Nat.zero_le _, Nat.zero_le _⟩ dX12_goFinished_39 (fun r6 S6 H locs hC h => ?_)
  refine lv_iload_n hx hb dX12_goFinished_42 rfl (lv_at hl 5 rfl) ?_
  refine lv_iload_n hx hb dX12_goFinished_43 rfl (lv_at hl 5 rfl) ?_
  refine mv_callv [.int r6, .int a1, .int a1] (rest := []) hX hC (ct_goTo l S6 r6 a1 a1 _ h E _) (cw_X12_goTo hts (by omega) (by omega)) rfl hl.1 (Nat.le_of_ble_eq_true rfl) ⟨Nat.zero_le _, Nat.zero_le _⟩ dX12_goFinished_44 (fun S7 H locs hC h => ?_)
  refine lv_aload_n hx hb dX12_goFinished_47 rfl (lv_at hl 3 rfl) ?_
  refine lv_aload_n hx hb dX12_goFinished_48 rfl (lv_at hl 3 rfl) ?_
  refine lv_iload_n hx hb dX12_goFinished_49 rfl (lv_at hl 2 rfl) ?_
  refine lv_iload hx hb dX12_goFinished_50 (lv_at hl 1 rfl) ?_
  refine lv_iconst (v := -1) hx hb dX12_goFinished_52 (by decide) ?_
  refine mv_calli [.int z1, .int z2, .int (-1)] (rest := [.ref E.2.1]) hX hC (ct_finishing l S7 z1 z2 (-1) _ h E _) (cw_X12_finishing hts (by omega) (by omega)) rfl hl.1 (Nat.le_of_ble_eq_true rfl) ⟨Nat.zero_le _, Nat.zero_le _⟩ dX12_goFinished_53 (fun r8 S8 H locs hC h => ?_)
  refine lv_iload_n hx hb dX12_goFinished_56 rfl (lv_at hl 5 rfl) ?_
  refine lv_iload_n hx hb dX12_goFinished_57 rfl (lv_at hl 5 rfl) ?_
  refine mv_callv [.int r8, .int a1, .int a1] (rest := []) hX hC (ct_goTo l S8 r8 a1 a1 _ h E _) (cw_X12_goTo hts (by omega) (by omega)) rfl hl.1 (Nat.le_of_ble_eq_true rfl) ⟨Nat.zero_le _, Nat.zero_le _⟩ dX12_goFinished_58 (fun S9 H locs hC h => ?_)
  refine lv_aload_n hx hb dX12_goFinished_61 rfl (lv_at hl 3 rfl) ?_
  refine mv_get (v := .ref (E.2.2.1 37)) hX hC 48 (Nat.le_of_ble_eq_true rfl) wd_1448 rfl dX12_goFinished_62 ?_
  refine lv_iload_n hx hb dX12_goFinished_65 rfl (lv_at hl 4 rfl) ?_
  refine mq_zld (n := 1000) hX hC 37 rfl rfl dX12_goFinished_66 h (fun z10 h => ?_)
  refine lv_if_eq (tgt := 91) hx hb dX12_goFinished_67 (by decide) (fun c11 => ?_) (fun c11 => ?_)
  · have h := h.1 c11
    exact cut91 a0 a1 z1 z2 z3 S9 _ _ _ h hC (lv_sub hl [3, 4, 5, 2, 1, 0] rfl)
  · have h := h.2 c11
    refine lv_aload_n hx hb dX12_goFinished_70 rfl (lv_at hl 3 rfl) ?_
    refine lv_aload_n hx hb dX12_goFinished_71 rfl (lv_at hl 3 rfl) ?_
    refine lv_iload_n hx hb dX12_goFinished_72 rfl (lv_at hl 2 rfl) ?_
    refine lv_iload hx hb dX12_goFinished_73 (lv_at hl 1 rfl) ?_
    refine lv_iload hx hb dX12_goFinished_75 (lv_at hl 0 rfl) ?_
    refine mv_calli [.int z1, .int z2, .int z3] (rest := [.ref E.2.1]) hX hC (ct_finishing l S9 z1 z2 z3 _ h E _) (cw_X12_finishing hts (by omega) (by omega)) rfl hl.1 (Nat.le_of_ble_eq_true rfl) ⟨Nat.zero_le _, Nat.zero_le _⟩ dX12_goFinished_77 (fun r12 S12 H locs hC h => ?_)
    refine lv_aload_n hx hb dX12_goFinished_80 rfl (lv_at hl 3 rfl) ?_
    refine mv_get (v := .ref (E.2.2.1 45)) hX hC 57 (Nat.le_of_ble_eq_true rfl) wd_1457 rfl dX12_goFinished_81 ?_
    refine lv_iload hx hb dX12_goFinished_84 (lv_at hl 0 rfl) ?_
    refine mq_ild (n := 1000) hX hC 45 rfl rfl dX12_goFinished_86 h (fun z13 h => ?_)
    refine lv_iload_n hx hb dX12_goFinished_87 rfl (lv_at hl 5 rfl) ?_
    refine mv_callv [.int r12, .int z13, .int a1] (rest := []) hX hC (ct_goTo l S12 r12 z13 a1 _ h E _) (cw_X12_goTo hts (by omega) (by omega)) rfl hl.1 (Nat.le_of_ble_eq_true rfl) ⟨Nat.zero_le _, Nat.zero_le _⟩ dX12_goFinished_88 (fun S14 H locs hC h => ?_)
    exact cut91 a0 a1 z1 z2 z3 S14 _ _ _ h hC (lv_sub hl [3, 4, 5, 2, 1, 0] rfl)
def wp_goOn_242 (K : mS → Prop) (x1 : Int32) (x2 : Int32) (S : mS) : Prop := inR x1 24000 ∧ ∀ z38 : Int32, z38 = S.2.1 18 (ix x1) → ((z38 < 0 → K S) ∧ (¬ z38 < 0 → inR x1 24000 ∧ ∀ z40 : Int32, z40 = S.2.1 18 (ix x1) → wp_go z40 x2 S (fun (S41 : mS) => K S41)))
def wp_goOn (a0 : Int32) (a1 : Int32) (S : mS) (K : mS → Prop) : Prop := inR a0 24000 ∧ ∀ z1 : Int32, z1 = S.2.1 19 (ix a0) → inR a0 24000 ∧ ∀ z2 : Int32, z2 = S.2.1 20 (ix a0) → inR a0 24000 ∧ ∀ z3 : Int32, z3 = S.2.1 16 (ix a0) → inR a0 24000 ∧ ∀ z4 : Int32, z4 = S.2.1 15 (ix a0) → ((z4 = 3 → inR a0 24000 ∧ ∀ z6 : Int32, z6 = S.2.1 17 (ix a0) → wp_go z6 a1 S (fun (S7 : mS) => wp_failing z1 z2 S7 (fun (S8 : mS) (r8 : Int32) => wp_goTo r8 a1 a1 S8 (fun (S9 : mS) => wp_finishing z1 z2 (-1) S9 (fun (S10 : mS) (r10 : Int32) => wp_goTo r10 a1 a1 S10 (fun (S11 : mS) => K S11)))))) ∧ (¬ z4 = 3 → ((z4 = 4 → inR a0 24000 ∧ ∀ z13 : Int32, z13 = S.2.1 17 (ix a0) → wp_go z13 a1 S (fun (S14 : mS) => wp_failing z1 z2 S14 (fun (S15 : mS) (r15 : Int32) => wp_goTo r15 a1 a1 S15 (fun (S16 : mS) => K S16)))) ∧ (¬ z4 = 4 → ((z4 = 5 → wp_failing z1 z2 S (fun (S18 : mS) (r18 : Int32) => wp_goTo r18 a1 a1 S18 (fun (S19 : mS) => K S19))) ∧ (¬ z4 = 5 → ((z4 = 6 → K S) ∧ (¬ z4 = 6 → ((z4 = 7 → wp_goFinished z3 a1 S (fun (S22 : mS) => K S22)) ∧ (¬ z4 = 7 → ((z4 = 8 → wp_finishing z1 z2 z3 S (fun (S24 : mS) (r24 : Int32) => inR z3 1000 ∧ ∀ z25 : Int32, z25 = S24.2.1 45 (ix z3) → wp_goTo r24 z25 a1 S24 (fun (S26 : mS) => K S26))) ∧ (¬ z4 = 8 → ((z4 = 9 → wp_finishing z1 z2 z3 S (fun (S28 : mS) (r28 : Int32) => inR z3 1000 ∧ ∀ z29 : Int32, z29 = S28.2.1 44 (ix z3) → wp_goTo r28 z29 a1 S28 (fun (S30 : mS) => K S30))) ∧ (¬ z4 = 9 → ((z4 = 10 → wp_finishing z1 z2 (-1) S (fun (S32 : mS) (r32 : Int32) => wp_goTo r32 a1 a1 S32 (fun (S33 : mS) => K S33))) ∧ (¬ z4 = 10 → inR a0 24000 ∧ ∀ z34 : Int32, z34 = S.2.1 17 (ix a0) → ((z34 < 0 → wp_goOn_242 K a0 a1 S) ∧ (¬ z34 < 0 → inR a0 24000 ∧ ∀ z36 : Int32, z36 = S.2.1 17 (ix a0) → wp_go z36 a1 S (fun (S37 : mS) => wp_goOn_242 K a0 a1 S37)))))))))))))))))))
theorem cw_X12_goFinished {R : Room} {s : State} {args : Array Value} {fr lo : Nat} (hts : ∀ w ∈ tb, w.before args s = true) (h1 : fr + 1 ≤ R.frames) (h2 : 8 + (6 + 11) + lo ≤ R.locals) : CallW R s args RX12 RX12 529 yX12_goFinished cX12_goFinished 6 none (.code yX12_goFinished cX12_goFinished 6 none :: tb) (mRm fr lo) 0 0 2 := cwV 2 hts (gd_V wd_1990 wd_1992 sl_X12_goFinished wd_15 wd_1993) rfl rfl rfl (by decide +kernel) ⟨h1, h2⟩
set_option maxHeartbeats 4000000 in
set_option maxRecDepth 100000 in
theorem ct_goOn (l : Launch) (S : mS) (a0 : Int32) (a1 : Int32) (K : mS → Prop) (h : wp_goOn a0 a1 S K) : mMv l yX12_goOn cX12_goOn 6 none 3 72 (fun E => [.int a0, .int a1]) S K := by
  refine mv_ofv (by decide) rfl (fun _ => Nat.le_of_ble_eq_true rfl) ?_
  intro E p e R s m args below meth c A ls Q hRf hRl hX hC hl hret
  have hx := hX.1.1
  have hb := hX.1.2.1
  have hown := hX.1.2.2.2.1
  have hts := hX.1.2.2.2.2
  have cut242 : ∀ (x1 : Int32) (x2 : Int32) (S : mS) (H : Heap) (locs : List Loc) (ls : Array Slot), wp_goOn_242 K x1 x2 S → mC E A s.heap S H locs → lv_has ls 6 [(0, .ref E.2.1), (1, .int x1), (2, .int x2)] → W p l e R s m args below meth c H locs 0 0 Q (F0 m 242 ls []) := by
    intro x1 x2 S H locs ls h hC hl
    unfold wp_goOn_242 at h
    refine lv_aload_n hx hb dX12_goOn_242 rfl (lv_at hl 0 rfl) ?_
    refine mv_get (v := .ref (E.2.2.1 18)) hX hC 27 (Nat.le_of_ble_eq_true rfl) wd_1427 rfl dX12_goOn_243 ?_
    refine lv_iload_n hx hb dX12_goOn_246 rfl (lv_at hl 1 rfl) ?_
    refine mq_ild (n := 24000) hX hC 18 rfl rfl dX12_goOn_247 h (fun z38 h => ?_)
    refine lv_if_lt (tgt := 262) hx hb dX12_goOn_248 (by decide) (fun c39 => ?_) (fun c39 => ?_)
    · have h := h.1 c39
      exact hret _ _ _ _ _ hC h dX12_goOn_262
    · have h := h.2 c39
      refine lv_aload_n hx hb dX12_goOn_251 rfl (lv_at hl 0 rfl) ?_
      refine lv_aload_n hx hb dX12_goOn_252 rfl (lv_at hl 0 rfl) ?_
      refine mv_get (v := .ref (E.2.2.1 18)) hX hC 27 (Nat.le_of_ble_eq_true rfl) wd_1427 rfl dX12_goOn_253 ?_
      refine lv_iload_n hx hb dX12_goOn_256 rfl (lv_at hl 1 rfl) ?_
      refine mq_ild (n := 24000) hX hC 18 rfl rfl dX12_goOn_257 h (fun z40 h => ?_)
      refine lv_iload_n hx hb dX12_goOn_258 rfl (lv_at hl 2 rfl) ?_
      refine mv_callv [.int z40, .int x2] (rest := []) hX hC (ct_go l S z40 x2 _ h E _) (cw_X12_go hts (by omega) (by omega)) rfl hl.1 (Nat.le_of_ble_eq_true rfl) ⟨Nat.zero_le _, Nat.zero_le _⟩ dX12_goOn_259 (fun S41 H locs hC h => ?_)
      exact hret _ _ _ _ _ hC h dX12_goOn_262
  have hl : lv_has ls 6 [(0, .ref E.2.1), (1, .int a0), (2, .int a1)] := hl
  unfold wp_goOn at h
  refine lv_aload_n hx hb dX12_goOn_0 rfl (lv_at hl 0 rfl) ?_
  refine mv_get (v := .ref (E.2.2.1 19)) hX hC 28 (Nat.le_of_ble_eq_true rfl) wd_1428 rfl dX12_goOn_1 ?_
  refine lv_iload_n hx hb dX12_goOn_4 rfl (lv_at hl 1 rfl) ?_
  refine mq_ild (n := 24000) hX hC 19 rfl rfl dX12_goOn_5 h (fun z1 h => ?_)
  refine lv_istore_n (lv' := [(3, .int z1), (0, .ref E.2.1), (1, .int a0), (2, .int a1)]) hx hb dX12_goOn_6 rfl hl (by decide) rfl (fun ls hl => ?_)
  refine lv_aload_n hx hb dX12_goOn_7 rfl (lv_at hl 1 rfl) ?_
  refine mv_get (v := .ref (E.2.2.1 20)) hX hC 29 (Nat.le_of_ble_eq_true rfl) wd_1429 rfl dX12_goOn_8 ?_
  refine lv_iload_n hx hb dX12_goOn_11 rfl (lv_at hl 2 rfl) ?_
  refine mq_ild (n := 24000) hX hC 20 rfl rfl dX12_goOn_12 h (fun z2 h => ?_)
  refine lv_istore (lv' := [(4, .int z2), (3, .int z1), (0, .ref E.2.1), (1, .int a0), (2, .int a1)]) hx hb dX12_goOn_13 hl (by decide) rfl (fun ls hl => ?_)
  refine lv_aload_n hx hb dX12_goOn_15 rfl (lv_at hl 2 rfl) ?_
  refine mv_get (v := .ref (E.2.2.1 16)) hX hC 25 (Nat.le_of_ble_eq_true rfl) wd_1425 rfl dX12_goOn_16 ?_
  refine lv_iload_n hx hb dX12_goOn_19 rfl (lv_at hl 3 rfl) ?_
  refine mq_ild (n := 24000) hX hC 16 rfl rfl dX12_goOn_20 h (fun z3 h => ?_)
  refine lv_istore (lv' := [(5, .int z3), (4, .int z2), (3, .int z1), (0, .ref E.2.1), (1, .int a0), (2, .int a1)]) hx hb dX12_goOn_21 hl (by decide) rfl (fun ls hl => ?_)
  refine lv_aload_n hx hb dX12_goOn_23 rfl (lv_at hl 3 rfl) ?_
  refine mv_get (v := .ref (E.2.2.1 15)) hX hC 24 (Nat.le_of_ble_eq_true rfl) wd_1424 rfl dX12_goOn_24 ?_
  refine lv_iload_n hx hb dX12_goOn_27 rfl (lv_at hl 4 rfl) ?_
  refine mq_ild (n := 24000) hX hC 15 rfl rfl dX12_goOn_28 h (fun z4 h => ?_)
  rcases Decidable.em (z4 = 3) with c5 | c5
  · have h := h.1 c5
    refine lv_tableIn (tgt := 77) hx hb dX12_goOn_29 (by rw [c5]; decide) (by rw [c5]; decide) (by rw [c5]; rfl) (by decide) ?_
    refine lv_aload_n hx hb dX12_goOn_77 rfl (lv_at hl 3 rfl) ?_
    refine lv_aload_n hx hb dX12_goOn_78 rfl (lv_at hl 3 rfl) ?_
    refine mv_get (v := .ref (E.2.2.1 17)) hX hC 26 (Nat.le_of_ble_eq_true rfl) wd_1426 rfl dX12_goOn_79 ?_
    refine lv_iload_n hx hb dX12_goOn_82 rfl (lv_at hl 4 rfl) ?_
    refine mq_ild (n := 24000) hX hC 17 rfl rfl dX12_goOn_83 h (fun z6 h => ?_)
    refine lv_iload_n hx hb dX12_goOn_84 rfl (lv_at hl 5 rfl) ?_
    refine mv_callv [.int z6, .int a1] (rest := []) hX hC (ct_go l S z6 a1 _ h E _) (cw_X12_go hts (by omega) (by omega)) rfl hl.1 (Nat.le_of_ble_eq_true rfl) ⟨Nat.zero_le _, Nat.zero_le _⟩ dX12_goOn_85 (fun S7 H locs hC h => ?_)
    refine lv_aload_n hx hb dX12_goOn_88 rfl (lv_at hl 3 rfl) ?_
    refine lv_aload_n hx hb dX12_goOn_89 rfl (lv_at hl 3 rfl) ?_
    refine lv_iload_n hx hb dX12_goOn_90 rfl (lv_at hl 2 rfl) ?_
    refine lv_iload hx hb dX12_goOn_91 (lv_at hl 1 rfl) ?_
    refine mv_calli [.int z1, .int z2] (rest := [.ref E.2.1]) hX hC (ct_failing l S7 z1 z2 _ h E _) (cw_X12_failing hts (by omega) (by omega)) rfl hl.1 (Nat.le_of_ble_eq_true rfl) ⟨Nat.zero_le _, Nat.zero_le _⟩ dX12_goOn_93 (fun r8 S8 H locs hC h => ?_)
    refine lv_iload_n hx hb dX12_goOn_96 rfl (lv_at hl 5 rfl) ?_
    refine lv_iload_n hx hb dX12_goOn_97 rfl (lv_at hl 5 rfl) ?_
    refine mv_callv [.int r8, .int a1, .int a1] (rest := []) hX hC (ct_goTo l S8 r8 a1 a1 _ h E _) (cw_X12_goTo hts (by omega) (by omega)) rfl hl.1 (Nat.le_of_ble_eq_true rfl) ⟨Nat.zero_le _, Nat.zero_le _⟩ dX12_goOn_98 (fun S9 H locs hC h => ?_)
    refine lv_aload_n hx hb dX12_goOn_101 rfl (lv_at hl 3 rfl) ?_
    refine lv_aload_n hx hb dX12_goOn_102 rfl (lv_at hl 3 rfl) ?_
    refine lv_iload_n hx hb dX12_goOn_103 rfl (lv_at hl 2 rfl) ?_
    refine lv_iload hx hb dX12_goOn_104 (lv_at hl 1 rfl) ?_
    refine lv_iconst (v := -1) hx hb dX12_goOn_106 (by decide) ?_
    refine mv_calli [.int z1, .int z2, .int (-1)] (rest := [.ref E.2.1]) hX hC (ct_finishing l S9 z1 z2 (-1) _ h E _) (cw_X12_finishing hts (by omega) (by omega)) rfl hl.1 (Nat.le_of_ble_eq_true rfl) ⟨Nat.zero_le _, Nat.zero_le _⟩ dX12_goOn_107 (fun r10 S10 H locs hC h => ?_)
    refine lv_iload_n hx hb dX12_goOn_110 rfl (lv_at hl 5 rfl) ?_
    refine lv_iload_n hx hb dX12_goOn_111 rfl (lv_at hl 5 rfl) ?_
    refine mv_callv [.int r10, .int a1, .int a1] (rest := []) hX hC (ct_goTo l S10 r10 a1 a1 _ h E _) (cw_X12_goTo hts (by omega) (by omega)) rfl hl.1 (Nat.le_of_ble_eq_true rfl) ⟨Nat.zero_le _, Nat.zero_le _⟩ dX12_goOn_112 (fun S11 H locs hC h => ?_)
    exact hret _ _ _ _ _ hC h dX12_goOn_115
  have h := h.2 c5
  rcases Decidable.em (z4 = 4) with c12 | c12
  · have h := h.1 c12
    refine lv_tableIn (tgt := 116) hx hb dX12_goOn_29 (by rw [c12]; decide) (by rw [c12]; decide) (by rw [c12]; rfl) (by decide) ?_
    refine lv_aload_n hx hb dX12_goOn_116 rfl (lv_at hl 3 rfl) ?_
    refine lv_aload_n hx hb dX12_goOn_117 rfl (lv_at hl 3 rfl) ?_
    refine mv_get (v := .ref (E.2.2.1 17)) hX hC 26 (Nat.le_of_ble_eq_true rfl) wd_1426 rfl dX12_goOn_118 ?_
    refine lv_iload_n hx hb dX12_goOn_121 rfl (lv_at hl 4 rfl) ?_
    refine mq_ild (n := 24000) hX hC 17 rfl rfl dX12_goOn_122 h (fun z13 h => ?_)
    refine lv_iload_n hx hb dX12_goOn_123 rfl (lv_at hl 5 rfl) ?_
    refine mv_callv [.int z13, .int a1] (rest := []) hX hC (ct_go l S z13 a1 _ h E _) (cw_X12_go hts (by omega) (by omega)) rfl hl.1 (Nat.le_of_ble_eq_true rfl) ⟨Nat.zero_le _, Nat.zero_le _⟩ dX12_goOn_124 (fun S14 H locs hC h => ?_)
    refine lv_aload_n hx hb dX12_goOn_127 rfl (lv_at hl 3 rfl) ?_
    refine lv_aload_n hx hb dX12_goOn_128 rfl (lv_at hl 3 rfl) ?_
    refine lv_iload_n hx hb dX12_goOn_129 rfl (lv_at hl 2 rfl) ?_
    refine lv_iload hx hb dX12_goOn_130 (lv_at hl 1 rfl) ?_
    refine mv_calli [.int z1, .int z2] (rest := [.ref E.2.1]) hX hC (ct_failing l S14 z1 z2 _ h E _) (cw_X12_failing hts (by omega) (by omega)) rfl hl.1 (Nat.le_of_ble_eq_true rfl) ⟨Nat.zero_le _, Nat.zero_le _⟩ dX12_goOn_132 (fun r15 S15 H locs hC h => ?_)
    refine lv_iload_n hx hb dX12_goOn_135 rfl (lv_at hl 5 rfl) ?_
    refine lv_iload_n hx hb dX12_goOn_136 rfl (lv_at hl 5 rfl) ?_
    refine mv_callv [.int r15, .int a1, .int a1] (rest := []) hX hC (ct_goTo l S15 r15 a1 a1 _ h E _) (cw_X12_goTo hts (by omega) (by omega)) rfl hl.1 (Nat.le_of_ble_eq_true rfl) ⟨Nat.zero_le _, Nat.zero_le _⟩ dX12_goOn_137 (fun S16 H locs hC h => ?_)
    exact hret _ _ _ _ _ hC h dX12_goOn_140
  have h := h.2 c12
  rcases Decidable.em (z4 = 5) with c17 | c17
  · have h := h.1 c17
    refine lv_tableIn (tgt := 141) hx hb dX12_goOn_29 (by rw [c17]; decide) (by rw [c17]; decide) (by rw [c17]; rfl) (by decide) ?_
    refine lv_aload_n hx hb dX12_goOn_141 rfl (lv_at hl 3 rfl) ?_
    refine lv_aload_n hx hb dX12_goOn_142 rfl (lv_at hl 3 rfl) ?_
    refine lv_iload_n hx hb dX12_goOn_143 rfl (lv_at hl 2 rfl) ?_
    refine lv_iload hx hb dX12_goOn_144 (lv_at hl 1 rfl) ?_
    refine mv_calli [.int z1, .int z2] (rest := [.ref E.2.1]) hX hC (ct_failing l S z1 z2 _ h E _) (cw_X12_failing hts (by omega) (by omega)) rfl hl.1 (Nat.le_of_ble_eq_true rfl) ⟨Nat.zero_le _, Nat.zero_le _⟩ dX12_goOn_146 (fun r18 S18 H locs hC h => ?_)
    refine lv_iload_n hx hb dX12_goOn_149 rfl (lv_at hl 5 rfl) ?_
    refine lv_iload_n hx hb dX12_goOn_150 rfl (lv_at hl 5 rfl) ?_
    refine mv_callv [.int r18, .int a1, .int a1] (rest := []) hX hC (ct_goTo l S18 r18 a1 a1 _ h E _) (cw_X12_goTo hts (by omega) (by omega)) rfl hl.1 (Nat.le_of_ble_eq_true rfl) ⟨Nat.zero_le _, Nat.zero_le _⟩ dX12_goOn_151 (fun S19 H locs hC h => ?_)
    exact hret _ _ _ _ _ hC h dX12_goOn_154
  have h := h.2 c17
  rcases Decidable.em (z4 = 6) with c20 | c20
  · have h := h.1 c20
    refine lv_tableIn (tgt := 76) hx hb dX12_goOn_29 (by rw [c20]; decide) (by rw [c20]; decide) (by rw [c20]; rfl) (by decide) ?_
    exact hret _ _ _ _ _ hC h dX12_goOn_76
  have h := h.2 c20
  rcases Decidable.em (z4 = 7) with c21 | c21
  · have h := h.1 c21
    refine lv_tableIn (tgt := 214) hx hb dX12_goOn_29 (by rw [c21]; decide) (by rw [c21]; decide) (by rw [c21]; rfl) (by decide) ?_
    refine lv_aload_n hx hb dX12_goOn_214 rfl (lv_at hl 3 rfl) ?_
    refine lv_iload hx hb dX12_goOn_215 (lv_at hl 0 rfl) ?_
    refine lv_iload_n hx hb dX12_goOn_217 rfl (lv_at hl 5 rfl) ?_
    refine mv_callv [.int z3, .int a1] (rest := []) hX hC (ct_goFinished l S z3 a1 _ h E _) (cw_X12_goFinished hts (by omega) (by omega)) rfl hl.1 (Nat.le_of_ble_eq_true rfl) ⟨Nat.zero_le _, Nat.zero_le _⟩ dX12_goOn_218 (fun S22 H locs hC h => ?_)
    exact hret _ _ _ _ _ hC h dX12_goOn_221
  have h := h.2 c21
  rcases Decidable.em (z4 = 8) with c23 | c23
  · have h := h.1 c23
    refine lv_tableIn (tgt := 155) hx hb dX12_goOn_29 (by rw [c23]; decide) (by rw [c23]; decide) (by rw [c23]; rfl) (by decide) ?_
    refine lv_aload_n hx hb dX12_goOn_155 rfl (lv_at hl 3 rfl) ?_
    refine lv_aload_n hx hb dX12_goOn_156 rfl (lv_at hl 3 rfl) ?_
    refine lv_iload_n hx hb dX12_goOn_157 rfl (lv_at hl 2 rfl) ?_
    refine lv_iload hx hb dX12_goOn_158 (lv_at hl 1 rfl) ?_
    refine lv_iload hx hb dX12_goOn_160 (lv_at hl 0 rfl) ?_
    refine mv_calli [.int z1, .int z2, .int z3] (rest := [.ref E.2.1]) hX hC (ct_finishing l S z1 z2 z3 _ h E _) (cw_X12_finishing hts (by omega) (by omega)) rfl hl.1 (Nat.le_of_ble_eq_true rfl) ⟨Nat.zero_le _, Nat.zero_le _⟩ dX12_goOn_162 (fun r24 S24 H locs hC h => ?_)
    refine lv_aload_n hx hb dX12_goOn_165 rfl (lv_at hl 3 rfl) ?_
    refine mv_get (v := .ref (E.2.2.1 45)) hX hC 57 (Nat.le_of_ble_eq_true rfl) wd_1457 rfl dX12_goOn_166 ?_
    refine lv_iload hx hb dX12_goOn_169 (lv_at hl 0 rfl) ?_
    refine mq_ild (n := 1000) hX hC 45 rfl rfl dX12_goOn_171 h (fun z25 h => ?_)
    refine lv_iload_n hx hb dX12_goOn_172 rfl (lv_at hl 5 rfl) ?_
    refine mv_callv [.int r24, .int z25, .int a1] (rest := []) hX hC (ct_goTo l S24 r24 z25 a1 _ h E _) (cw_X12_goTo hts (by omega) (by omega)) rfl hl.1 (Nat.le_of_ble_eq_true rfl) ⟨Nat.zero_le _, Nat.zero_le _⟩ dX12_goOn_173 (fun S26 H locs hC h => ?_)
    exact hret _ _ _ _ _ hC h dX12_goOn_176
  have h := h.2 c23
  rcases Decidable.em (z4 = 9) with c27 | c27
  · have h := h.1 c27
    refine lv_tableIn (tgt := 177) hx hb dX12_goOn_29 (by rw [c27]; decide) (by rw [c27]; decide) (by rw [c27]; rfl) (by decide) ?_
    refine lv_aload_n hx hb dX12_goOn_177 rfl (lv_at hl 3 rfl) ?_
    refine lv_aload_n hx hb dX12_goOn_178 rfl (lv_at hl 3 rfl) ?_
    refine lv_iload_n hx hb dX12_goOn_179 rfl (lv_at hl 2 rfl) ?_
    refine lv_iload hx hb dX12_goOn_180 (lv_at hl 1 rfl) ?_
    refine lv_iload hx hb dX12_goOn_182 (lv_at hl 0 rfl) ?_
    refine mv_calli [.int z1, .int z2, .int z3] (rest := [.ref E.2.1]) hX hC (ct_finishing l S z1 z2 z3 _ h E _) (cw_X12_finishing hts (by omega) (by omega)) rfl hl.1 (Nat.le_of_ble_eq_true rfl) ⟨Nat.zero_le _, Nat.zero_le _⟩ dX12_goOn_184 (fun r28 S28 H locs hC h => ?_)
    refine lv_aload_n hx hb dX12_goOn_187 rfl (lv_at hl 3 rfl) ?_
    refine mv_get (v := .ref (E.2.2.1 44)) hX hC 56 (Nat.le_of_ble_eq_true rfl) wd_1456 rfl dX12_goOn_188 ?_
    refine lv_iload hx hb dX12_goOn_191 (lv_at hl 0 rfl) ?_
    refine mq_ild (n := 1000) hX hC 44 rfl rfl dX12_goOn_193 h (fun z29 h => ?_)
    refine lv_iload_n hx hb dX12_goOn_194 rfl (lv_at hl 5 rfl) ?_
    refine mv_callv [.int r28, .int z29, .int a1] (rest := []) hX hC (ct_goTo l S28 r28 z29 a1 _ h E _) (cw_X12_goTo hts (by omega) (by omega)) rfl hl.1 (Nat.le_of_ble_eq_true rfl) ⟨Nat.zero_le _, Nat.zero_le _⟩ dX12_goOn_195 (fun S30 H locs hC h => ?_)
    exact hret _ _ _ _ _ hC h dX12_goOn_198
  have h := h.2 c27
  rcases Decidable.em (z4 = 10) with c31 | c31
  · have h := h.1 c31
    refine lv_tableIn (tgt := 199) hx hb dX12_goOn_29 (by rw [c31]; decide) (by rw [c31]; decide) (by rw [c31]; rfl) (by decide) ?_
    refine lv_aload_n hx hb dX12_goOn_199 rfl (lv_at hl 3 rfl) ?_
    refine lv_aload_n hx hb dX12_goOn_200 rfl (lv_at hl 3 rfl) ?_
    refine lv_iload_n hx hb dX12_goOn_201 rfl (lv_at hl 2 rfl) ?_
    refine lv_iload hx hb dX12_goOn_202 (lv_at hl 1 rfl) ?_
    refine lv_iconst (v := -1) hx hb dX12_goOn_204 (by decide) ?_
    refine mv_calli [.int z1, .int z2, .int (-1)] (rest := [.ref E.2.1]) hX hC (ct_finishing l S z1 z2 (-1) _ h E _) (cw_X12_finishing hts (by omega) (by omega)) rfl hl.1 (Nat.le_of_ble_eq_true rfl) ⟨Nat.zero_le _, Nat.zero_le _⟩ dX12_goOn_205 (fun r32 S32 H locs hC h => ?_)
    refine lv_iload_n hx hb dX12_goOn_208 rfl (lv_at hl 5 rfl) ?_
    refine lv_iload_n hx hb dX12_goOn_209 rfl (lv_at hl 5 rfl) ?_
    refine mv_callv [.int r32, .int a1, .int a1] (rest := []) hX hC (ct_goTo l S32 r32 a1 a1 _ h E _) (cw_X12_goTo hts (by omega) (by omega)) rfl hl.1 (Nat.le_of_ble_eq_true rfl) ⟨Nat.zero_le _, Nat.zero_le _⟩ dX12_goOn_210 (fun S33 H locs hC h => ?_)
    exact hret _ _ _ _ _ hC h dX12_goOn_213
  have h := h.2 c31
  refine lv_tableOut (tgt := 222) hx hb dX12_goOn_29 (by have nc5 := lv_neT c5 (show (3 : Int32).toInt = 3 by decide); have nc12 := lv_neT c12 (show (4 : Int32).toInt = 4 by decide); have nc17 := lv_neT c17 (show (5 : Int32).toInt = 5 by decide); have nc20 := lv_neT c20 (show (6 : Int32).toInt = 6 by decide); have nc21 := lv_neT c21 (show (7 : Int32).toInt = 7 by decide); have nc23 := lv_neT c23 (show (8 : Int32).toInt = 8 by decide); have nc27 := lv_neT c27 (show (9 : Int32).toInt = 9 by decide); have nc31 := lv_neT c31 (show (10 : Int32).toInt = 10 by decide); omega) (by decide) ?_
  refine lv_aload_n hx hb dX12_goOn_222 rfl (lv_at hl 3 rfl) ?_
  refine mv_get (v := .ref (E.2.2.1 17)) hX hC 26 (Nat.le_of_ble_eq_true rfl) wd_1426 rfl dX12_goOn_223 ?_
  refine lv_iload_n hx hb dX12_goOn_226 rfl (lv_at hl 4 rfl) ?_
  refine mq_ild (n := 24000) hX hC 17 rfl rfl dX12_goOn_227 h (fun z34 h => ?_)
  refine lv_if_lt (tgt := 242) hx hb dX12_goOn_228 (by decide) (fun c35 => ?_) (fun c35 => ?_)
  · have h := h.1 c35
    exact cut242 a0 a1 S _ _ _ h hC (lv_sub hl [3, 4, 5] rfl)
  · have h := h.2 c35
    refine lv_aload_n hx hb dX12_goOn_231 rfl (lv_at hl 3 rfl) ?_
    refine lv_aload_n hx hb dX12_goOn_232 rfl (lv_at hl 3 rfl) ?_
    refine mv_get (v := .ref (E.2.2.1 17)) hX hC 26 (Nat.le_of_ble_eq_true rfl) wd_1426 rfl dX12_goOn_233 ?_
    refine lv_iload_n hx hb dX12_goOn_236 rfl (lv_at hl 4 rfl) ?_
    refine mq_ild (n := 24000) hX hC 17 rfl rfl dX12_goOn_237 h (fun z36 h => ?_)
    refine lv_iload_n hx hb dX12_goOn_238 rfl (lv_at hl 5 rfl) ?_
    refine mv_callv [.int z36, .int a1] (rest := []) hX hC (ct_go l S z36 a1 _ h E _) (cw_X12_go hts (by omega) (by omega)) rfl hl.1 (Nat.le_of_ble_eq_true rfl) ⟨Nat.zero_le _, Nat.zero_le _⟩ dX12_goOn_239 (fun S37 H locs hC h => ?_)
    exact cut242 a0 a1 S37 _ _ _ h hC (lv_sub hl [3, 4, 5] rfl)
def wp_from_2 (K : mS → Prop) (k2 : Int32 × Int32 × Int32 × mS → Prop) (x1 : Int32) (x2 : Int32) (x3 : Int32) (S : mS) : Prop := ((12000 ≤ x3 → ∀ S2 : mS, S2 = sZ S 21 0 → ((¬ x2 = 0 → ∀ z4 : Int32, z4 = 17 * x1 → ∀ z5 : Int32, z5 = z4 + x2 → ∀ z6 : Int32, z6 = z5 - 1 → inR z6 408 ∧ ∀ z7 : Int32, z7 = S2.2.1 24 (ix z6) → inR x1 24 ∧ ∀ z8 : Int32, z8 = S2.2.1 23 (ix x1) → wp_goOn z7 z8 S2 (fun (S9 : mS) => K S9)) ∧ (x2 = 0 → inR x1 24 ∧ ∀ z10 : Int32, z10 = S2.2.1 22 (ix x1) → inR x1 24 ∧ ∀ z11 : Int32, z11 = S2.2.1 23 (ix x1) → wp_go z10 z11 S2 (fun (S12 : mS) => K S12)))) ∧ (¬ 12000 ≤ x3 → inR x3 12000 ∧ ∀ S13 : mS, S13 = sF S 49 (ix x3) 0 → ∀ z14 : Int32, z14 = x3 + 1 → k2 (x1, x2, z14, S13)))
def ls_from_2 (K : mS → Prop) (k2 : Int32 × Int32 × Int32 × mS → Prop) (u : Int32 × Int32 × Int32 × mS) : Prop := wp_from_2 K k2 u.1 u.2.1 u.2.2.1 u.2.2.2
def wp_from (a0 : Int32) (a1 : Int32) (S : mS) (K : mS → Prop) : Prop := (∃ n9, it (ls_from_2 K) n9 (a0, a1, 0, S))
theorem cw_X12_goOn {R : Room} {s : State} {args : Array Value} {fr lo : Nat} (hts : ∀ w ∈ tb, w.before args s = true) (h1 : fr + 1 ≤ R.frames) (h2 : 8 + (6 + 11) + lo ≤ R.locals) : CallW R s args RX12 RX12 532 yX12_goOn cX12_goOn 6 none (.code yX12_goOn cX12_goOn 6 none :: tb) (mRm fr lo) 0 0 2 := cwV 2 hts (gd_V wd_1974 wd_1976 sl_X12_goOn wd_15 wd_1977) rfl rfl rfl (by decide +kernel) ⟨h1, h2⟩
set_option maxHeartbeats 4000000 in
set_option maxRecDepth 100000 in
theorem ct_from (l : Launch) (S : mS) (a0 : Int32) (a1 : Int32) (K : mS → Prop) (h : wp_from a0 a1 S K) : mMv l yX12_from cX12_from 4 none 4 97 (fun E => [.int a0, .int a1]) S K := by
  refine mv_ofv (by decide) rfl (fun _ => Nat.le_of_ble_eq_true rfl) ?_
  intro E p e R s m args below meth c A ls Q hRf hRl hX hC hl hret
  have hx := hX.1.1
  have hb := hX.1.2.1
  have hown := hX.1.2.2.2.1
  have hts := hX.1.2.2.2.2
  have cut2 : ∀ (n2 : Nat) (x1 : Int32) (x2 : Int32) (x3 : Int32) (S : mS) (H : Heap) (locs : List Loc) (ls : Array Slot), it (ls_from_2 K) n2 (x1, x2, x3, S) → mC E A s.heap S H locs → lv_has ls 4 [(0, .ref E.2.1), (1, .int x1), (2, .int x2), (3, .int x3)] → W p l e R s m args below meth c H locs 0 0 Q (F0 m 2 ls []) := by
    intro n2
    induction n2 with
    | zero => intro x1 x2 x3 S H locs ls h hC hl; exact h.elim
    | succ n2 ih2 =>
      intro x1 x2 x3 S H locs ls h hC hl
      have h : wp_from_2 K (it (ls_from_2 K) n2) x1 x2 x3 S := h
      unfold wp_from_2 at h
      refine lv_iload_n hx hb dX12_from_2 rfl (lv_at hl 3 rfl) ?_
      refine lv_sipush (v := 12000) hx hb dX12_from_3 (by decide) ?_
      refine lv_icmp_ge (tgt := 22) hx hb dX12_from_6 (by decide) (fun c1 => ?_) (fun c1 => ?_)
      · have h := h.1 c1
        refine lv_aload_n hx hb dX12_from_22 rfl (lv_at hl 0 rfl) ?_
        refine lv_iconst (v := 0) hx hb dX12_from_23 (by decide) ?_
        refine mq_put (v := 0) hX hC 73 21 (Nat.le_of_ble_eq_true rfl) wd_1473 rfl rfl rfl mz_21 dX12_from_24 h (fun S2 H locs hC h => ?_)
        refine lv_iload_n hx hb dX12_from_27 rfl (lv_at hl 2 rfl) ?_
        refine lv_if_ne (tgt := 50) hx hb dX12_from_28 (by decide) (fun c3 => ?_) (fun c3 => ?_)
        · have h := h.1 c3
          refine lv_aload_n hx hb dX12_from_50 rfl (lv_at hl 0 rfl) ?_
          refine lv_aload_n hx hb dX12_from_51 rfl (lv_at hl 0 rfl) ?_
          refine mv_get (v := .ref (E.2.2.1 24)) hX hC 34 (Nat.le_of_ble_eq_true rfl) wd_1434 rfl dX12_from_52 ?_
          refine lv_bipush (v := 17) hx hb dX12_from_55 (by decide) ?_
          refine lv_iload_n hx hb dX12_from_57 rfl (lv_at hl 1 rfl) ?_
          refine lq_imul hx hb dX12_from_58 h (fun z4 h => ?_)
          refine lv_iload_n hx hb dX12_from_59 rfl (lv_at hl 2 rfl) ?_
          refine lq_iadd hx hb dX12_from_60 h (fun z5 h => ?_)
          refine lv_iconst (v := 1) hx hb dX12_from_61 (by decide) ?_
          refine lq_isub hx hb dX12_from_62 h (fun z6 h => ?_)
          refine mq_ild (n := 408) hX hC 24 rfl rfl dX12_from_63 h (fun z7 h => ?_)
          refine lv_aload_n hx hb dX12_from_64 rfl (lv_at hl 0 rfl) ?_
          refine mv_get (v := .ref (E.2.2.1 23)) hX hC 33 (Nat.le_of_ble_eq_true rfl) wd_1433 rfl dX12_from_65 ?_
          refine lv_iload_n hx hb dX12_from_68 rfl (lv_at hl 1 rfl) ?_
          refine mq_ild (n := 24) hX hC 23 rfl rfl dX12_from_69 h (fun z8 h => ?_)
          refine mv_callv [.int z7, .int z8] (rest := []) hX hC (ct_goOn l S2 z7 z8 _ h E _) (cw_X12_goOn hts (by omega) (by omega)) rfl hl.1 (Nat.le_of_ble_eq_true rfl) ⟨Nat.zero_le _, Nat.zero_le _⟩ dX12_from_70 (fun S9 H locs hC h => ?_)
          exact hret _ _ _ _ _ hC h dX12_from_73
        · have h := h.2 c3
          refine lv_aload_n hx hb dX12_from_31 rfl (lv_at hl 0 rfl) ?_
          refine lv_aload_n hx hb dX12_from_32 rfl (lv_at hl 0 rfl) ?_
          refine mv_get (v := .ref (E.2.2.1 22)) hX hC 32 (Nat.le_of_ble_eq_true rfl) wd_1432 rfl dX12_from_33 ?_
          refine lv_iload_n hx hb dX12_from_36 rfl (lv_at hl 1 rfl) ?_
          refine mq_ild (n := 24) hX hC 22 rfl rfl dX12_from_37 h (fun z10 h => ?_)
          refine lv_aload_n hx hb dX12_from_38 rfl (lv_at hl 0 rfl) ?_
          refine mv_get (v := .ref (E.2.2.1 23)) hX hC 33 (Nat.le_of_ble_eq_true rfl) wd_1433 rfl dX12_from_39 ?_
          refine lv_iload_n hx hb dX12_from_42 rfl (lv_at hl 1 rfl) ?_
          refine mq_ild (n := 24) hX hC 23 rfl rfl dX12_from_43 h (fun z11 h => ?_)
          refine mv_callv [.int z10, .int z11] (rest := []) hX hC (ct_go l S2 z10 z11 _ h E _) (cw_X12_go hts (by omega) (by omega)) rfl hl.1 (Nat.le_of_ble_eq_true rfl) ⟨Nat.zero_le _, Nat.zero_le _⟩ dX12_from_44 (fun S12 H locs hC h => ?_)
          refine lv_goto (tgt := 73) hx hb dX12_from_47 (by decide) ?_
          exact hret _ _ _ _ _ hC h dX12_from_73
      · have h := h.2 c1
        refine lv_aload_n hx hb dX12_from_9 rfl (lv_at hl 0 rfl) ?_
        refine mv_get (v := .ref (E.2.2.1 49)) hX hC 71 (Nat.le_of_ble_eq_true rfl) wd_1471 rfl dX12_from_10 ?_
        refine lv_iload_n hx hb dX12_from_13 rfl (lv_at hl 3 rfl) ?_
        refine lv_iconst (v := 0) hx hb dX12_from_14 (by decide) ?_
        refine mq_zst (n := 12000) (v := 0) hX hC 49 rfl rfl rfl mf_49 dX12_from_15 h.1 h.2 (fun S13 H locs hC h => ?_)
        obtain ⟨z14, ez14⟩ : ∃ y : Int32, y = x3 + 1 := ⟨_, rfl⟩
        have h := h z14 ez14
        refine lv_iinc (v := z14) (lv' := [(3, .int z14), (0, .ref E.2.1), (1, .int x1), (2, .int x2)]) hx hb dX12_from_16 hl (k := 3) rfl (by rw [ez14]; rfl) (by decide) rfl (fun ls hl => ?_)
        refine lv_goto (tgt := 2) hx hb dX12_from_19 (by decide) ?_
        exact ih2 x1 x2 z14 S13 _ _ _ h hC (lv_sub hl [1, 2, 3, 0] rfl)
  have hl : lv_has ls 4 [(0, .ref E.2.1), (1, .int a0), (2, .int a1)] := hl
  unfold wp_from at h
  refine lv_iconst (v := 0) hx hb dX12_from_0 (by decide) ?_
  refine lv_istore_n (lv' := [(3, .int 0), (0, .ref E.2.1), (1, .int a0), (2, .int a1)]) hx hb dX12_from_1 rfl hl (by decide) rfl (fun ls hl => ?_)
  obtain ⟨n9, h⟩ := h
  exact cut2 n9 a0 a1 0 S _ _ _ h hC (lv_sub hl [1, 2, 3, 0] rfl)
def wp_isState (a0 : Int32) (a1 : Int32) (S : mS) (K : mS → Int32 → Prop) : Prop := ((a0 < 0 → K S 0) ∧ (¬ a0 < 0 → inR (S.1 5) 2 ∧ ∀ z2 : Int32, z2 = S.2.1 5 (ix (S.1 5)) → ((z2 ≤ a0 → K S 0) ∧ (¬ z2 ≤ a0 → ((a1 < 0 → K S 0) ∧ (¬ a1 < 0 → ∀ z5 : Int32, z5 = 12 * (S.1 5) → ∀ z6 : Int32, z6 = z5 + a0 → inR z6 24 ∧ ∀ z7 : Int32, z7 = S.2.1 10 (ix z6) → ((z7 < a1 → K S 0) ∧ (¬ z7 < a1 → K S 1))))))))
set_option maxHeartbeats 4000000 in
set_option maxRecDepth 100000 in
theorem ct_isState (l : Launch) (S : mS) (a0 : Int32) (a1 : Int32) (K : mS → Int32 → Prop) (h : wp_isState a0 a1 S K) : mMi l yX12_isState cX12_isState 3 (some .boolean) 0 0 (fun E => [.int a0, .int a1]) S K := by
  refine mv_ofz (by decide) rfl (fun _ => Nat.le_of_ble_eq_true rfl) ?_
  intro E p e R s m args below meth c A ls Q hRf hRl hX hC hl hret
  have hx := hX.1.1
  have hb := hX.1.2.1
  have hown := hX.1.2.2.2.1
  have hts := hX.1.2.2.2.2
  have hl : lv_has ls 3 [(0, .ref E.2.1), (1, .int a0), (2, .int a1)] := hl
  unfold wp_isState at h
  refine lv_iload_n hx hb dX12_isState_0 rfl (lv_at hl 1 rfl) ?_
  refine lv_if_lt (tgt := 43) hx hb dX12_isState_1 (by decide) (fun c1 => ?_) (fun c1 => ?_)
  · have h := h.1 c1
    refine lv_iconst (v := 0) hx hb dX12_isState_43 (by decide) ?_
    exact hret _ _ _ _ _ _ hC (Or.inl rfl) h dX12_isState_44
  · have h := h.2 c1
    refine lv_iload_n hx hb dX12_isState_4 rfl (lv_at hl 1 rfl) ?_
    refine lv_aload_n hx hb dX12_isState_5 rfl (lv_at hl 0 rfl) ?_
    refine mv_get (v := .ref (E.2.2.1 5)) hX hC 13 (Nat.le_of_ble_eq_true rfl) wd_1413 rfl dX12_isState_6 ?_
    refine lv_aload_n hx hb dX12_isState_9 rfl (lv_at hl 0 rfl) ?_
    refine mv_get (v := .int (S.1 5)) hX hC 11 (Nat.le_of_ble_eq_true rfl) wd_1411 rfl dX12_isState_10 ?_
    refine mq_ild (n := 2) hX hC 5 rfl rfl dX12_isState_13 h (fun z2 h => ?_)
    refine lv_icmp_ge (tgt := 43) hx hb dX12_isState_14 (by decide) (fun c3 => ?_) (fun c3 => ?_)
    · have h := h.1 c3
      refine lv_iconst (v := 0) hx hb dX12_isState_43 (by decide) ?_
      exact hret _ _ _ _ _ _ hC (Or.inl rfl) h dX12_isState_44
    · have h := h.2 c3
      refine lv_iload_n hx hb dX12_isState_17 rfl (lv_at hl 2 rfl) ?_
      refine lv_if_lt (tgt := 43) hx hb dX12_isState_18 (by decide) (fun c4 => ?_) (fun c4 => ?_)
      · have h := h.1 c4
        refine lv_iconst (v := 0) hx hb dX12_isState_43 (by decide) ?_
        exact hret _ _ _ _ _ _ hC (Or.inl rfl) h dX12_isState_44
      · have h := h.2 c4
        refine lv_iload_n hx hb dX12_isState_21 rfl (lv_at hl 2 rfl) ?_
        refine lv_aload_n hx hb dX12_isState_22 rfl (lv_at hl 0 rfl) ?_
        refine mv_get (v := .ref (E.2.2.1 10)) hX hC 18 (Nat.le_of_ble_eq_true rfl) wd_1418 rfl dX12_isState_23 ?_
        refine lv_bipush (v := 12) hx hb dX12_isState_26 (by decide) ?_
        refine lv_aload_n hx hb dX12_isState_28 rfl (lv_at hl 0 rfl) ?_
        refine mv_get (v := .int (S.1 5)) hX hC 11 (Nat.le_of_ble_eq_true rfl) wd_1411 rfl dX12_isState_29 ?_
        refine lq_imul hx hb dX12_isState_32 h (fun z5 h => ?_)
        refine lv_iload_n hx hb dX12_isState_33 rfl (lv_at hl 1 rfl) ?_
        refine lq_iadd hx hb dX12_isState_34 h (fun z6 h => ?_)
        refine mq_ild (n := 24) hX hC 10 rfl rfl dX12_isState_35 h (fun z7 h => ?_)
        refine lv_icmp_gt (tgt := 43) hx hb dX12_isState_36 (by decide) (fun c8 => ?_) (fun c8 => ?_)
        · have h := h.1 c8
          refine lv_iconst (v := 0) hx hb dX12_isState_43 (by decide) ?_
          exact hret _ _ _ _ _ _ hC (Or.inl rfl) h dX12_isState_44
        · have h := h.2 c8
          refine lv_iconst (v := 1) hx hb dX12_isState_39 (by decide) ?_
          refine lv_goto (tgt := 44) hx hb dX12_isState_40 (by decide) ?_
          exact hret _ _ _ _ _ _ hC (Or.inr rfl) h dX12_isState_44
def wp_leavePart (a0 : Int32) (S : mS) (K : mS → Prop) : Prop := ∀ z1 : Int32, z1 = 11 * (S.1 33) → inR (S.1 33) 200 ∧ ∀ z2 : Int32, z2 = S.2.1 68 (ix (S.1 33)) → ∀ z3 : Int32, z3 = z1 + z2 → ∀ z4 : Int32, z4 = z3 - 1 → inR a0 1000 ∧ ∀ z5 : Int32, z5 = S.2.1 29 (ix a0) → ((z5 = 0 → inR (S.1 33) 200 ∧ ∀ z7 : Int32, z7 = S.2.1 68 (ix (S.1 33)) → ∀ z8 : Int32, z8 = z7 - 1 → inR (S.1 33) 200 ∧ ∀ S9 : mS, S9 = sF S 68 (ix (S.1 33)) z8 → inR a0 1000 ∧ ∀ z10 : Int32, z10 = S9.2.1 33 (ix a0) → ∀ S11 : mS, S11 = sZ S9 32 z10 → K S11) ∧ (¬ z5 = 0 → wp_toFinish z4 0 0 S (fun (S12 : mS) => K S12)))
set_option maxHeartbeats 4000000 in
set_option maxRecDepth 100000 in
theorem ct_leavePart (l : Launch) (S : mS) (a0 : Int32) (K : mS → Prop) (h : wp_leavePart a0 S K) : mMv l yX12_leavePart cX12_leavePart 3 none 1 23 (fun E => [.int a0]) S K := by
  refine mv_ofv (by decide) rfl (fun _ => Nat.le_of_ble_eq_true rfl) ?_
  intro E p e R s m args below meth c A ls Q hRf hRl hX hC hl hret
  have hx := hX.1.1
  have hb := hX.1.2.1
  have hown := hX.1.2.2.2.1
  have hts := hX.1.2.2.2.2
  have hl : lv_has ls 3 [(0, .ref E.2.1), (1, .int a0)] := hl
  unfold wp_leavePart at h
  refine lv_bipush (v := 11) hx hb dX12_leavePart_0 (by decide) ?_
  refine lv_aload_n hx hb dX12_leavePart_2 rfl (lv_at hl 0 rfl) ?_
  refine mv_get (v := .int (S.1 33)) hX hC 123 (Nat.le_of_ble_eq_true rfl) wd_1523 rfl dX12_leavePart_3 ?_
  refine lq_imul hx hb dX12_leavePart_6 h (fun z1 h => ?_)
  refine lv_aload_n hx hb dX12_leavePart_7 rfl (lv_at hl 0 rfl) ?_
  refine mv_get (v := .ref (E.2.2.1 68)) hX hC 92 (Nat.le_of_ble_eq_true rfl) wd_1492 rfl dX12_leavePart_8 ?_
  refine lv_aload_n hx hb dX12_leavePart_11 rfl (lv_at hl 0 rfl) ?_
  refine mv_get (v := .int (S.1 33)) hX hC 123 (Nat.le_of_ble_eq_true rfl) wd_1523 rfl dX12_leavePart_12 ?_
  refine mq_ild (n := 200) hX hC 68 rfl rfl dX12_leavePart_15 h (fun z2 h => ?_)
  refine lq_iadd hx hb dX12_leavePart_16 h (fun z3 h => ?_)
  refine lv_iconst (v := 1) hx hb dX12_leavePart_17 (by decide) ?_
  refine lq_isub hx hb dX12_leavePart_18 h (fun z4 h => ?_)
  refine lv_istore_n (lv' := [(2, .int z4), (0, .ref E.2.1), (1, .int a0)]) hx hb dX12_leavePart_19 rfl hl (by decide) rfl (fun ls hl => ?_)
  refine lv_aload_n hx hb dX12_leavePart_20 rfl (lv_at hl 1 rfl) ?_
  refine mv_get (v := .ref (E.2.2.1 29)) hX hC 40 (Nat.le_of_ble_eq_true rfl) wd_1440 rfl dX12_leavePart_21 ?_
  refine lv_iload_n hx hb dX12_leavePart_24 rfl (lv_at hl 2 rfl) ?_
  refine mq_zld (n := 1000) hX hC 29 rfl rfl dX12_leavePart_25 h (fun z5 h => ?_)
  refine lv_if_eq (tgt := 39) hx hb dX12_leavePart_26 (by decide) (fun c6 => ?_) (fun c6 => ?_)
  · have h := h.1 c6
    refine lv_aload_n hx hb dX12_leavePart_39 rfl (lv_at hl 1 rfl) ?_
    refine mv_get (v := .ref (E.2.2.1 68)) hX hC 92 (Nat.le_of_ble_eq_true rfl) wd_1492 rfl dX12_leavePart_40 ?_
    refine lv_aload_n hx hb dX12_leavePart_43 rfl (lv_at hl 1 rfl) ?_
    refine mv_get (v := .int (S.1 33)) hX hC 123 (Nat.le_of_ble_eq_true rfl) wd_1523 rfl dX12_leavePart_44 ?_
    refine lv_dup2_11 hx hb dX12_leavePart_47 rfl rfl ?_
    refine mq_ild (n := 200) hX hC 68 rfl rfl dX12_leavePart_48 h (fun z7 h => ?_)
    refine lv_iconst (v := 1) hx hb dX12_leavePart_49 (by decide) ?_
    refine lq_isub hx hb dX12_leavePart_50 h (fun z8 h => ?_)
    refine mq_ist (n := 200) (v := z8) hX hC 68 rfl rfl mf_68 dX12_leavePart_51 h.1 h.2 (fun S9 H locs hC h => ?_)
    refine lv_aload_n hx hb dX12_leavePart_52 rfl (lv_at hl 1 rfl) ?_
    refine lv_aload_n hx hb dX12_leavePart_53 rfl (lv_at hl 1 rfl) ?_
    refine mv_get (v := .ref (E.2.2.1 33)) hX hC 44 (Nat.le_of_ble_eq_true rfl) wd_1444 rfl dX12_leavePart_54 ?_
    refine lv_iload_n hx hb dX12_leavePart_57 rfl (lv_at hl 2 rfl) ?_
    refine mq_ild (n := 1000) hX hC 33 rfl rfl dX12_leavePart_58 h (fun z10 h => ?_)
    refine mq_put (v := z10) hX hC 122 32 (Nat.le_of_ble_eq_true rfl) wd_1522 rfl rfl rfl mz_32 dX12_leavePart_59 h (fun S11 H locs hC h => ?_)
    exact hret _ _ _ _ _ hC h dX12_leavePart_62
  · have h := h.2 c6
    refine lv_aload_n hx hb dX12_leavePart_29 rfl (lv_at hl 1 rfl) ?_
    refine lv_iload_n hx hb dX12_leavePart_30 rfl (lv_at hl 0 rfl) ?_
    refine lv_iconst (v := 0) hx hb dX12_leavePart_31 (by decide) ?_
    refine lv_iconst (v := 0) hx hb dX12_leavePart_32 (by decide) ?_
    refine mv_callv [.int z4, .int 0, .int 0] (rest := []) hX hC (ct_toFinish l S z4 0 0 _ h E _) (cw_X12_toFinish hts (by omega) (by omega)) rfl hl.1 (Nat.le_of_ble_eq_true rfl) ⟨Nat.zero_le _, Nat.zero_le _⟩ dX12_leavePart_33 (fun S12 H locs hC h => ?_)
    refine lv_goto (tgt := 62) hx hb dX12_leavePart_36 (by decide) ?_
    exact hret _ _ _ _ _ hC h dX12_leavePart_62
def wp_letter_84 (K : mS → Int32 → Prop) (k20 : Int32 × Int32 × Int32 × mS → Prop) (x1 : Int32) (x2 : Int32) (x3 : Int32) (S : mS) : Prop := ∀ z22 : Int32, z22 = x3 + 1 → k20 (x1, x2, z22, S)
def wp_letter_20 (K : mS → Int32 → Prop) (k20 : Int32 × Int32 × Int32 × mS → Prop) (x1 : Int32) (x2 : Int32) (x3 : Int32) (S : mS) : Prop := (((S.1 30) ≤ x3 → inR x1 8 ∧ ∀ z5 : Int32, z5 = S.2.1 78 (ix x1) → ((¬ z5 = 50 → ∀ z7 : Int32, z7 = 50 * x1 → inR x1 8 ∧ ∀ z8 : Int32, z8 = S.2.1 78 (ix x1) → ∀ z9 : Int32, z9 = z7 + z8 → inR z9 400 ∧ ∀ S10 : mS, S10 = sF S 79 (ix z9) x2 → inR x1 8 ∧ ∀ z11 : Int32, z11 = S10.2.1 78 (ix x1) → ∀ z12 : Int32, z12 = z11 + 1 → inR x1 8 ∧ ∀ S13 : mS, S13 = sF S10 78 (ix x1) z12 → K S13 (-1)) ∧ (z5 = 50 → K S (-2)))) ∧ (¬ (S.1 30) ≤ x3 → inR x3 100300 ∧ ∀ z14 : Int32, z14 = S.2.1 87 (ix x3) → inR z14 100300 ∧ ∀ z15 : Int32, z15 = S.2.1 80 (ix z14) → ((¬ z15 = 3 → wp_letter_84 K k20 x1 x2 x3 S) ∧ (z15 = 3 → inR z14 100300 ∧ ∀ z17 : Int32, z17 = S.2.1 84 (ix z14) → ((¬ z17 = x1 → wp_letter_84 K k20 x1 x2 x3 S) ∧ (z17 = x1 → inR z14 100300 ∧ ∀ z19 : Int32, z19 = S.2.1 85 (ix z14) → wp_standsNoMore z14 S (fun (S20 : mS) => wq_decides z14 1 x2 S20 (fun (S21 : mS) => K S21 z19))))))))
def ls_letter_20 (K : mS → Int32 → Prop) (k20 : Int32 × Int32 × Int32 × mS → Prop) (u : Int32 × Int32 × Int32 × mS) : Prop := wp_letter_20 K k20 u.1 u.2.1 u.2.2.1 u.2.2.2
def wp_letter (a0 : Int32) (a1 : Int32) (S : mS) (K : mS → Int32 → Prop) : Prop := ∀ S1 : mS, S1 = sZ S 0 0 → ((a0 < 0 → K S1 (-2)) ∧ (¬ a0 < 0 → ((a0 ≤ 7 → (∃ n9, it (ls_letter_20 K) n9 (a0, a1, 0, S1))) ∧ (¬ a0 ≤ 7 → K S1 (-2)))))
set_option maxHeartbeats 4000000 in
set_option maxRecDepth 100000 in
theorem ct_letter (l : Launch) (S : mS) (a0 : Int32) (a1 : Int32) (K : mS → Int32 → Prop) (h : wp_letter a0 a1 S K) : mMi l yX12_letter cX12_letter 6 (some .int) 694 16657 (fun E => [.int a0, .int a1]) S K := by
  refine mv_ofi (by decide) rfl (fun _ => Nat.le_of_ble_eq_true rfl) ?_
  intro E p e R s m args below meth c A ls Q hRf hRl hX hC hl hret
  have hx := hX.1.1
  have hb := hX.1.2.1
  have hown := hX.1.2.2.2.1
  have hts := hX.1.2.2.2.2
  have cut20 : ∀ (n20 : Nat) (x1 : Int32) (x2 : Int32) (x3 : Int32) (S : mS) (H : Heap) (locs : List Loc) (ls : Array Slot), it (ls_letter_20 K) n20 (x1, x2, x3, S) → mC E A s.heap S H locs → lv_has ls 6 [(0, .ref E.2.1), (1, .int x1), (2, .int x2), (3, .int x3)] → W p l e R s m args below meth c H locs 0 0 Q (F0 m 20 ls []) := by
    intro n20
    induction n20 with
    | zero => intro x1 x2 x3 S H locs ls h hC hl; exact h.elim
    | succ n20 ih20 =>
      have cut84 : ∀ (x1 : Int32) (x2 : Int32) (x3 : Int32) (S : mS) (H : Heap) (locs : List Loc) (ls : Array Slot), wp_letter_84 K (it (ls_letter_20 K) n20) x1 x2 x3 S → mC E A s.heap S H locs → lv_has ls 6 [(0, .ref E.2.1), (1, .int x1), (2, .int x2), (3, .int x3)] → W p l e R s m args below meth c H locs 0 0 Q (F0 m 84 ls []) := by
        intro x1 x2 x3 S H locs ls h hC hl
        unfold wp_letter_84 at h
        obtain ⟨z22, ez22⟩ : ∃ y : Int32, y = x3 + 1 := ⟨_, rfl⟩
        have h := h z22 ez22
        refine lv_iinc (v := z22) (lv' := [(3, .int z22), (0, .ref E.2.1), (1, .int x1), (2, .int x2)]) hx hb dX12_letter_84 hl (k := 3) rfl (by rw [ez22]; rfl) (by decide) rfl (fun ls hl => ?_)
        refine lv_goto (tgt := 20) hx hb dX12_letter_87 (by decide) ?_
        exact ih20 x1 x2 z22 S _ _ _ h hC (lv_sub hl [1, 2, 3, 0] rfl)
      intro x1 x2 x3 S H locs ls h hC hl
      have h : wp_letter_20 K (it (ls_letter_20 K) n20) x1 x2 x3 S := h
      unfold wp_letter_20 at h
      refine lv_iload_n hx hb dX12_letter_20 rfl (lv_at hl 3 rfl) ?_
      refine lv_aload_n hx hb dX12_letter_21 rfl (lv_at hl 0 rfl) ?_
      refine mv_get (v := .int (S.1 30)) hX hC 119 (Nat.le_of_ble_eq_true rfl) wd_1519 rfl dX12_letter_22 ?_
      refine lv_icmp_ge (tgt := 90) hx hb dX12_letter_25 (by decide) (fun c4 => ?_) (fun c4 => ?_)
      · have h := h.1 c4
        refine lv_aload_n hx hb dX12_letter_90 rfl (lv_at hl 0 rfl) ?_
        refine mv_get (v := .ref (E.2.2.1 78)) hX hC 108 (Nat.le_of_ble_eq_true rfl) wd_1508 rfl dX12_letter_91 ?_
        refine lv_iload_n hx hb dX12_letter_94 rfl (lv_at hl 1 rfl) ?_
        refine mq_ild (n := 8) hX hC 78 rfl rfl dX12_letter_95 h (fun z5 h => ?_)
        refine lv_bipush (v := 50) hx hb dX12_letter_96 (by decide) ?_
        refine lv_icmp_ne (tgt := 104) hx hb dX12_letter_98 (by decide) (fun c6 => ?_) (fun c6 => ?_)
        · have h := h.1 c6
          refine lv_aload_n hx hb dX12_letter_104 rfl (lv_at hl 0 rfl) ?_
          refine mv_get (v := .ref (E.2.2.1 79)) hX hC 109 (Nat.le_of_ble_eq_true rfl) wd_1509 rfl dX12_letter_105 ?_
          refine lv_bipush (v := 50) hx hb dX12_letter_108 (by decide) ?_
          refine lv_iload_n hx hb dX12_letter_110 rfl (lv_at hl 1 rfl) ?_
          refine lq_imul hx hb dX12_letter_111 h (fun z7 h => ?_)
          refine lv_aload_n hx hb dX12_letter_112 rfl (lv_at hl 0 rfl) ?_
          refine mv_get (v := .ref (E.2.2.1 78)) hX hC 108 (Nat.le_of_ble_eq_true rfl) wd_1508 rfl dX12_letter_113 ?_
          refine lv_iload_n hx hb dX12_letter_116 rfl (lv_at hl 1 rfl) ?_
          refine mq_ild (n := 8) hX hC 78 rfl rfl dX12_letter_117 h (fun z8 h => ?_)
          refine lq_iadd hx hb dX12_letter_118 h (fun z9 h => ?_)
          refine lv_iload_n hx hb dX12_letter_119 rfl (lv_at hl 2 rfl) ?_
          refine mq_ist (n := 400) (v := x2) hX hC 79 rfl rfl mf_79 dX12_letter_120 h.1 h.2 (fun S10 H locs hC h => ?_)
          refine lv_aload_n hx hb dX12_letter_121 rfl (lv_at hl 0 rfl) ?_
          refine mv_get (v := .ref (E.2.2.1 78)) hX hC 108 (Nat.le_of_ble_eq_true rfl) wd_1508 rfl dX12_letter_122 ?_
          refine lv_iload_n hx hb dX12_letter_125 rfl (lv_at hl 1 rfl) ?_
          refine lv_dup2_11 hx hb dX12_letter_126 rfl rfl ?_
          refine mq_ild (n := 8) hX hC 78 rfl rfl dX12_letter_127 h (fun z11 h => ?_)
          refine lv_iconst (v := 1) hx hb dX12_letter_128 (by decide) ?_
          refine lq_iadd hx hb dX12_letter_129 h (fun z12 h => ?_)
          refine mq_ist (n := 8) (v := z12) hX hC 78 rfl rfl mf_78 dX12_letter_130 h.1 h.2 (fun S13 H locs hC h => ?_)
          refine lv_iconst (v := -1) hx hb dX12_letter_131 (by decide) ?_
          exact hret _ _ _ _ _ _ hC h dX12_letter_132
        · have h := h.2 c6
          refine lv_bipush (v := -2) hx hb dX12_letter_101 (by decide) ?_
          exact hret _ _ _ _ _ _ hC h dX12_letter_103
      · have h := h.2 c4
        refine lv_aload_n hx hb dX12_letter_28 rfl (lv_at hl 0 rfl) ?_
        refine mv_get (v := .ref (E.2.2.1 87)) hX hC 118 (Nat.le_of_ble_eq_true rfl) wd_1518 rfl dX12_letter_29 ?_
        refine lv_iload_n hx hb dX12_letter_32 rfl (lv_at hl 3 rfl) ?_
        refine mq_ild (n := 100300) hX hC 87 rfl rfl dX12_letter_33 h (fun z14 h => ?_)
        refine lv_istore (lv' := [(4, .int z14), (0, .ref E.2.1), (1, .int x1), (2, .int x2), (3, .int x3)]) hx hb dX12_letter_34 hl (by decide) rfl (fun ls hl => ?_)
        refine lv_aload_n hx hb dX12_letter_36 rfl (lv_at hl 1 rfl) ?_
        refine mv_get (v := .ref (E.2.2.1 80)) hX hC 111 (Nat.le_of_ble_eq_true rfl) wd_1511 rfl dX12_letter_37 ?_
        refine lv_iload hx hb dX12_letter_40 (lv_at hl 0 rfl) ?_
        refine mq_ild (n := 100300) hX hC 80 rfl rfl dX12_letter_42 h (fun z15 h => ?_)
        refine lv_iconst (v := 3) hx hb dX12_letter_43 (by decide) ?_
        refine lv_icmp_ne (tgt := 84) hx hb dX12_letter_44 (by decide) (fun c16 => ?_) (fun c16 => ?_)
        · have h := h.1 c16
          exact cut84 x1 x2 x3 S _ _ _ h hC (lv_sub hl [1, 2, 3, 4] rfl)
        · have h := h.2 c16
          refine lv_aload_n hx hb dX12_letter_47 rfl (lv_at hl 1 rfl) ?_
          refine mv_get (v := .ref (E.2.2.1 84)) hX hC 115 (Nat.le_of_ble_eq_true rfl) wd_1515 rfl dX12_letter_48 ?_
          refine lv_iload hx hb dX12_letter_51 (lv_at hl 0 rfl) ?_
          refine mq_ild (n := 100300) hX hC 84 rfl rfl dX12_letter_53 h (fun z17 h => ?_)
          refine lv_iload_n hx hb dX12_letter_54 rfl (lv_at hl 2 rfl) ?_
          refine lv_icmp_ne (tgt := 84) hx hb dX12_letter_55 (by decide) (fun c18 => ?_) (fun c18 => ?_)
          · have h := h.1 c18
            exact cut84 x1 x2 x3 S _ _ _ h hC (lv_sub hl [1, 2, 3, 4] rfl)
          · have h := h.2 c18
            refine lv_aload_n hx hb dX12_letter_58 rfl (lv_at hl 1 rfl) ?_
            refine mv_get (v := .ref (E.2.2.1 85)) hX hC 116 (Nat.le_of_ble_eq_true rfl) wd_1516 rfl dX12_letter_59 ?_
            refine lv_iload hx hb dX12_letter_62 (lv_at hl 0 rfl) ?_
            refine mq_ild (n := 100300) hX hC 85 rfl rfl dX12_letter_64 h (fun z19 h => ?_)
            refine lv_istore (lv' := [(5, .int z19), (4, .int z14), (0, .ref E.2.1), (1, .int x1), (2, .int x2), (3, .int x3)]) hx hb dX12_letter_65 hl (by decide) rfl (fun ls hl => ?_)
            refine lv_aload_n hx hb dX12_letter_67 rfl (lv_at hl 2 rfl) ?_
            refine lv_iload hx hb dX12_letter_68 (lv_at hl 1 rfl) ?_
            refine mv_callv [.int z14] (rest := []) hX hC (ct_standsNoMore l S z14 _ h E _) (cw_X12_standsNoMore hts (by omega) (by omega)) rfl hl.1 (Nat.le_of_ble_eq_true rfl) ⟨Nat.zero_le _, Nat.zero_le _⟩ dX12_letter_70 (fun S20 H locs hC h => ?_)
            refine lv_aload_n hx hb dX12_letter_73 rfl (lv_at hl 2 rfl) ?_
            refine lv_iload hx hb dX12_letter_74 (lv_at hl 1 rfl) ?_
            refine lv_iconst (v := 1) hx hb dX12_letter_76 (by decide) ?_
            refine lv_iload_n hx hb dX12_letter_77 rfl (lv_at hl 4 rfl) ?_
            refine mv_callv [.int z14, .int 1, .int x2] (rest := []) hX hC (ct_decides l S20 z14 1 x2 _ h E _) (cw_X12_decides hts (by omega) (by omega)) rfl hl.1 (Nat.le_of_ble_eq_true rfl) ⟨Nat.zero_le _, Nat.zero_le _⟩ dX12_letter_78 (fun S21 H locs hC h => ?_)
            refine lv_iload hx hb dX12_letter_81 (lv_at hl 0 rfl) ?_
            exact hret _ _ _ _ _ _ hC h dX12_letter_83
  have hl : lv_has ls 6 [(0, .ref E.2.1), (1, .int a0), (2, .int a1)] := hl
  unfold wp_letter at h
  refine lv_aload_n hx hb dX12_letter_0 rfl (lv_at hl 0 rfl) ?_
  refine lv_iconst (v := 0) hx hb dX12_letter_1 (by decide) ?_
  refine mq_put (v := 0) hX hC 0 0 (Nat.le_of_ble_eq_true rfl) wd_1400 rfl rfl rfl mz_0 dX12_letter_2 h (fun S1 H locs hC h => ?_)
  refine lv_iload_n hx hb dX12_letter_5 rfl (lv_at hl 1 rfl) ?_
  refine lv_if_lt (tgt := 15) hx hb dX12_letter_6 (by decide) (fun c2 => ?_) (fun c2 => ?_)
  · have h := h.1 c2
    refine lv_bipush (v := -2) hx hb dX12_letter_15 (by decide) ?_
    exact hret _ _ _ _ _ _ hC h dX12_letter_17
  · have h := h.2 c2
    refine lv_iload_n hx hb dX12_letter_9 rfl (lv_at hl 1 rfl) ?_
    refine lv_bipush (v := 7) hx hb dX12_letter_10 (by decide) ?_
    refine lv_icmp_le (tgt := 18) hx hb dX12_letter_12 (by decide) (fun c3 => ?_) (fun c3 => ?_)
    · have h := h.1 c3
      refine lv_iconst (v := 0) hx hb dX12_letter_18 (by decide) ?_
      refine lv_istore_n (lv' := [(3, .int 0), (0, .ref E.2.1), (1, .int a0), (2, .int a1)]) hx hb dX12_letter_19 rfl hl (by decide) rfl (fun ls hl => ?_)
      obtain ⟨n9, h⟩ := h
      exact cut20 n9 a0 a1 0 S1 _ _ _ h hC (lv_sub hl [1, 2, 3, 0] rfl)
    · have h := h.2 c3
      refine lv_bipush (v := -2) hx hb dX12_letter_15 (by decide) ?_
      exact hret _ _ _ _ _ _ hC h dX12_letter_17
