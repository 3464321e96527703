theorem wd_1519 : (Jvm.Cond.fieldLink "SleepersModel" (563 : Nat) "SleepersModel" "standings" "I") ∈ tb := tb_at 1519 (by decide +kernel) (by decide +kernel)
theorem wd_1850 : (Jvm.Cond.methodLink "SleepersModel" (442 : Nat) ({ cls := "SleepersModel", name := "statement", desc := "()V" } : Jvm.MethodName)) ∈ tb := tb_at 1850 (by decide +kernel) (by decide +kernel)
theorem wd_1852 : (Jvm.Cond.instanceMethod ({ cls := "SleepersModel", name := "statement", desc := "()V" } : Jvm.MethodName)) ∈ tb := tb_at 1852 (by decide +kernel) (by decide +kernel)
theorem wd_1853 : (Jvm.Cond.code ({ cls := "SleepersModel", name := "statement", desc := "()V" } : Jvm.MethodName) prog_14_method_31_code (2 : Nat) (Option.none : Option Jvm.ClassFile.FieldType)) ∈ tb := tb_at 1853 (by decide +kernel) (by decide +kernel)
theorem wd_1858 : (Jvm.Cond.methodLink "SleepersModel" (445 : Nat) ({ cls := "SleepersModel", name := "loop", desc := "()V" } : Jvm.MethodName)) ∈ tb := tb_at 1858 (by decide +kernel) (by decide +kernel)
theorem wd_1860 : (Jvm.Cond.instanceMethod ({ cls := "SleepersModel", name := "loop", desc := "()V" } : Jvm.MethodName)) ∈ tb := tb_at 1860 (by decide +kernel) (by decide +kernel)
theorem wd_1861 : (Jvm.Cond.code ({ cls := "SleepersModel", name := "loop", desc := "()V" } : Jvm.MethodName) prog_14_method_33_code (8 : Nat) (Option.none : Option Jvm.ClassFile.FieldType)) ∈ tb := tb_at 1861 (by decide +kernel) (by decide +kernel)
theorem wd_1898 : (Jvm.Cond.methodLink "SleepersModel" (448 : Nat) ({ cls := "SleepersModel", name := "choice", desc := "()V" } : Jvm.MethodName)) ∈ tb := tb_at 1898 (by decide +kernel) (by decide +kernel)
theorem wd_1900 : (Jvm.Cond.instanceMethod ({ cls := "SleepersModel", name := "choice", desc := "()V" } : Jvm.MethodName)) ∈ tb := tb_at 1900 (by decide +kernel) (by decide +kernel)
theorem wd_1901 : (Jvm.Cond.code ({ cls := "SleepersModel", name := "choice", desc := "()V" } : Jvm.MethodName) prog_14_method_32_code (5 : Nat) (Option.none : Option Jvm.ClassFile.FieldType)) ∈ tb := tb_at 1901 (by decide +kernel) (by decide +kernel)
theorem wd_1902 : (Jvm.Cond.methodLink "SleepersModel" (463 : Nat) ({ cls := "SleepersModel", name := "join", desc := "(I)V" } : Jvm.MethodName)) ∈ tb := tb_at 1902 (by decide +kernel) (by decide +kernel)
theorem wd_1904 : (Jvm.Cond.instanceMethod ({ cls := "SleepersModel", name := "join", desc := "(I)V" } : Jvm.MethodName)) ∈ tb := tb_at 1904 (by decide +kernel) (by decide +kernel)
theorem wd_1905 : (Jvm.Cond.code ({ cls := "SleepersModel", name := "join", desc := "(I)V" } : Jvm.MethodName) prog_14_method_27_code (3 : Nat) (Option.none : Option Jvm.ClassFile.FieldType)) ∈ tb := tb_at 1905 (by decide +kernel) (by decide +kernel)
theorem wd_1906 : (Jvm.Cond.methodLink "SleepersModel" (451 : Nat) ({ cls := "SleepersModel", name := "trial", desc := "()V" } : Jvm.MethodName)) ∈ tb := tb_at 1906 (by decide +kernel) (by decide +kernel)
theorem wd_1908 : (Jvm.Cond.instanceMethod ({ cls := "SleepersModel", name := "trial", desc := "()V" } : Jvm.MethodName)) ∈ tb := tb_at 1908 (by decide +kernel) (by decide +kernel)
theorem wd_1909 : (Jvm.Cond.code ({ cls := "SleepersModel", name := "trial", desc := "()V" } : Jvm.MethodName) prog_14_method_34_code (8 : Nat) (Option.none : Option Jvm.ClassFile.FieldType)) ∈ tb := tb_at 1909 (by decide +kernel) (by decide +kernel)
theorem wd_1914 : (Jvm.Cond.methodLink "SleepersModel" (454 : Nat) ({ cls := "SleepersModel", name := "plain", desc := "()V" } : Jvm.MethodName)) ∈ tb := tb_at 1914 (by decide +kernel) (by decide +kernel)
theorem wd_1916 : (Jvm.Cond.instanceMethod ({ cls := "SleepersModel", name := "plain", desc := "()V" } : Jvm.MethodName)) ∈ tb := tb_at 1916 (by decide +kernel) (by decide +kernel)
theorem wd_1917 : (Jvm.Cond.code ({ cls := "SleepersModel", name := "plain", desc := "()V" } : Jvm.MethodName) prog_14_method_36_code (2 : Nat) (Option.none : Option Jvm.ClassFile.FieldType)) ∈ tb := tb_at 1917 (by decide +kernel) (by decide +kernel)
theorem wd_2014 : (Jvm.Cond.methodLink "SleepersModel" (584 : Nat) ({ cls := "SleepersModel", name := "cancels", desc := "(I)Z" } : Jvm.MethodName)) ∈ tb := tb_at 2014 (by decide +kernel) (by decide +kernel)
theorem wd_2016 : (Jvm.Cond.instanceMethod ({ cls := "SleepersModel", name := "cancels", desc := "(I)Z" } : Jvm.MethodName)) ∈ tb := tb_at 2016 (by decide +kernel) (by decide +kernel)
theorem wd_2017 : (Jvm.Cond.code ({ cls := "SleepersModel", name := "cancels", desc := "(I)Z" } : Jvm.MethodName) prog_14_method_70_code (3 : Nat) (Option.some Jvm.ClassFile.FieldType.boolean)) ∈ tb := tb_at 2017 (by decide +kernel) (by decide +kernel)
theorem wd_2042 : (Jvm.Cond.methodLink "SleepersModel" (587 : Nat) ({ cls := "SleepersModel", name := "standsNoMore", desc := "(I)V" } : Jvm.MethodName)) ∈ tb := tb_at 2042 (by decide +kernel) (by decide +kernel)
theorem wd_2044 : (Jvm.Cond.instanceMethod ({ cls := "SleepersModel", name := "standsNoMore", desc := "(I)V" } : Jvm.MethodName)) ∈ tb := tb_at 2044 (by decide +kernel) (by decide +kernel)
theorem wd_2045 : (Jvm.Cond.code ({ cls := "SleepersModel", name := "standsNoMore", desc := "(I)V" } : Jvm.MethodName) prog_14_method_68_code (4 : Nat) (Option.none : Option Jvm.ClassFile.FieldType)) ∈ tb := tb_at 2045 (by decide +kernel) (by decide +kernel)
theorem sl_X12_cancels : Cond.selects RX12 yX12_cancels yX12_cancels ∈ tb := sl_of (y := ⟨"SleepersModel", "cancels", "(I)Z"⟩) (n := 128) (by decide +kernel) (by decide +kernel)
theorem sl_X12_choice : Cond.selects RX12 yX12_choice yX12_choice ∈ tb := sl_of (y := ⟨"SleepersModel", "choice", "()V"⟩) (n := 128) (by decide +kernel) (by decide +kernel)
theorem sl_X12_join : Cond.selects RX12 yX12_join yX12_join ∈ tb := sl_of (y := ⟨"SleepersModel", "join", "(I)V"⟩) (n := 128) (by decide +kernel) (by decide +kernel)
theorem sl_X12_loop : Cond.selects RX12 yX12_loop yX12_loop ∈ tb := sl_of (y := ⟨"SleepersModel", "loop", "()V"⟩) (n := 128) (by decide +kernel) (by decide +kernel)
theorem sl_X12_plain : Cond.selects RX12 yX12_plain yX12_plain ∈ tb := sl_of (y := ⟨"SleepersModel", "plain", "()V"⟩) (n := 128) (by decide +kernel) (by decide +kernel)
theorem sl_X12_standsNoMore : Cond.selects RX12 yX12_standsNoMore yX12_standsNoMore ∈ tb := sl_of (y := ⟨"SleepersModel", "standsNoMore", "(I)V"⟩) (n := 128) (by decide +kernel) (by decide +kernel)
theorem sl_X12_statement : Cond.selects RX12 yX12_statement yX12_statement ∈ tb := sl_of (y := ⟨"SleepersModel", "statement", "()V"⟩) (n := 128) (by decide +kernel) (by decide +kernel)
theorem sl_X12_trial : Cond.selects RX12 yX12_trial yX12_trial ∈ tb := sl_of (y := ⟨"SleepersModel", "trial", "()V"⟩) (n := 128) (by decide +kernel) (by decide +kernel)
theorem dX12_block_0 : decode cX12_block 0 = .ok (.aload_n 0, 1) := by decide +kernel
theorem dX12_block_1 : decode cX12_block 1 = .ok (.aload_n 0, 1) := by decide +kernel
theorem dX12_block_2 : decode cX12_block 2 = .ok (.bipush 123, 2) := by decide +kernel
theorem dX12_block_4 : decode cX12_block 4 = .ok (.invokevirtual 340, 3) := by decide +kernel
theorem dX12_block_7 : decode cX12_block 7 = .ok (.invokevirtual 438, 3) := by decide +kernel
theorem dX12_block_10 : decode cX12_block 10 = .ok (.aload_n 0, 1) := by decide +kernel
theorem dX12_block_11 : decode cX12_block 11 = .ok (.bipush 123, 2) := by decide +kernel
theorem dX12_block_13 : decode cX12_block 13 = .ok (.invokevirtual 394, 3) := by decide +kernel
theorem dX12_block_16 : decode cX12_block 16 = .ok (.aload_n 0, 1) := by decide +kernel
theorem dX12_block_17 : decode cX12_block 17 = .ok (.getfield 337, 3) := by decide +kernel
theorem dX12_block_20 : decode cX12_block 20 = .ok (.ifCond .ne 19, 3) := by decide +kernel
theorem dX12_block_23 : decode cX12_block 23 = .ok (.aload_n 0, 1) := by decide +kernel
theorem dX12_block_24 : decode cX12_block 24 = .ok (.bipush 125, 2) := by decide +kernel
theorem dX12_block_26 : decode cX12_block 26 = .ok (.invokevirtual 340, 3) := by decide +kernel
theorem dX12_block_29 : decode cX12_block 29 = .ok (.ifCond .ne 10, 3) := by decide +kernel
theorem dX12_block_32 : decode cX12_block 32 = .ok (.aload_n 0, 1) := by decide +kernel
theorem dX12_block_33 : decode cX12_block 33 = .ok (.invokevirtual 442, 3) := by decide +kernel
theorem dX12_block_36 : decode cX12_block 36 = .ok (.goto (-20), 3) := by decide +kernel
theorem dX12_block_39 : decode cX12_block 39 = .ok (.aload_n 0, 1) := by decide +kernel
theorem dX12_block_40 : decode cX12_block 40 = .ok (.bipush 125, 2) := by decide +kernel
theorem dX12_block_42 : decode cX12_block 42 = .ok (.invokevirtual 394, 3) := by decide +kernel
theorem dX12_block_45 : decode cX12_block 45 = .ok (.aload_n 0, 1) := by decide +kernel
theorem dX12_block_46 : decode cX12_block 46 = .ok (.dup, 1) := by decide +kernel
theorem dX12_block_47 : decode cX12_block 47 = .ok (.getfield 418, 3) := by decide +kernel
theorem dX12_block_50 : decode cX12_block 50 = .ok (.iconst 1, 1) := by decide +kernel
theorem dX12_block_51 : decode cX12_block 51 = .ok (.isub, 1) := by decide +kernel
theorem dX12_block_52 : decode cX12_block 52 = .ok (.putfield 418, 3) := by decide +kernel
theorem dX12_block_55 : decode cX12_block 55 = .ok (.return_, 1) := by decide +kernel
theorem dX12_box_0 : decode cX12_box 0 = .ok (.aload_n 0, 1) := by decide +kernel
theorem dX12_box_1 : decode cX12_box 1 = .ok (.iconst 0, 1) := by decide +kernel
theorem dX12_box_2 : decode cX12_box 2 = .ok (.putfield 1, 3) := by decide +kernel
theorem dX12_box_5 : decode cX12_box 5 = .ok (.iload_n 1, 1) := by decide +kernel
theorem dX12_box_6 : decode cX12_box 6 = .ok (.ifCond .lt 23, 3) := by decide +kernel
theorem dX12_box_9 : decode cX12_box 9 = .ok (.iload_n 1, 1) := by decide +kernel
theorem dX12_box_10 : decode cX12_box 10 = .ok (.bipush 7, 2) := by decide +kernel
theorem dX12_box_12 : decode cX12_box 12 = .ok (.if_icmp .gt 17, 3) := by decide +kernel
theorem dX12_box_15 : decode cX12_box 15 = .ok (.iload_n 2, 1) := by decide +kernel
theorem dX12_box_16 : decode cX12_box 16 = .ok (.ifCond .lt 13, 3) := by decide +kernel
theorem dX12_box_19 : decode cX12_box 19 = .ok (.iload_n 2, 1) := by decide +kernel
theorem dX12_box_20 : decode cX12_box 20 = .ok (.aload_n 0, 1) := by decide +kernel
theorem dX12_box_21 : decode cX12_box 21 = .ok (.getfield 267, 3) := by decide +kernel
theorem dX12_box_24 : decode cX12_box 24 = .ok (.iload_n 1, 1) := by decide +kernel
theorem dX12_box_25 : decode cX12_box 25 = .ok (.iaload, 1) := by decide +kernel
theorem dX12_box_26 : decode cX12_box 26 = .ok (.if_icmp .lt 7, 3) := by decide +kernel
theorem dX12_box_29 : decode cX12_box 29 = .ok (.iconst 0, 1) := by decide +kernel
theorem dX12_box_30 : decode cX12_box 30 = .ok (.goto 14, 3) := by decide +kernel
theorem dX12_box_33 : decode cX12_box 33 = .ok (.aload_n 0, 1) := by decide +kernel
theorem dX12_box_34 : decode cX12_box 34 = .ok (.getfield 270, 3) := by decide +kernel
theorem dX12_box_37 : decode cX12_box 37 = .ok (.bipush 50, 2) := by decide +kernel
theorem dX12_box_39 : decode cX12_box 39 = .ok (.iload_n 1, 1) := by decide +kernel
theorem dX12_box_40 : decode cX12_box 40 = .ok (.imul, 1) := by decide +kernel
theorem dX12_box_41 : decode cX12_box 41 = .ok (.iload_n 2, 1) := by decide +kernel
theorem dX12_box_42 : decode cX12_box 42 = .ok (.iadd, 1) := by decide +kernel
theorem dX12_box_43 : decode cX12_box 43 = .ok (.iaload, 1) := by decide +kernel
theorem dX12_box_44 : decode cX12_box 44 = .ok (.ireturn, 1) := by decide +kernel
theorem dX12_choice_0 : decode cX12_choice 0 = .ok (.aload_n 0, 1) := by decide +kernel
theorem dX12_choice_1 : decode cX12_choice 1 = .ok (.invokevirtual 457, 3) := by decide +kernel
theorem dX12_choice_4 : decode cX12_choice 4 = .ok (.aload_n 0, 1) := by decide +kernel
theorem dX12_choice_5 : decode cX12_choice 5 = .ok (.bipush 15, 2) := by decide +kernel
theorem dX12_choice_7 : decode cX12_choice 7 = .ok (.iconst 0, 1) := by decide +kernel
theorem dX12_choice_8 : decode cX12_choice 8 = .ok (.iconst 0, 1) := by decide +kernel
theorem dX12_choice_9 : decode cX12_choice 9 = .ok (.invokevirtual 431, 3) := by decide +kernel
theorem dX12_choice_12 : decode cX12_choice 12 = .ok (.istore_n 1, 1) := by decide +kernel
theorem dX12_choice_13 : decode cX12_choice 13 = .ok (.aload_n 0, 1) := by decide +kernel
theorem dX12_choice_14 : decode cX12_choice 14 = .ok (.iconst 0, 1) := by decide +kernel
theorem dX12_choice_15 : decode cX12_choice 15 = .ok (.iconst 0, 1) := by decide +kernel
theorem dX12_choice_16 : decode cX12_choice 16 = .ok (.invokevirtual 460, 3) := by decide +kernel
theorem dX12_choice_19 : decode cX12_choice 19 = .ok (.istore_n 2, 1) := by decide +kernel
theorem dX12_choice_20 : decode cX12_choice 20 = .ok (.aload_n 0, 1) := by decide +kernel
theorem dX12_choice_21 : decode cX12_choice 21 = .ok (.invokevirtual 428, 3) := by decide +kernel
theorem dX12_choice_24 : decode cX12_choice 24 = .ok (.aload_n 0, 1) := by decide +kernel
theorem dX12_choice_25 : decode cX12_choice 25 = .ok (.getfield 425, 3) := by decide +kernel
theorem dX12_choice_28 : decode cX12_choice 28 = .ok (.istore_n 3, 1) := by decide +kernel
theorem dX12_choice_29 : decode cX12_choice 29 = .ok (.aload_n 0, 1) := by decide +kernel
theorem dX12_choice_30 : decode cX12_choice 30 = .ok (.bipush 16, 2) := by decide +kernel
theorem dX12_choice_32 : decode cX12_choice 32 = .ok (.iconst 0, 1) := by decide +kernel
theorem dX12_choice_33 : decode cX12_choice 33 = .ok (.iconst 0, 1) := by decide +kernel
theorem dX12_choice_34 : decode cX12_choice 34 = .ok (.invokevirtual 431, 3) := by decide +kernel
theorem dX12_choice_37 : decode cX12_choice 37 = .ok (.istore 4, 2) := by decide +kernel
theorem dX12_choice_39 : decode cX12_choice 39 = .ok (.aload_n 0, 1) := by decide +kernel
theorem dX12_choice_40 : decode cX12_choice 40 = .ok (.getfield 67, 3) := by decide +kernel
theorem dX12_choice_43 : decode cX12_choice 43 = .ok (.iload_n 1, 1) := by decide +kernel
theorem dX12_choice_44 : decode cX12_choice 44 = .ok (.aload_n 0, 1) := by decide +kernel
theorem dX12_choice_45 : decode cX12_choice 45 = .ok (.getfield 362, 3) := by decide +kernel
theorem dX12_choice_48 : decode cX12_choice 48 = .ok (.iastore, 1) := by decide +kernel
theorem dX12_choice_49 : decode cX12_choice 49 = .ok (.aload_n 0, 1) := by decide +kernel
theorem dX12_choice_50 : decode cX12_choice 50 = .ok (.iload_n 2, 1) := by decide +kernel
theorem dX12_choice_51 : decode cX12_choice 51 = .ok (.putfield 425, 3) := by decide +kernel
theorem dX12_choice_54 : decode cX12_choice 54 = .ok (.aload_n 0, 1) := by decide +kernel
theorem dX12_choice_55 : decode cX12_choice 55 = .ok (.iconst 4, 1) := by decide +kernel
theorem dX12_choice_56 : decode cX12_choice 56 = .ok (.invokevirtual 350, 3) := by decide +kernel
theorem dX12_choice_59 : decode cX12_choice 59 = .ok (.ifCond .eq 7, 3) := by decide +kernel
theorem dX12_choice_62 : decode cX12_choice 62 = .ok (.aload_n 0, 1) := by decide +kernel
theorem dX12_choice_63 : decode cX12_choice 63 = .ok (.invokevirtual 428, 3) := by decide +kernel
theorem dX12_choice_66 : decode cX12_choice 66 = .ok (.aload_n 0, 1) := by decide +kernel
theorem dX12_choice_67 : decode cX12_choice 67 = .ok (.getfield 67, 3) := by decide +kernel
theorem dX12_choice_70 : decode cX12_choice 70 = .ok (.iload 4, 2) := by decide +kernel
theorem dX12_choice_72 : decode cX12_choice 72 = .ok (.aload_n 0, 1) := by decide +kernel
theorem dX12_choice_73 : decode cX12_choice 73 = .ok (.getfield 362, 3) := by decide +kernel
theorem dX12_choice_76 : decode cX12_choice 76 = .ok (.iastore, 1) := by decide +kernel
theorem dX12_choice_77 : decode cX12_choice 77 = .ok (.iload_n 3, 1) := by decide +kernel
theorem dX12_choice_78 : decode cX12_choice 78 = .ok (.ifCond .lt 8, 3) := by decide +kernel
theorem dX12_choice_81 : decode cX12_choice 81 = .ok (.aload_n 0, 1) := by decide +kernel
theorem dX12_choice_82 : decode cX12_choice 82 = .ok (.iload_n 3, 1) := by decide +kernel
theorem dX12_choice_83 : decode cX12_choice 83 = .ok (.invokevirtual 463, 3) := by decide +kernel
theorem dX12_choice_86 : decode cX12_choice 86 = .ok (.return_, 1) := by decide +kernel
theorem dX12_letGo_0 : decode cX12_letGo 0 = .ok (.iload_n 2, 1) := by decide +kernel
theorem dX12_letGo_1 : decode cX12_letGo 1 = .ok (.iconst 1, 1) := by decide +kernel
theorem dX12_letGo_2 : decode cX12_letGo 2 = .ok (.isub, 1) := by decide +kernel
theorem dX12_letGo_3 : decode cX12_letGo 3 = .ok (.istore_n 3, 1) := by decide +kernel
theorem dX12_letGo_4 : decode cX12_letGo 4 = .ok (.iload_n 3, 1) := by decide +kernel
theorem dX12_letGo_5 : decode cX12_letGo 5 = .ok (.iload_n 1, 1) := by decide +kernel
theorem dX12_letGo_6 : decode cX12_letGo 6 = .ok (.if_icmp .lt 78, 3) := by decide +kernel
theorem dX12_letGo_9 : decode cX12_letGo 9 = .ok (.aload_n 0, 1) := by decide +kernel
theorem dX12_letGo_10 : decode cX12_letGo 10 = .ok (.getfield 283, 3) := by decide +kernel
theorem dX12_letGo_13 : decode cX12_letGo 13 = .ok (.iload_n 3, 1) := by decide +kernel
theorem dX12_letGo_14 : decode cX12_letGo 14 = .ok (.iaload, 1) := by decide +kernel
theorem dX12_letGo_15 : decode cX12_letGo 15 = .ok (.ifCond .eq 6, 3) := by decide +kernel
theorem dX12_letGo_18 : decode cX12_letGo 18 = .ok (.goto 60, 3) := by decide +kernel
theorem dX12_letGo_21 : decode cX12_letGo 21 = .ok (.aload_n 0, 1) := by decide +kernel
theorem dX12_letGo_22 : decode cX12_letGo 22 = .ok (.getfield 283, 3) := by decide +kernel
theorem dX12_letGo_25 : decode cX12_letGo 25 = .ok (.iload_n 3, 1) := by decide +kernel
theorem dX12_letGo_26 : decode cX12_letGo 26 = .ok (.iconst 3, 1) := by decide +kernel
theorem dX12_letGo_27 : decode cX12_letGo 27 = .ok (.iastore, 1) := by decide +kernel
theorem dX12_letGo_28 : decode cX12_letGo 28 = .ok (.aload_n 0, 1) := by decide +kernel
theorem dX12_letGo_29 : decode cX12_letGo 29 = .ok (.getfield 274, 3) := by decide +kernel
theorem dX12_letGo_32 : decode cX12_letGo 32 = .ok (.iload_n 3, 1) := by decide +kernel
theorem dX12_letGo_33 : decode cX12_letGo 33 = .ok (.iaload, 1) := by decide +kernel
theorem dX12_letGo_34 : decode cX12_letGo 34 = .ok (.bipush 6, 2) := by decide +kernel
theorem dX12_letGo_36 : decode cX12_letGo 36 = .ok (.if_icmp .ne 17, 3) := by decide +kernel
theorem dX12_letGo_39 : decode cX12_letGo 39 = .ok (.aload_n 0, 1) := by decide +kernel
theorem dX12_letGo_40 : decode cX12_letGo 40 = .ok (.aload_n 0, 1) := by decide +kernel
theorem dX12_letGo_41 : decode cX12_letGo 41 = .ok (.getfield 286, 3) := by decide +kernel
theorem dX12_letGo_44 : decode cX12_letGo 44 = .ok (.iload_n 3, 1) := by decide +kernel
theorem dX12_letGo_45 : decode cX12_letGo 45 = .ok (.iaload, 1) := by decide +kernel
theorem dX12_letGo_46 : decode cX12_letGo 46 = .ok (.invokevirtual 584, 3) := by decide +kernel
theorem dX12_letGo_49 : decode cX12_letGo 49 = .ok (.pop, 1) := by decide +kernel
theorem dX12_letGo_50 : decode cX12_letGo 50 = .ok (.goto 28, 3) := by decide +kernel
theorem dX12_letGo_53 : decode cX12_letGo 53 = .ok (.aload_n 0, 1) := by decide +kernel
theorem dX12_letGo_54 : decode cX12_letGo 54 = .ok (.getfield 274, 3) := by decide +kernel
theorem dX12_letGo_57 : decode cX12_letGo 57 = .ok (.iload_n 3, 1) := by decide +kernel
theorem dX12_letGo_58 : decode cX12_letGo 58 = .ok (.iaload, 1) := by decide +kernel
theorem dX12_letGo_59 : decode cX12_letGo 59 = .ok (.iconst 3, 1) := by decide +kernel
theorem dX12_letGo_60 : decode cX12_letGo 60 = .ok (.if_icmp .eq 13, 3) := by decide +kernel
theorem dX12_letGo_63 : decode cX12_letGo 63 = .ok (.aload_n 0, 1) := by decide +kernel
theorem dX12_letGo_64 : decode cX12_letGo 64 = .ok (.getfield 274, 3) := by decide +kernel
theorem dX12_letGo_67 : decode cX12_letGo 67 = .ok (.iload_n 3, 1) := by decide +kernel
theorem dX12_letGo_68 : decode cX12_letGo 68 = .ok (.iaload, 1) := by decide +kernel
theorem dX12_letGo_69 : decode cX12_letGo 69 = .ok (.iconst 4, 1) := by decide +kernel
theorem dX12_letGo_70 : decode cX12_letGo 70 = .ok (.if_icmp .ne 8, 3) := by decide +kernel
theorem dX12_letGo_73 : decode cX12_letGo 73 = .ok (.aload_n 0, 1) := by decide +kernel
theorem dX12_letGo_74 : decode cX12_letGo 74 = .ok (.iload_n 3, 1) := by decide +kernel
theorem dX12_letGo_75 : decode cX12_letGo 75 = .ok (.invokevirtual 587, 3) := by decide +kernel
theorem dX12_letGo_78 : decode cX12_letGo 78 = .ok (.iinc 3 (-1), 3) := by decide +kernel
theorem dX12_letGo_81 : decode cX12_letGo 81 = .ok (.goto (-77), 3) := by decide +kernel
theorem dX12_letGo_84 : decode cX12_letGo 84 = .ok (.return_, 1) := by decide +kernel
theorem dX12_outOfRow_0 : decode cX12_outOfRow 0 = .ok (.aload_n 0, 1) := by decide +kernel
theorem dX12_outOfRow_1 : decode cX12_outOfRow 1 = .ok (.dup, 1) := by decide +kernel
theorem dX12_outOfRow_2 : decode cX12_outOfRow 2 = .ok (.getfield 545, 3) := by decide +kernel
theorem dX12_outOfRow_5 : decode cX12_outOfRow 5 = .ok (.iconst 1, 1) := by decide +kernel
theorem dX12_outOfRow_6 : decode cX12_outOfRow 6 = .ok (.isub, 1) := by decide +kernel
theorem dX12_outOfRow_7 : decode cX12_outOfRow 7 = .ok (.putfield 545, 3) := by decide +kernel
theorem dX12_outOfRow_10 : decode cX12_outOfRow 10 = .ok (.iload_n 1, 1) := by decide +kernel
theorem dX12_outOfRow_11 : decode cX12_outOfRow 11 = .ok (.istore_n 2, 1) := by decide +kernel
theorem dX12_outOfRow_12 : decode cX12_outOfRow 12 = .ok (.iload_n 2, 1) := by decide +kernel
theorem dX12_outOfRow_13 : decode cX12_outOfRow 13 = .ok (.aload_n 0, 1) := by decide +kernel
theorem dX12_outOfRow_14 : decode cX12_outOfRow 14 = .ok (.getfield 545, 3) := by decide +kernel
theorem dX12_outOfRow_17 : decode cX12_outOfRow 17 = .ok (.if_icmp .ge 23, 3) := by decide +kernel
theorem dX12_outOfRow_20 : decode cX12_outOfRow 20 = .ok (.aload_n 0, 1) := by decide +kernel
theorem dX12_outOfRow_21 : decode cX12_outOfRow 21 = .ok (.getfield 252, 3) := by decide +kernel
theorem dX12_outOfRow_24 : decode cX12_outOfRow 24 = .ok (.iload_n 2, 1) := by decide +kernel
theorem dX12_outOfRow_25 : decode cX12_outOfRow 25 = .ok (.aload_n 0, 1) := by decide +kernel
theorem dX12_outOfRow_26 : decode cX12_outOfRow 26 = .ok (.getfield 252, 3) := by decide +kernel
theorem dX12_outOfRow_29 : decode cX12_outOfRow 29 = .ok (.iload_n 2, 1) := by decide +kernel
theorem dX12_outOfRow_30 : decode cX12_outOfRow 30 = .ok (.iconst 1, 1) := by decide +kernel
theorem dX12_outOfRow_31 : decode cX12_outOfRow 31 = .ok (.iadd, 1) := by decide +kernel
theorem dX12_outOfRow_32 : decode cX12_outOfRow 32 = .ok (.iaload, 1) := by decide +kernel
theorem dX12_outOfRow_33 : decode cX12_outOfRow 33 = .ok (.iastore, 1) := by decide +kernel
theorem dX12_outOfRow_34 : decode cX12_outOfRow 34 = .ok (.iinc 2 1, 3) := by decide +kernel
theorem dX12_outOfRow_37 : decode cX12_outOfRow 37 = .ok (.goto (-25), 3) := by decide +kernel
theorem dX12_outOfRow_40 : decode cX12_outOfRow 40 = .ok (.return_, 1) := by decide +kernel
theorem dX12_standsNoMore_0 : decode cX12_standsNoMore 0 = .ok (.iconst 0, 1) := by decide +kernel
theorem dX12_standsNoMore_1 : decode cX12_standsNoMore 1 = .ok (.istore_n 2, 1) := by decide +kernel
theorem dX12_standsNoMore_2 : decode cX12_standsNoMore 2 = .ok (.iload_n 2, 1) := by decide +kernel
theorem dX12_standsNoMore_3 : decode cX12_standsNoMore 3 = .ok (.aload_n 0, 1) := by decide +kernel
theorem dX12_standsNoMore_4 : decode cX12_standsNoMore 4 = .ok (.getfield 563, 3) := by decide +kernel
theorem dX12_standsNoMore_7 : decode cX12_standsNoMore 7 = .ok (.if_icmp .ge 19, 3) := by decide +kernel
theorem dX12_standsNoMore_10 : decode cX12_standsNoMore 10 = .ok (.aload_n 0, 1) := by decide +kernel
theorem dX12_standsNoMore_11 : decode cX12_standsNoMore 11 = .ok (.getfield 295, 3) := by decide +kernel
theorem dX12_standsNoMore_14 : decode cX12_standsNoMore 14 = .ok (.iload_n 2, 1) := by decide +kernel
theorem dX12_standsNoMore_15 : decode cX12_standsNoMore 15 = .ok (.iaload, 1) := by decide +kernel
theorem dX12_standsNoMore_16 : decode cX12_standsNoMore 16 = .ok (.iload_n 1, 1) := by decide +kernel
theorem dX12_standsNoMore_17 : decode cX12_standsNoMore 17 = .ok (.if_icmp .eq 9, 3) := by decide +kernel
theorem dX12_standsNoMore_20 : decode cX12_standsNoMore 20 = .ok (.iinc 2 1, 3) := by decide +kernel
theorem dX12_standsNoMore_23 : decode cX12_standsNoMore 23 = .ok (.goto (-21), 3) := by decide +kernel
theorem dX12_standsNoMore_26 : decode cX12_standsNoMore 26 = .ok (.iload_n 2, 1) := by decide +kernel
theorem dX12_standsNoMore_27 : decode cX12_standsNoMore 27 = .ok (.aload_n 0, 1) := by decide +kernel
theorem dX12_standsNoMore_28 : decode cX12_standsNoMore 28 = .ok (.getfield 563, 3) := by decide +kernel
theorem dX12_standsNoMore_31 : decode cX12_standsNoMore 31 = .ok (.if_icmp .ge 43, 3) := by decide +kernel
theorem dX12_standsNoMore_34 : decode cX12_standsNoMore 34 = .ok (.aload_n 0, 1) := by decide +kernel
theorem dX12_standsNoMore_35 : decode cX12_standsNoMore 35 = .ok (.dup, 1) := by decide +kernel
theorem dX12_standsNoMore_36 : decode cX12_standsNoMore 36 = .ok (.getfield 563, 3) := by decide +kernel
theorem dX12_standsNoMore_39 : decode cX12_standsNoMore 39 = .ok (.iconst 1, 1) := by decide +kernel
theorem dX12_standsNoMore_40 : decode cX12_standsNoMore 40 = .ok (.isub, 1) := by decide +kernel
theorem dX12_standsNoMore_41 : decode cX12_standsNoMore 41 = .ok (.putfield 563, 3) := by decide +kernel
theorem dX12_standsNoMore_44 : decode cX12_standsNoMore 44 = .ok (.iload_n 2, 1) := by decide +kernel
theorem dX12_standsNoMore_45 : decode cX12_standsNoMore 45 = .ok (.istore_n 3, 1) := by decide +kernel
theorem dX12_standsNoMore_46 : decode cX12_standsNoMore 46 = .ok (.iload_n 3, 1) := by decide +kernel
theorem dX12_standsNoMore_47 : decode cX12_standsNoMore 47 = .ok (.aload_n 0, 1) := by decide +kernel
theorem dX12_standsNoMore_48 : decode cX12_standsNoMore 48 = .ok (.getfield 563, 3) := by decide +kernel
theorem dX12_standsNoMore_51 : decode cX12_standsNoMore 51 = .ok (.if_icmp .ge 23, 3) := by decide +kernel
theorem dX12_standsNoMore_54 : decode cX12_standsNoMore 54 = .ok (.aload_n 0, 1) := by decide +kernel
theorem dX12_standsNoMore_55 : decode cX12_standsNoMore 55 = .ok (.getfield 295, 3) := by decide +kernel
theorem dX12_standsNoMore_58 : decode cX12_standsNoMore 58 = .ok (.iload_n 3, 1) := by decide +kernel
theorem dX12_standsNoMore_59 : decode cX12_standsNoMore 59 = .ok (.aload_n 0, 1) := by decide +kernel
theorem dX12_standsNoMore_60 : decode cX12_standsNoMore 60 = .ok (.getfield 295, 3) := by decide +kernel
theorem dX12_standsNoMore_63 : decode cX12_standsNoMore 63 = .ok (.iload_n 3, 1) := by decide +kernel
theorem dX12_standsNoMore_64 : decode cX12_standsNoMore 64 = .ok (.iconst 1, 1) := by decide +kernel
theorem dX12_standsNoMore_65 : decode cX12_standsNoMore 65 = .ok (.iadd, 1) := by decide +kernel
theorem dX12_standsNoMore_66 : decode cX12_standsNoMore 66 = .ok (.iaload, 1) := by decide +kernel
theorem dX12_standsNoMore_67 : decode cX12_standsNoMore 67 = .ok (.iastore, 1) := by decide +kernel
theorem dX12_standsNoMore_68 : decode cX12_standsNoMore 68 = .ok (.iinc 3 1, 3) := by decide +kernel
theorem dX12_standsNoMore_71 : decode cX12_standsNoMore 71 = .ok (.goto (-25), 3) := by decide +kernel
theorem dX12_standsNoMore_74 : decode cX12_standsNoMore 74 = .ok (.return_, 1) := by decide +kernel
theorem dX12_statement_0 : decode cX12_statement 0 = .ok (.aload_n 0, 1) := by decide +kernel
theorem dX12_statement_1 : decode cX12_statement 1 = .ok (.iconst 5, 1) := by decide +kernel
theorem dX12_statement_2 : decode cX12_statement 2 = .ok (.invokevirtual 350, 3) := by decide +kernel
theorem dX12_statement_5 : decode cX12_statement 5 = .ok (.ifCond .eq 8, 3) := by decide +kernel
theorem dX12_statement_8 : decode cX12_statement 8 = .ok (.aload_n 0, 1) := by decide +kernel
theorem dX12_statement_9 : decode cX12_statement 9 = .ok (.invokevirtual 445, 3) := by decide +kernel
theorem dX12_statement_12 : decode cX12_statement 12 = .ok (.return_, 1) := by decide +kernel
theorem dX12_statement_13 : decode cX12_statement 13 = .ok (.aload_n 0, 1) := by decide +kernel
theorem dX12_statement_14 : decode cX12_statement 14 = .ok (.iconst 1, 1) := by decide +kernel
theorem dX12_statement_15 : decode cX12_statement 15 = .ok (.iconst 0, 1) := by decide +kernel
theorem dX12_statement_16 : decode cX12_statement 16 = .ok (.iconst 0, 1) := by decide +kernel
theorem dX12_statement_17 : decode cX12_statement 17 = .ok (.invokevirtual 431, 3) := by decide +kernel
theorem dX12_statement_20 : decode cX12_statement 20 = .ok (.istore_n 1, 1) := by decide +kernel
theorem dX12_statement_21 : decode cX12_statement 21 = .ok (.aload_n 0, 1) := by decide +kernel
theorem dX12_statement_22 : decode cX12_statement 22 = .ok (.iconst 3, 1) := by decide +kernel
theorem dX12_statement_23 : decode cX12_statement 23 = .ok (.invokevirtual 350, 3) := by decide +kernel
theorem dX12_statement_26 : decode cX12_statement 26 = .ok (.ifCond .eq 10, 3) := by decide +kernel
theorem dX12_statement_29 : decode cX12_statement 29 = .ok (.aload_n 0, 1) := by decide +kernel
theorem dX12_statement_30 : decode cX12_statement 30 = .ok (.invokevirtual 448, 3) := by decide +kernel
theorem dX12_statement_33 : decode cX12_statement 33 = .ok (.goto 29, 3) := by decide +kernel
theorem dX12_statement_36 : decode cX12_statement 36 = .ok (.aload_n 0, 1) := by decide +kernel
theorem dX12_statement_37 : decode cX12_statement 37 = .ok (.bipush 10, 2) := by decide +kernel
theorem dX12_statement_39 : decode cX12_statement 39 = .ok (.invokevirtual 350, 3) := by decide +kernel
theorem dX12_statement_42 : decode cX12_statement 42 = .ok (.ifCond .eq 10, 3) := by decide +kernel
theorem dX12_statement_45 : decode cX12_statement 45 = .ok (.aload_n 0, 1) := by decide +kernel
theorem dX12_statement_46 : decode cX12_statement 46 = .ok (.invokevirtual 451, 3) := by decide +kernel
theorem dX12_statement_49 : decode cX12_statement 49 = .ok (.goto 13, 3) := by decide +kernel
theorem dX12_statement_52 : decode cX12_statement 52 = .ok (.aload_n 0, 1) := by decide +kernel
theorem dX12_statement_53 : decode cX12_statement 53 = .ok (.invokevirtual 454, 3) := by decide +kernel
theorem dX12_statement_56 : decode cX12_statement 56 = .ok (.aload_n 0, 1) := by decide +kernel
theorem dX12_statement_57 : decode cX12_statement 57 = .ok (.bipush 59, 2) := by decide +kernel
theorem dX12_statement_59 : decode cX12_statement 59 = .ok (.invokevirtual 394, 3) := by decide +kernel
theorem dX12_statement_62 : decode cX12_statement 62 = .ok (.return_, 1) := by decide +kernel
theorem dX12_waitEnds_0 : decode cX12_waitEnds 0 = .ok (.aload_n 0, 1) := by decide +kernel
theorem dX12_waitEnds_1 : decode cX12_waitEnds 1 = .ok (.getfield 219, 3) := by decide +kernel
theorem dX12_waitEnds_4 : decode cX12_waitEnds 4 = .ok (.iload_n 1, 1) := by decide +kernel
theorem dX12_waitEnds_5 : decode cX12_waitEnds 5 = .ok (.iload_n 2, 1) := by decide +kernel
theorem dX12_waitEnds_6 : decode cX12_waitEnds 6 = .ok (.iastore, 1) := by decide +kernel
theorem dX12_waitEnds_7 : decode cX12_waitEnds 7 = .ok (.aload_n 0, 1) := by decide +kernel
theorem dX12_waitEnds_8 : decode cX12_waitEnds 8 = .ok (.getfield 222, 3) := by decide +kernel
theorem dX12_waitEnds_11 : decode cX12_waitEnds 11 = .ok (.iload_n 1, 1) := by decide +kernel
theorem dX12_waitEnds_12 : decode cX12_waitEnds 12 = .ok (.iload_n 3, 1) := by decide +kernel
theorem dX12_waitEnds_13 : decode cX12_waitEnds 13 = .ok (.iastore, 1) := by decide +kernel
theorem dX12_waitEnds_14 : decode cX12_waitEnds 14 = .ok (.aload_n 0, 1) := by decide +kernel
theorem dX12_waitEnds_15 : decode cX12_waitEnds 15 = .ok (.getfield 195, 3) := by decide +kernel
theorem dX12_waitEnds_18 : decode cX12_waitEnds 18 = .ok (.iload_n 1, 1) := by decide +kernel
theorem dX12_waitEnds_19 : decode cX12_waitEnds 19 = .ok (.iaload, 1) := by decide +kernel
theorem dX12_waitEnds_20 : decode cX12_waitEnds 20 = .ok (.iconst 1, 1) := by decide +kernel
theorem dX12_waitEnds_21 : decode cX12_waitEnds 21 = .ok (.if_icmp .ne 27, 3) := by decide +kernel
theorem dX12_waitEnds_24 : decode cX12_waitEnds 24 = .ok (.aload_n 0, 1) := by decide +kernel
theorem dX12_waitEnds_25 : decode cX12_waitEnds 25 = .ok (.getfield 234, 3) := by decide +kernel
theorem dX12_waitEnds_28 : decode cX12_waitEnds 28 = .ok (.iload_n 1, 1) := by decide +kernel
theorem dX12_waitEnds_29 : decode cX12_waitEnds 29 = .ok (.iaload, 1) := by decide +kernel
theorem dX12_waitEnds_30 : decode cX12_waitEnds 30 = .ok (.ifCond .le 13, 3) := by decide +kernel
theorem dX12_waitEnds_33 : decode cX12_waitEnds 33 = .ok (.aload_n 0, 1) := by decide +kernel
theorem dX12_waitEnds_34 : decode cX12_waitEnds 34 = .ok (.getfield 195, 3) := by decide +kernel
theorem dX12_waitEnds_37 : decode cX12_waitEnds 37 = .ok (.iload_n 1, 1) := by decide +kernel
theorem dX12_waitEnds_38 : decode cX12_waitEnds 38 = .ok (.iconst 2, 1) := by decide +kernel
theorem dX12_waitEnds_39 : decode cX12_waitEnds 39 = .ok (.iastore, 1) := by decide +kernel
theorem dX12_waitEnds_40 : decode cX12_waitEnds 40 = .ok (.goto 8, 3) := by decide +kernel
theorem dX12_waitEnds_43 : decode cX12_waitEnds 43 = .ok (.aload_n 0, 1) := by decide +kernel
theorem dX12_waitEnds_44 : decode cX12_waitEnds 44 = .ok (.iload_n 1, 1) := by decide +kernel
theorem dX12_waitEnds_45 : decode cX12_waitEnds 45 = .ok (.invokevirtual 566, 3) := by decide +kernel
theorem dX12_waitEnds_48 : decode cX12_waitEnds 48 = .ok (.return_, 1) := by decide +kernel
def wp_choice_66 (r_block : mS → (mS → Prop) → Prop) (K : mS → Prop) (x3 : Int32) (x4 : Int32) (S : mS) : Prop := inR x4 24000 ∧ ∀ S11 : mS, S11 = sF S 13 (ix x4) (S.1 7) → ((x3 < 0 → K S11) ∧ (¬ x3 < 0 → wp_join x3 S11 (fun (S13 : mS) => K S13)))
def wp_choice (r_block : mS → (mS → Prop) → Prop) (S : mS) (K : mS → Prop) : Prop := wq_expression S (fun (S1 : mS) => wp_emit 15 0 0 S1 (fun (S2 : mS) (r2 : Int32) => wp_then 0 0 S2 (fun (S3 : mS) (r3 : Int32) => r_block S3 (fun (S4 : mS) => wp_emit 16 0 0 S4 (fun (S5 : mS) (r5 : Int32) => inR r2 24000 ∧ ∀ S6 : mS, S6 = sF S5 13 (ix r2) (S5.1 7) → ∀ S7 : mS, S7 = sZ S6 19 r3 → wp_hasWord 4 S7 (fun (S8 : mS) (r8 : Int32) => ((r8 = 0 → wp_choice_66 r_block K (S4.1 19) r5 S8) ∧ (¬ r8 = 0 → r_block S8 (fun (S10 : mS) => wp_choice_66 r_block K (S4.1 19) r5 S10)))))))))
theorem cw_X12_join {R : Room} {s : State} {args : Array Value} {fr lo : Nat} (hts : ∀ w ∈ tb, w.before args s = true) (h1 : fr + 1 ≤ R.frames) (h2 : 8 + (3 + 11) + lo ≤ R.locals) : CallW R s args RX12 RX12 463 yX12_join cX12_join 3 none (.code yX12_join cX12_join 3 none :: tb) (mRm fr lo) 0 0 1 := cwV 1 hts (gd_V wd_1902 wd_1904 sl_X12_join wd_15 wd_1905) rfl rfl rfl (by decide +kernel) ⟨h1, h2⟩
set_option maxHeartbeats 4000000 in
set_option maxRecDepth 100000 in
theorem co_choice (l : Launch) (fr lo F Lo : Nat) (r_block : mS → (mS → Prop) → Prop) (hr_block : ∀ (S : mS) (K : mS → Prop), r_block S K → mMv l yX12_block cX12_block 1 none fr lo (fun E => []) S K) (hF : fr + 1 ≤ F) (hL : lo + 20 ≤ Lo) (hF0 : 70 ≤ F) (hL0 : 1515 ≤ Lo) (S : mS) (K : mS → Prop) (h : wp_choice r_block S K) : mMv l yX12_choice cX12_choice 5 none F Lo (fun E => []) S K := by
  refine mv_ofv (by decide) rfl (fun _ => Nat.le_of_ble_eq_true rfl) ?_
  intro E p e R s m args below meth c A ls Q hRf hRl hX hC hl hret
  have hx := hX.1.1
  have hb := hX.1.2.1
  have hown := hX.1.2.2.2.1
  have hts := hX.1.2.2.2.2
  have cut66 : ∀ (x3 : Int32) (x4 : Int32) (S : mS) (H : Heap) (locs : List Loc) (ls : Array Slot), wp_choice_66 r_block K x3 x4 S → mC E A s.heap S H locs → lv_has ls 5 [(0, .ref E.2.1), (3, .int x3), (4, .int x4)] → W p l e R s m args below meth c H locs 0 0 Q (F0 m 66 ls []) := by
    intro x3 x4 S H locs ls h hC hl
    unfold wp_choice_66 at h
    refine lv_aload_n hx hb dX12_choice_66 rfl (lv_at hl 0 rfl) ?_
    refine mv_get (v := .ref (E.2.2.1 13)) hX hC 21 (Nat.le_of_ble_eq_true rfl) wd_1421 rfl dX12_choice_67 ?_
    refine lv_iload hx hb dX12_choice_70 (lv_at hl 2 rfl) ?_
    refine lv_aload_n hx hb dX12_choice_72 rfl (lv_at hl 0 rfl) ?_
    refine mv_get (v := .int (S.1 7)) hX hC 23 (Nat.le_of_ble_eq_true rfl) wd_1423 rfl dX12_choice_73 ?_
    refine mq_ist (n := 24000) (v := S.1 7) hX hC 13 rfl rfl mf_13 dX12_choice_76 h.1 h.2 (fun S11 H locs hC h => ?_)
    refine lv_iload_n hx hb dX12_choice_77 rfl (lv_at hl 1 rfl) ?_
    refine lv_if_lt (tgt := 86) hx hb dX12_choice_78 (by decide) (fun c12 => ?_) (fun c12 => ?_)
    · have h := h.1 c12
      exact hret _ _ _ _ _ hC h dX12_choice_86
    · have h := h.2 c12
      refine lv_aload_n hx hb dX12_choice_81 rfl (lv_at hl 0 rfl) ?_
      refine lv_iload_n hx hb dX12_choice_82 rfl (lv_at hl 1 rfl) ?_
      refine mv_callv [.int x3] (rest := []) hX hC (ct_join l S11 x3 _ h E _) (cw_X12_join hts (by omega) (by omega)) rfl hl.1 (Nat.le_of_ble_eq_true rfl) ⟨Nat.zero_le _, Nat.zero_le _⟩ dX12_choice_83 (fun S13 H locs hC h => ?_)
      exact hret _ _ _ _ _ hC h dX12_choice_86
  have hl : lv_has ls 5 [(0, .ref E.2.1)] := hl
  unfold wp_choice at h
  refine lv_aload_n hx hb dX12_choice_0 rfl (lv_at hl 0 rfl) ?_
  refine mv_callv [] (rest := []) hX hC (ct_expression l S _ h E _) (cw_X12_expression hts (by omega) (by omega)) rfl hl.1 (Nat.le_of_ble_eq_true rfl) ⟨Nat.zero_le _, Nat.zero_le _⟩ dX12_choice_1 (fun S1 H locs hC h => ?_)
  refine lv_aload_n hx hb dX12_choice_4 rfl (lv_at hl 0 rfl) ?_
  refine lv_bipush (v := 15) hx hb dX12_choice_5 (by decide) ?_
  refine lv_iconst (v := 0) hx hb dX12_choice_7 (by decide) ?_
  refine lv_iconst (v := 0) hx hb dX12_choice_8 (by decide) ?_
  refine mv_calli [.int 15, .int 0, .int 0] (rest := []) hX hC (ct_emit l S1 15 0 0 _ h E _) (cw_X12_emit hts (by omega) (by omega)) rfl hl.1 (Nat.le_of_ble_eq_true rfl) ⟨Nat.zero_le _, Nat.zero_le _⟩ dX12_choice_9 (fun r2 S2 H locs hC h => ?_)
  refine lv_istore_n (lv' := [(1, .int r2), (0, .ref E.2.1)]) hx hb dX12_choice_12 rfl hl (by decide) rfl (fun ls hl => ?_)
  refine lv_aload_n hx hb dX12_choice_13 rfl (lv_at hl 1 rfl) ?_
  refine lv_iconst (v := 0) hx hb dX12_choice_14 (by decide) ?_
  refine lv_iconst (v := 0) hx hb dX12_choice_15 (by decide) ?_
  refine mv_calli [.int 0, .int 0] (rest := []) hX hC (ct_then l S2 0 0 _ h E _) (cw_X12_then hts (by omega) (by omega)) rfl hl.1 (Nat.le_of_ble_eq_true rfl) ⟨Nat.zero_le _, Nat.zero_le _⟩ dX12_choice_16 (fun r3 S3 H locs hC h => ?_)
  refine lv_istore_n (lv' := [(2, .int r3), (1, .int r2), (0, .ref E.2.1)]) hx hb dX12_choice_19 rfl hl (by decide) rfl (fun ls hl => ?_)
  refine lv_aload_n hx hb dX12_choice_20 rfl (lv_at hl 2 rfl) ?_
  refine mv_callv [] (rest := []) hX hC (hr_block S3 _ h E _) (cw_X12_block hts (by omega) (by omega)) rfl hl.1 (Nat.le_of_ble_eq_true rfl) ⟨Nat.zero_le _, Nat.zero_le _⟩ dX12_choice_21 (fun S4 H locs hC h => ?_)
  refine lv_aload_n hx hb dX12_choice_24 rfl (lv_at hl 2 rfl) ?_
  refine mv_get (v := .int (S4.1 19)) hX hC 69 (Nat.le_of_ble_eq_true rfl) wd_1469 rfl dX12_choice_25 ?_
  refine lv_istore_n (lv' := [(3, .int (S4.1 19)), (2, .int r3), (1, .int r2), (0, .ref E.2.1)]) hx hb dX12_choice_28 rfl hl (by decide) rfl (fun ls hl => ?_)
  refine lv_aload_n hx hb dX12_choice_29 rfl (lv_at hl 3 rfl) ?_
  refine lv_bipush (v := 16) hx hb dX12_choice_30 (by decide) ?_
  refine lv_iconst (v := 0) hx hb dX12_choice_32 (by decide) ?_
  refine lv_iconst (v := 0) hx hb dX12_choice_33 (by decide) ?_
  refine mv_calli [.int 16, .int 0, .int 0] (rest := []) hX hC (ct_emit l S4 16 0 0 _ h E _) (cw_X12_emit hts (by omega) (by omega)) rfl hl.1 (Nat.le_of_ble_eq_true rfl) ⟨Nat.zero_le _, Nat.zero_le _⟩ dX12_choice_34 (fun r5 S5 H locs hC h => ?_)
  refine lv_istore (lv' := [(4, .int r5), (3, .int (S4.1 19)), (2, .int r3), (1, .int r2), (0, .ref E.2.1)]) hx hb dX12_choice_37 hl (by decide) rfl (fun ls hl => ?_)
  refine lv_aload_n hx hb dX12_choice_39 rfl (lv_at hl 4 rfl) ?_
  refine mv_get (v := .ref (E.2.2.1 13)) hX hC 21 (Nat.le_of_ble_eq_true rfl) wd_1421 rfl dX12_choice_40 ?_
  refine lv_iload_n hx hb dX12_choice_43 rfl (lv_at hl 3 rfl) ?_
  refine lv_aload_n hx hb dX12_choice_44 rfl (lv_at hl 4 rfl) ?_
  refine mv_get (v := .int (S5.1 7)) hX hC 23 (Nat.le_of_ble_eq_true rfl) wd_1423 rfl dX12_choice_45 ?_
  refine mq_ist (n := 24000) (v := S5.1 7) hX hC 13 rfl rfl mf_13 dX12_choice_48 h.1 h.2 (fun S6 H locs hC h => ?_)
  refine lv_aload_n hx hb dX12_choice_49 rfl (lv_at hl 4 rfl) ?_
  refine lv_iload_n hx hb dX12_choice_50 rfl (lv_at hl 2 rfl) ?_
  refine mq_put (v := r3) hX hC 69 19 (Nat.le_of_ble_eq_true rfl) wd_1469 rfl rfl rfl mz_19 dX12_choice_51 h (fun S7 H locs hC h => ?_)
  refine lv_aload_n hx hb dX12_choice_54 rfl (lv_at hl 4 rfl) ?_
  refine lv_iconst (v := 4) hx hb dX12_choice_55 (by decide) ?_
  refine mv_calli [.int 4] (rest := []) hX hC (ct_hasWord l S7 4 _ h E _) (cw_X12_hasWord hts (by omega) (by omega)) rfl hl.1 (Nat.le_of_ble_eq_true rfl) ⟨Nat.zero_le _, Nat.zero_le _⟩ dX12_choice_56 (fun r8 S8 H locs hC h => ?_)
  refine lv_if_eq (tgt := 66) hx hb dX12_choice_59 (by decide) (fun c9 => ?_) (fun c9 => ?_)
  · have h := h.1 c9
    exact cut66 (S4.1 19) r5 S8 _ _ _ h hC (lv_sub hl [4, 1, 0] rfl)
  · have h := h.2 c9
    refine lv_aload_n hx hb dX12_choice_62 rfl (lv_at hl 4 rfl) ?_
    refine mv_callv [] (rest := []) hX hC (hr_block S8 _ h E _) (cw_X12_block hts (by omega) (by omega)) rfl hl.1 (Nat.le_of_ble_eq_true rfl) ⟨Nat.zero_le _, Nat.zero_le _⟩ dX12_choice_63 (fun S10 H locs hC h => ?_)
    exact cut66 (S4.1 19) r5 S10 _ _ _ h hC (lv_sub hl [4, 1, 0] rfl)
def wp_statement (r_block : mS → (mS → Prop) → Prop) (S : mS) (K : mS → Prop) : Prop := wp_hasWord 5 S (fun (S1 : mS) (r1 : Int32) => ((r1 = 0 → wp_emit 1 0 0 S1 (fun (S3 : mS) (r3 : Int32) => wp_hasWord 3 S3 (fun (S4 : mS) (r4 : Int32) => ((r4 = 0 → wp_hasWord 10 S4 (fun (S6 : mS) (r6 : Int32) => ((r6 = 0 → wp_plain S6 (fun (S8 : mS) => wp_takeSign 59 S8 (fun (S9 : mS) => K S9))) ∧ (¬ r6 = 0 → wp_trial r_block S6 (fun (S10 : mS) => K S10))))) ∧ (¬ r4 = 0 → wp_choice r_block S4 (fun (S11 : mS) => K S11)))))) ∧ (¬ r1 = 0 → wp_loop r_block S1 (fun (S12 : mS) => K S12))))
theorem cw_X12_plain {R : Room} {s : State} {args : Array Value} {fr lo : Nat} (hts : ∀ w ∈ tb, w.before args s = true) (h1 : fr + 1 ≤ R.frames) (h2 : 8 + (2 + 11) + lo ≤ R.locals) : CallW R s args RX12 RX12 454 yX12_plain cX12_plain 2 none (.code yX12_plain cX12_plain 2 none :: tb) (mRm fr lo) 0 0 0 := cwV 0 hts (gd_V wd_1914 wd_1916 sl_X12_plain wd_15 wd_1917) rfl rfl rfl (by decide +kernel) ⟨h1, h2⟩
theorem cw_X12_trial {R : Room} {s : State} {args : Array Value} {fr lo : Nat} (hts : ∀ w ∈ tb, w.before args s = true) (h1 : fr + 1 ≤ R.frames) (h2 : 8 + (8 + 11) + lo ≤ R.locals) : CallW R s args RX12 RX12 451 yX12_trial cX12_trial 8 none (.code yX12_trial cX12_trial 8 none :: tb) (mRm fr lo) 0 0 0 := cwV 0 hts (gd_V wd_1906 wd_1908 sl_X12_trial wd_15 wd_1909) rfl rfl rfl (by decide +kernel) ⟨h1, h2⟩
theorem cw_X12_choice {R : Room} {s : State} {args : Array Value} {fr lo : Nat} (hts : ∀ w ∈ tb, w.before args s = true) (h1 : fr + 1 ≤ R.frames) (h2 : 8 + (5 + 11) + lo ≤ R.locals) : CallW R s args RX12 RX12 448 yX12_choice cX12_choice 5 none (.code yX12_choice cX12_choice 5 none :: tb) (mRm fr lo) 0 0 0 := cwV 0 hts (gd_V wd_1898 wd_1900 sl_X12_choice wd_15 wd_1901) rfl rfl rfl (by decide +kernel) ⟨h1, h2⟩
theorem cw_X12_loop {R : Room} {s : State} {args : Array Value} {fr lo : Nat} (hts : ∀ w ∈ tb, w.before args s = true) (h1 : fr + 1 ≤ R.frames) (h2 : 8 + (8 + 11) + lo ≤ R.locals) : CallW R s args RX12 RX12 445 yX12_loop cX12_loop 8 none (.code yX12_loop cX12_loop 8 none :: tb) (mRm fr lo) 0 0 0 := cwV 0 hts (gd_V wd_1858 wd_1860 sl_X12_loop wd_15 wd_1861) rfl rfl rfl (by decide +kernel) ⟨h1, h2⟩
set_option maxHeartbeats 4000000 in
set_option maxRecDepth 100000 in
theorem co_statement (l : Launch) (fr lo F Lo : Nat) (r_block : mS → (mS → Prop) → Prop) (hr_block : ∀ (S : mS) (K : mS → Prop), r_block S K → mMv l yX12_block cX12_block 1 none fr lo (fun E => []) S K) (hF : fr + 3 ≤ F) (hL : lo + 71 ≤ Lo) (hF0 : 87 ≤ F) (hL0 : 1905 ≤ Lo) (S : mS) (K : mS → Prop) (h : wp_statement r_block S K) : mMv l yX12_statement cX12_statement 2 none F Lo (fun E => []) S K := by
  refine mv_ofv (by decide) rfl (fun _ => Nat.le_of_ble_eq_true rfl) ?_
  intro E p e R s m args below meth c A ls Q hRf hRl hX hC hl hret
  have hx := hX.1.1
  have hb := hX.1.2.1
  have hown := hX.1.2.2.2.1
  have hts := hX.1.2.2.2.2
  have hl : lv_has ls 2 [(0, .ref E.2.1)] := hl
  unfold wp_statement at h
  refine lv_aload_n hx hb dX12_statement_0 rfl (lv_at hl 0 rfl) ?_
  refine lv_iconst (v := 5) hx hb dX12_statement_1 (by decide) ?_
  refine mv_calli [.int 5] (rest := []) hX hC (ct_hasWord l S 5 _ h E _) (cw_X12_hasWord hts (by omega) (by omega)) rfl hl.1 (Nat.le_of_ble_eq_true rfl) ⟨Nat.zero_le _, Nat.zero_le _⟩ dX12_statement_2 (fun r1 S1 H locs hC h => ?_)
  refine lv_if_eq (tgt := 13) hx hb dX12_statement_5 (by decide) (fun c2 => ?_) (fun c2 => ?_)
  · have h := h.1 c2
    refine lv_aload_n hx hb dX12_statement_13 rfl (lv_at hl 0 rfl) ?_
    refine lv_iconst (v := 1) hx hb dX12_statement_14 (by decide) ?_
    refine lv_iconst (v := 0) hx hb dX12_statement_15 (by decide) ?_
    refine lv_iconst (v := 0) hx hb dX12_statement_16 (by decide) ?_
    refine mv_calli [.int 1, .int 0, .int 0] (rest := []) hX hC (ct_emit l S1 1 0 0 _ h E _) (cw_X12_emit hts (by omega) (by omega)) rfl hl.1 (Nat.le_of_ble_eq_true rfl) ⟨Nat.zero_le _, Nat.zero_le _⟩ dX12_statement_17 (fun r3 S3 H locs hC h => ?_)
    refine lv_istore_n (lv' := [(1, .int r3), (0, .ref E.2.1)]) hx hb dX12_statement_20 rfl hl (by decide) rfl (fun ls hl => ?_)
    refine lv_aload_n hx hb dX12_statement_21 rfl (lv_at hl 1 rfl) ?_
    refine lv_iconst (v := 3) hx hb dX12_statement_22 (by decide) ?_
    refine mv_calli [.int 3] (rest := []) hX hC (ct_hasWord l S3 3 _ h E _) (cw_X12_hasWord hts (by omega) (by omega)) rfl hl.1 (Nat.le_of_ble_eq_true rfl) ⟨Nat.zero_le _, Nat.zero_le _⟩ dX12_statement_23 (fun r4 S4 H locs hC h => ?_)
    refine lv_if_eq (tgt := 36) hx hb dX12_statement_26 (by decide) (fun c5 => ?_) (fun c5 => ?_)
    · have h := h.1 c5
      refine lv_aload_n hx hb dX12_statement_36 rfl (lv_at hl 1 rfl) ?_
      refine lv_bipush (v := 10) hx hb dX12_statement_37 (by decide) ?_
      refine mv_calli [.int 10] (rest := []) hX hC (ct_hasWord l S4 10 _ h E _) (cw_X12_hasWord hts (by omega) (by omega)) rfl hl.1 (Nat.le_of_ble_eq_true rfl) ⟨Nat.zero_le _, Nat.zero_le _⟩ dX12_statement_39 (fun r6 S6 H locs hC h => ?_)
      refine lv_if_eq (tgt := 52) hx hb dX12_statement_42 (by decide) (fun c7 => ?_) (fun c7 => ?_)
      · have h := h.1 c7
        refine lv_aload_n hx hb dX12_statement_52 rfl (lv_at hl 1 rfl) ?_
        refine mv_callv [] (rest := []) hX hC (ct_plain l S6 _ h E _) (cw_X12_plain hts (by omega) (by omega)) rfl hl.1 (Nat.le_of_ble_eq_true rfl) ⟨Nat.zero_le _, Nat.zero_le _⟩ dX12_statement_53 (fun S8 H locs hC h => ?_)
        refine lv_aload_n hx hb dX12_statement_56 rfl (lv_at hl 1 rfl) ?_
        refine lv_bipush (v := 59) hx hb dX12_statement_57 (by decide) ?_
        refine mv_callv [.int 59] (rest := []) hX hC (ct_takeSign l S8 59 _ h E _) (cw_X12_takeSign hts (by omega) (by omega)) rfl hl.1 (Nat.le_of_ble_eq_true rfl) ⟨Nat.zero_le _, Nat.zero_le _⟩ dX12_statement_59 (fun S9 H locs hC h => ?_)
        exact hret _ _ _ _ _ hC h dX12_statement_62
      · have h := h.2 c7
        refine lv_aload_n hx hb dX12_statement_45 rfl (lv_at hl 1 rfl) ?_
        refine mv_callv [] (rest := []) hX hC (co_trial l fr lo (max (fr + 2) 3) (max (lo + 44) 69) r_block hr_block (Nat.le_max_left _ _) (Nat.le_max_left _ _) (Nat.le_max_right _ _) (Nat.le_max_right _ _) S6 _ h E _) (cw_X12_trial hts (by omega) (by omega)) rfl hl.1 (Nat.le_of_ble_eq_true rfl) ⟨Nat.zero_le _, Nat.zero_le _⟩ dX12_statement_46 (fun S10 H locs hC h => ?_)
        refine lv_goto (tgt := 62) hx hb dX12_statement_49 (by decide) ?_
        exact hret _ _ _ _ _ hC h dX12_statement_62
    · have h := h.2 c5
      refine lv_aload_n hx hb dX12_statement_29 rfl (lv_at hl 1 rfl) ?_
      refine mv_callv [] (rest := []) hX hC (co_choice l fr lo (max (fr + 1) 70) (max (lo + 20) 1515) r_block hr_block (Nat.le_max_left _ _) (Nat.le_max_left _ _) (Nat.le_max_right _ _) (Nat.le_max_right _ _) S4 _ h E _) (cw_X12_choice hts (by omega) (by omega)) rfl hl.1 (Nat.le_of_ble_eq_true rfl) ⟨Nat.zero_le _, Nat.zero_le _⟩ dX12_statement_30 (fun S11 H locs hC h => ?_)
      refine lv_goto (tgt := 62) hx hb dX12_statement_33 (by decide) ?_
      exact hret _ _ _ _ _ hC h dX12_statement_62
  · have h := h.2 c2
    refine lv_aload_n hx hb dX12_statement_8 rfl (lv_at hl 0 rfl) ?_
    refine mv_callv [] (rest := []) hX hC (co_loop l fr lo (max (fr + 1) 70) (max (lo + 20) 1515) r_block hr_block (Nat.le_max_left _ _) (Nat.le_max_left _ _) (Nat.le_max_right _ _) (Nat.le_max_right _ _) S1 _ h E _) (cw_X12_loop hts (by omega) (by omega)) rfl hl.1 (Nat.le_of_ble_eq_true rfl) ⟨Nat.zero_le _, Nat.zero_le _⟩ dX12_statement_9 (fun S12 H locs hC h => ?_)
    exact hret _ _ _ _ _ hC h dX12_statement_12
def wp_block_39 (r_block : mS → (mS → Prop) → Prop) (K : mS → Prop) (S : mS) : Prop := wp_takeSign 125 S (fun (S8 : mS) => ∀ z9 : Int32, z9 = (S8.1 18) - 1 → ∀ S10 : mS, S10 = sZ S8 18 z9 → K S10)
def wp_block_16 (r_block : mS → (mS → Prop) → Prop) (K : mS → Prop) (k16 : mS → Prop) (S : mS) : Prop := ((¬ (S.1 4) = 0 → wp_block_39 r_block K S) ∧ ((S.1 4) = 0 → wp_isSign 125 S (fun (S5 : mS) (r5 : Int32) => ((¬ r5 = 0 → wp_block_39 r_block K S5) ∧ (r5 = 0 → wp_statement r_block S5 (fun (S7 : mS) => k16 S7))))))
def ls_block_16 (r_block : mS → (mS → Prop) → Prop) (K : mS → Prop) (k16 : mS → Prop) (u : mS) : Prop := wp_block_16 r_block K k16 u
def wp_block (r_block : mS → (mS → Prop) → Prop) (S : mS) (K : mS → Prop) : Prop := wp_isSign 123 S (fun (S1 : mS) (r1 : Int32) => wp_within r1 S1 (fun (S2 : mS) => wp_takeSign 123 S2 (fun (S3 : mS) => (∃ n9, it (ls_block_16 r_block K) n9 S3))))
theorem cw_X12_statement {R : Room} {s : State} {args : Array Value} {fr lo : Nat} (hts : ∀ w ∈ tb, w.before args s = true) (h1 : fr + 1 ≤ R.frames) (h2 : 8 + (2 + 11) + lo ≤ R.locals) : CallW R s args RX12 RX12 442 yX12_statement cX12_statement 2 none (.code yX12_statement cX12_statement 2 none :: tb) (mRm fr lo) 0 0 0 := cwV 0 hts (gd_V wd_1850 wd_1852 sl_X12_statement wd_15 wd_1853) rfl rfl rfl (by decide +kernel) ⟨h1, h2⟩
set_option maxHeartbeats 4000000 in
set_option maxRecDepth 100000 in
theorem co_block (l : Launch) (fr lo F Lo : Nat) (r_block : mS → (mS → Prop) → Prop) (hr_block : ∀ (S : mS) (K : mS → Prop), r_block S K → mMv l yX12_block cX12_block 1 none fr lo (fun E => []) S K) (hF : fr + 4 ≤ F) (hL : lo + 92 ≤ Lo) (hF0 : 88 ≤ F) (hL0 : 1926 ≤ Lo) (S : mS) (K : mS → Prop) (h : wp_block r_block S K) : mMv l yX12_block cX12_block 1 none F Lo (fun E => []) S K := by
  refine mv_ofv (by decide) rfl (fun _ => Nat.le_of_ble_eq_true rfl) ?_
  intro E p e R s m args below meth c A ls Q hRf hRl hX hC hl hret
  have hx := hX.1.1
  have hb := hX.1.2.1
  have hown := hX.1.2.2.2.1
  have hts := hX.1.2.2.2.2
  have cut39 : ∀ (S : mS) (H : Heap) (locs : List Loc) (ls : Array Slot), wp_block_39 r_block K S → mC E A s.heap S H locs → lv_has ls 1 [(0, .ref E.2.1)] → W p l e R s m args below meth c H locs 0 0 Q (F0 m 39 ls []) := by
    intro S H locs ls h hC hl
    unfold wp_block_39 at h
    refine lv_aload_n hx hb dX12_block_39 rfl (lv_at hl 0 rfl) ?_
    refine lv_bipush (v := 125) hx hb dX12_block_40 (by decide) ?_
    refine mv_callv [.int 125] (rest := []) hX hC (ct_takeSign l S 125 _ h E _) (cw_X12_takeSign hts (by omega) (by omega)) rfl hl.1 (Nat.le_of_ble_eq_true rfl) ⟨Nat.zero_le _, Nat.zero_le _⟩ dX12_block_42 (fun S8 H locs hC h => ?_)
    refine lv_aload_n hx hb dX12_block_45 rfl (lv_at hl 0 rfl) ?_
    refine lv_dup hx hb dX12_block_46 rfl ?_
    refine mv_get (v := .int (S8.1 18)) hX hC 68 (Nat.le_of_ble_eq_true rfl) wd_1468 rfl dX12_block_47 ?_
    refine lv_iconst (v := 1) hx hb dX12_block_50 (by decide) ?_
    refine lq_isub hx hb dX12_block_51 h (fun z9 h => ?_)
    refine mq_put (v := z9) hX hC 68 18 (Nat.le_of_ble_eq_true rfl) wd_1468 rfl rfl rfl mz_18 dX12_block_52 h (fun S10 H locs hC h => ?_)
    exact hret _ _ _ _ _ hC h dX12_block_55
  have cut16 : ∀ (n16 : Nat) (S : mS) (H : Heap) (locs : List Loc) (ls : Array Slot), it (ls_block_16 r_block K) n16 S → mC E A s.heap S H locs → lv_has ls 1 [(0, .ref E.2.1)] → W p l e R s m args below meth c H locs 0 0 Q (F0 m 16 ls []) := by
    intro n16
    induction n16 with
    | zero => intro S H locs ls h hC hl; exact h.elim
    | succ n16 ih16 =>
      intro S H locs ls h hC hl
      have h : wp_block_16 r_block K (it (ls_block_16 r_block K) n16) S := h
      unfold wp_block_16 at h
      refine lv_aload_n hx hb dX12_block_16 rfl (lv_at hl 0 rfl) ?_
      refine mv_get (v := .int (S.1 4)) hX hC 8 (Nat.le_of_ble_eq_true rfl) wd_1408 rfl dX12_block_17 ?_
      refine lv_if_ne (tgt := 39) hx hb dX12_block_20 (by decide) (fun c4 => ?_) (fun c4 => ?_)
      · have h := h.1 c4
        exact cut39 S _ _ _ h hC (lv_sub hl [0] rfl)
      · have h := h.2 c4
        refine lv_aload_n hx hb dX12_block_23 rfl (lv_at hl 0 rfl) ?_
        refine lv_bipush (v := 125) hx hb dX12_block_24 (by decide) ?_
        refine mv_calli [.int 125] (rest := []) hX hC (ct_isSign l S 125 _ h E _) (cw_X12_isSign hts (by omega) (by omega)) rfl hl.1 (Nat.le_of_ble_eq_true rfl) ⟨Nat.zero_le _, Nat.zero_le _⟩ dX12_block_26 (fun r5 S5 H locs hC h => ?_)
        refine lv_if_ne (tgt := 39) hx hb dX12_block_29 (by decide) (fun c6 => ?_) (fun c6 => ?_)
        · have h := h.1 c6
          exact cut39 S5 _ _ _ h hC (lv_sub hl [0] rfl)
        · have h := h.2 c6
          refine lv_aload_n hx hb dX12_block_32 rfl (lv_at hl 0 rfl) ?_
          refine mv_callv [] (rest := []) hX hC (co_statement l fr lo (max (fr + 3) 87) (max (lo + 71) 1905) r_block hr_block (Nat.le_max_left _ _) (Nat.le_max_left _ _) (Nat.le_max_right _ _) (Nat.le_max_right _ _) S5 _ h E _) (cw_X12_statement hts (by omega) (by omega)) rfl hl.1 (Nat.le_of_ble_eq_true rfl) ⟨Nat.zero_le _, Nat.zero_le _⟩ dX12_block_33 (fun S7 H locs hC h => ?_)
          refine lv_goto (tgt := 16) hx hb dX12_block_36 (by decide) ?_
          exact ih16 S7 _ _ _ h hC (lv_sub hl [0] rfl)
  have hl : lv_has ls 1 [(0, .ref E.2.1)] := hl
  unfold wp_block at h
  refine lv_aload_n hx hb dX12_block_0 rfl (lv_at hl 0 rfl) ?_
  refine lv_aload_n hx hb dX12_block_1 rfl (lv_at hl 0 rfl) ?_
  refine lv_bipush (v := 123) hx hb dX12_block_2 (by decide) ?_
  refine mv_calli [.int 123] (rest := [.ref E.2.1]) hX hC (ct_isSign l S 123 _ h E _) (cw_X12_isSign hts (by omega) (by omega)) rfl hl.1 (Nat.le_of_ble_eq_true rfl) ⟨Nat.zero_le _, Nat.zero_le _⟩ dX12_block_4 (fun r1 S1 H locs hC h => ?_)
  refine mv_callv [.int r1] (rest := []) hX hC (ct_within l S1 r1 _ h E _) (cw_X12_within hts (by omega) (by omega)) rfl hl.1 (Nat.le_of_ble_eq_true rfl) ⟨Nat.zero_le _, Nat.zero_le _⟩ dX12_block_7 (fun S2 H locs hC h => ?_)
  refine lv_aload_n hx hb dX12_block_10 rfl (lv_at hl 0 rfl) ?_
  refine lv_bipush (v := 123) hx hb dX12_block_11 (by decide) ?_
  refine mv_callv [.int 123] (rest := []) hX hC (ct_takeSign l S2 123 _ h E _) (cw_X12_takeSign hts (by omega) (by omega)) rfl hl.1 (Nat.le_of_ble_eq_true rfl) ⟨Nat.zero_le _, Nat.zero_le _⟩ dX12_block_13 (fun S3 H locs hC h => ?_)
  obtain ⟨n9, h⟩ := h
  exact cut16 n9 S3 _ _ _ h hC (lv_sub hl [0] rfl)
def wr_block : Nat → mS → (mS → Prop) → Prop
  | 0 => fun _ _ => False
  | n + 1 => wp_block (wr_block n)
def wq_inBlock : Int32 → Int32 → mS → (mS → Prop) → Prop := wp_inBlock (wr_block 12)
def wq_trial : mS → (mS → Prop) → Prop := wp_trial (wr_block 12)
def wq_loop : mS → (mS → Prop) → Prop := wp_loop (wr_block 12)
def wq_choice : mS → (mS → Prop) → Prop := wp_choice (wr_block 12)
def wq_statement : mS → (mS → Prop) → Prop := wp_statement (wr_block 12)
def wq_block : mS → (mS → Prop) → Prop := (wr_block 12)
set_option maxRecDepth 100000 in
theorem cr_block (l : Launch) : ∀ n : Nat, (∀ (S : mS) (K : mS → Prop), (wr_block n) S K → mMv l yX12_block cX12_block 1 none (4 * n + 88) (92 * n + 1926) (fun E => []) S K) := by
  intro n
  induction n with
  | zero => exact fun _ _ h => h.elim
  | succ n ih => exact fun S K h => co_block l (4 * n + 88) (92 * n + 1926) _ _ (wr_block n) ih (by omega) (by omega) (by omega) (by omega) S K h
theorem ct_inBlock (l : Launch) (S : mS) (a0 : Int32) (a1 : Int32) (K : mS → Prop) (h : wq_inBlock a0 a1 S K) : mMv l yX12_inBlock cX12_inBlock 5 none 137 3050 (fun E => [.int a0, .int a1]) S K := co_inBlock l (4 * 12 + 88) (92 * 12 + 1926) _ _ (wr_block 12) (cr_block l 12) (by omega) (by omega) (by omega) (by omega) S a0 a1 K h
theorem ct_trial (l : Launch) (S : mS) (K : mS → Prop) (h : wq_trial S K) : mMv l yX12_trial cX12_trial 8 none 138 3074 (fun E => []) S K := co_trial l (4 * 12 + 88) (92 * 12 + 1926) _ _ (wr_block 12) (cr_block l 12) (by omega) (by omega) (by omega) (by omega) S K h
theorem ct_loop (l : Launch) (S : mS) (K : mS → Prop) (h : wq_loop S K) : mMv l yX12_loop cX12_loop 8 none 137 3050 (fun E => []) S K := co_loop l (4 * 12 + 88) (92 * 12 + 1926) _ _ (wr_block 12) (cr_block l 12) (by omega) (by omega) (by omega) (by omega) S K h
theorem ct_choice (l : Launch) (S : mS) (K : mS → Prop) (h : wq_choice S K) : mMv l yX12_choice cX12_choice 5 none 137 3050 (fun E => []) S K := co_choice l (4 * 12 + 88) (92 * 12 + 1926) _ _ (wr_block 12) (cr_block l 12) (by omega) (by omega) (by omega) (by omega) S K h
theorem ct_statement (l : Launch) (S : mS) (K : mS → Prop) (h : wq_statement S K) : mMv l yX12_statement cX12_statement 2 none 139 3101 (fun E => []) S K := co_statement l (4 * 12 + 88) (92 * 12 + 1926) _ _ (wr_block 12) (cr_block l 12) (by omega) (by omega) (by omega) (by omega) S K h
theorem ct_block (l : Launch) (S : mS) (K : mS → Prop) (h : wq_block S K) : mMv l yX12_block cX12_block 1 none (4 * 12 + 88) (92 * 12 + 1926) (fun E => []) S K := (cr_block l 12) S K h
def wp_box (a0 : Int32) (a1 : Int32) (S : mS) (K : mS → Int32 → Prop) : Prop := ∀ S1 : mS, S1 = sZ S 0 0 → ((a0 < 0 → K S1 0) ∧ (¬ a0 < 0 → ((7 < a0 → K S1 0) ∧ (¬ 7 < a0 → ((a1 < 0 → K S1 0) ∧ (¬ a1 < 0 → inR a0 8 ∧ ∀ z5 : Int32, z5 = S1.2.1 78 (ix a0) → ((a1 < z5 → ∀ z7 : Int32, z7 = 50 * a0 → ∀ z8 : Int32, z8 = z7 + a1 → inR z8 400 ∧ ∀ z9 : Int32, z9 = S1.2.1 79 (ix z8) → K S1 z9) ∧ (¬ a1 < z5 → K S1 0))))))))
set_option maxHeartbeats 4000000 in
set_option maxRecDepth 100000 in
theorem ct_box (l : Launch) (S : mS) (a0 : Int32) (a1 : Int32) (K : mS → Int32 → Prop) (h : wp_box a0 a1 S K) : mMi l yX12_box cX12_box 3 (some .int) 0 0 (fun E => [.int a0, .int a1]) S K := by
  refine mv_ofi (by decide) rfl (fun _ => Nat.le_of_ble_eq_true rfl) ?_
  intro E p e R s m args below meth c A ls Q hRf hRl hX hC hl hret
  have hx := hX.1.1
  have hb := hX.1.2.1
  have hown := hX.1.2.2.2.1
  have hts := hX.1.2.2.2.2
  have hl : lv_has ls 3 [(0, .ref E.2.1), (1, .int a0), (2, .int a1)] := hl
  unfold wp_box at h
  refine lv_aload_n hx hb dX12_box_0 rfl (lv_at hl 0 rfl) ?_
  refine lv_iconst (v := 0) hx hb dX12_box_1 (by decide) ?_
  refine mq_put (v := 0) hX hC 0 0 (Nat.le_of_ble_eq_true rfl) wd_1400 rfl rfl rfl mz_0 dX12_box_2 h (fun S1 H locs hC h => ?_)
  refine lv_iload_n hx hb dX12_box_5 rfl (lv_at hl 1 rfl) ?_
  refine lv_if_lt (tgt := 29) hx hb dX12_box_6 (by decide) (fun c2 => ?_) (fun c2 => ?_)
  · have h := h.1 c2
    refine lv_iconst (v := 0) hx hb dX12_box_29 (by decide) ?_
    refine lv_goto (tgt := 44) hx hb dX12_box_30 (by decide) ?_
    exact hret _ _ _ _ _ _ hC h dX12_box_44
  · have h := h.2 c2
    refine lv_iload_n hx hb dX12_box_9 rfl (lv_at hl 1 rfl) ?_
    refine lv_bipush (v := 7) hx hb dX12_box_10 (by decide) ?_
    refine lv_icmp_gt (tgt := 29) hx hb dX12_box_12 (by decide) (fun c3 => ?_) (fun c3 => ?_)
    · have h := h.1 c3
      refine lv_iconst (v := 0) hx hb dX12_box_29 (by decide) ?_
      refine lv_goto (tgt := 44) hx hb dX12_box_30 (by decide) ?_
      exact hret _ _ _ _ _ _ hC h dX12_box_44
    · have h := h.2 c3
      refine lv_iload_n hx hb dX12_box_15 rfl (lv_at hl 2 rfl) ?_
      refine lv_if_lt (tgt := 29) hx hb dX12_box_16 (by decide) (fun c4 => ?_) (fun c4 => ?_)
      · have h := h.1 c4
        refine lv_iconst (v := 0) hx hb dX12_box_29 (by decide) ?_
        refine lv_goto (tgt := 44) hx hb dX12_box_30 (by decide) ?_
        exact hret _ _ _ _ _ _ hC h dX12_box_44
      · have h := h.2 c4
        refine lv_iload_n hx hb dX12_box_19 rfl (lv_at hl 2 rfl) ?_
        refine lv_aload_n hx hb dX12_box_20 rfl (lv_at hl 0 rfl) ?_
        refine mv_get (v := .ref (E.2.2.1 78)) hX hC 108 (Nat.le_of_ble_eq_true rfl) wd_1508 rfl dX12_box_21 ?_
        refine lv_iload_n hx hb dX12_box_24 rfl (lv_at hl 1 rfl) ?_
        refine mq_ild (n := 8) hX hC 78 rfl rfl dX12_box_25 h (fun z5 h => ?_)
        refine lv_icmp_lt (tgt := 33) hx hb dX12_box_26 (by decide) (fun c6 => ?_) (fun c6 => ?_)
        · have h := h.1 c6
          refine lv_aload_n hx hb dX12_box_33 rfl (lv_at hl 0 rfl) ?_
          refine mv_get (v := .ref (E.2.2.1 79)) hX hC 109 (Nat.le_of_ble_eq_true rfl) wd_1509 rfl dX12_box_34 ?_
          refine lv_bipush (v := 50) hx hb dX12_box_37 (by decide) ?_
          refine lv_iload_n hx hb dX12_box_39 rfl (lv_at hl 1 rfl) ?_
          refine lq_imul hx hb dX12_box_40 h (fun z7 h => ?_)
          refine lv_iload_n hx hb dX12_box_41 rfl (lv_at hl 2 rfl) ?_
          refine lq_iadd hx hb dX12_box_42 h (fun z8 h => ?_)
          refine mq_ild (n := 400) hX hC 79 rfl rfl dX12_box_43 h (fun z9 h => ?_)
          exact hret _ _ _ _ _ _ hC h dX12_box_44
        · have h := h.2 c6
          refine lv_iconst (v := 0) hx hb dX12_box_29 (by decide) ?_
          refine lv_goto (tgt := 44) hx hb dX12_box_30 (by decide) ?_
          exact hret _ _ _ _ _ _ hC h dX12_box_44
def wp_waitEnds (a0 : Int32) (a1 : Int32) (a2 : Int32) (S : mS) (K : mS → Prop) : Prop := inR a0 200 ∧ ∀ S1 : mS, S1 = sF S 62 (ix a0) a1 → inR a0 200 ∧ ∀ S2 : mS, S2 = sF S1 63 (ix a0) a2 → inR a0 200 ∧ ∀ z3 : Int32, z3 = S2.2.1 54 (ix a0) → ((¬ z3 = 1 → K S2) ∧ (z3 = 1 → inR a0 200 ∧ ∀ z5 : Int32, z5 = S2.2.1 67 (ix a0) → ((z5 ≤ 0 → wp_toRow a0 S2 (fun (S7 : mS) => K S7)) ∧ (¬ z5 ≤ 0 → inR a0 200 ∧ ∀ S8 : mS, S8 = sF S2 54 (ix a0) 2 → K S8))))
set_option maxHeartbeats 4000000 in
set_option maxRecDepth 100000 in
theorem ct_waitEnds (l : Launch) (S : mS) (a0 : Int32) (a1 : Int32) (a2 : Int32) (K : mS → Prop) (h : wp_waitEnds a0 a1 a2 S K) : mMv l yX12_waitEnds cX12_waitEnds 4 none 1 21 (fun E => [.int a0, .int a1, .int a2]) S K := by
  refine mv_ofv (by decide) rfl (fun _ => Nat.le_of_ble_eq_true rfl) ?_
  intro E p e R s m args below meth c A ls Q hRf hRl hX hC hl hret
  have hx := hX.1.1
  have hb := hX.1.2.1
  have hown := hX.1.2.2.2.1
  have hts := hX.1.2.2.2.2
  have hl : lv_has ls 4 [(0, .ref E.2.1), (1, .int a0), (2, .int a1), (3, .int a2)] := hl
  unfold wp_waitEnds at h
  refine lv_aload_n hx hb dX12_waitEnds_0 rfl (lv_at hl 0 rfl) ?_
  refine mv_get (v := .ref (E.2.2.1 62)) hX hC 86 (Nat.le_of_ble_eq_true rfl) wd_1486 rfl dX12_waitEnds_1 ?_
  refine lv_iload_n hx hb dX12_waitEnds_4 rfl (lv_at hl 1 rfl) ?_
  refine lv_iload_n hx hb dX12_waitEnds_5 rfl (lv_at hl 2 rfl) ?_
  refine mq_ist (n := 200) (v := a1) hX hC 62 rfl rfl mf_62 dX12_waitEnds_6 h.1 h.2 (fun S1 H locs hC h => ?_)
  refine lv_aload_n hx hb dX12_waitEnds_7 rfl (lv_at hl 0 rfl) ?_
  refine mv_get (v := .ref (E.2.2.1 63)) hX hC 87 (Nat.le_of_ble_eq_true rfl) wd_1487 rfl dX12_waitEnds_8 ?_
  refine lv_iload_n hx hb dX12_waitEnds_11 rfl (lv_at hl 1 rfl) ?_
  refine lv_iload_n hx hb dX12_waitEnds_12 rfl (lv_at hl 3 rfl) ?_
  refine mq_ist (n := 200) (v := a2) hX hC 63 rfl rfl mf_63 dX12_waitEnds_13 h.1 h.2 (fun S2 H locs hC h => ?_)
  refine lv_aload_n hx hb dX12_waitEnds_14 rfl (lv_at hl 0 rfl) ?_
  refine mv_get (v := .ref (E.2.2.1 54)) hX hC 78 (Nat.le_of_ble_eq_true rfl) wd_1478 rfl dX12_waitEnds_15 ?_
  refine lv_iload_n hx hb dX12_waitEnds_18 rfl (lv_at hl 1 rfl) ?_
  refine mq_ild (n := 200) hX hC 54 rfl rfl dX12_waitEnds_19 h (fun z3 h => ?_)
  refine lv_iconst (v := 1) hx hb dX12_waitEnds_20 (by decide) ?_
  refine lv_icmp_ne (tgt := 48) hx hb dX12_waitEnds_21 (by decide) (fun c4 => ?_) (fun c4 => ?_)
  · have h := h.1 c4
    exact hret _ _ _ _ _ hC h dX12_waitEnds_48
  · have h := h.2 c4
    refine lv_aload_n hx hb dX12_waitEnds_24 rfl (lv_at hl 0 rfl) ?_
    refine mv_get (v := .ref (E.2.2.1 67)) hX hC 91 (Nat.le_of_ble_eq_true rfl) wd_1491 rfl dX12_waitEnds_25 ?_
    refine lv_iload_n hx hb dX12_waitEnds_28 rfl (lv_at hl 1 rfl) ?_
    refine mq_ild (n := 200) hX hC 67 rfl rfl dX12_waitEnds_29 h (fun z5 h => ?_)
    refine lv_if_le (tgt := 43) hx hb dX12_waitEnds_30 (by decide) (fun c6 => ?_) (fun c6 => ?_)
    · have h := h.1 c6
      refine lv_aload_n hx hb dX12_waitEnds_43 rfl (lv_at hl 0 rfl) ?_
      refine lv_iload_n hx hb dX12_waitEnds_44 rfl (lv_at hl 1 rfl) ?_
      refine mv_callv [.int a0] (rest := []) hX hC (ct_toRow l S2 a0 _ h E _) (cw_X12_toRow hts (by omega) (by omega)) rfl hl.1 (Nat.le_of_ble_eq_true rfl) ⟨Nat.zero_le _, Nat.zero_le _⟩ dX12_waitEnds_45 (fun S7 H locs hC h => ?_)
      exact hret _ _ _ _ _ hC h dX12_waitEnds_48
    · have h := h.2 c6
      refine lv_aload_n hx hb dX12_waitEnds_33 rfl (lv_at hl 0 rfl) ?_
      refine mv_get (v := .ref (E.2.2.1 54)) hX hC 78 (Nat.le_of_ble_eq_true rfl) wd_1478 rfl dX12_waitEnds_34 ?_
      refine lv_iload_n hx hb dX12_waitEnds_37 rfl (lv_at hl 1 rfl) ?_
      refine lv_iconst (v := 2) hx hb dX12_waitEnds_38 (by decide) ?_
      refine mq_ist (n := 200) (v := 2) hX hC 54 rfl rfl mf_54 dX12_waitEnds_39 h.1 h.2 (fun S8 H locs hC h => ?_)
      refine lv_goto (tgt := 48) hx hb dX12_waitEnds_40 (by decide) ?_
      exact hret _ _ _ _ _ hC h dX12_waitEnds_48
def wp_standsNoMore_46 (K : mS → Prop) (k46 : Int32 × mS → Prop) (x3 : Int32) (S : mS) : Prop := (((S.1 30) ≤ x3 → K S) ∧ (¬ (S.1 30) ≤ x3 → ∀ z9 : Int32, z9 = x3 + 1 → inR z9 100300 ∧ ∀ z10 : Int32, z10 = S.2.1 87 (ix z9) → inR x3 100300 ∧ ∀ S11 : mS, S11 = sF S 87 (ix x3) z10 → ∀ z12 : Int32, z12 = x3 + 1 → k46 (z12, S11)))
def ls_standsNoMore_46 (K : mS → Prop) (k46 : Int32 × mS → Prop) (u : Int32 × mS) : Prop := wp_standsNoMore_46 K k46 u.1 u.2
def wp_standsNoMore_26 (K : mS → Prop) (x2 : Int32) (S : mS) : Prop := (((S.1 30) ≤ x2 → K S) ∧ (¬ (S.1 30) ≤ x2 → ∀ z6 : Int32, z6 = (S.1 30) - 1 → ∀ S7 : mS, S7 = sZ S 30 z6 → (∃ n9, it (ls_standsNoMore_46 K) n9 (x2, S7))))
def wp_standsNoMore_2 (K : mS → Prop) (k2 : Int32 × Int32 × mS → Prop) (x1 : Int32) (x2 : Int32) (S : mS) : Prop := (((S.1 30) ≤ x2 → wp_standsNoMore_26 K x2 S) ∧ (¬ (S.1 30) ≤ x2 → inR x2 100300 ∧ ∀ z2 : Int32, z2 = S.2.1 87 (ix x2) → ((z2 = x1 → wp_standsNoMore_26 K x2 S) ∧ (¬ z2 = x1 → ∀ z4 : Int32, z4 = x2 + 1 → k2 (x1, z4, S)))))
def ls_standsNoMore_2 (K : mS → Prop) (k2 : Int32 × Int32 × mS → Prop) (u : Int32 × Int32 × mS) : Prop := wp_standsNoMore_2 K k2 u.1 u.2.1 u.2.2
def wp_standsNoMore (a0 : Int32) (S : mS) (K : mS → Prop) : Prop := (∃ n9, it (ls_standsNoMore_2 K) n9 (a0, 0, S))
set_option maxHeartbeats 4000000 in
set_option maxRecDepth 100000 in
theorem ct_standsNoMore (l : Launch) (S : mS) (a0 : Int32) (K : mS → Prop) (h : wp_standsNoMore a0 S K) : mMv l yX12_standsNoMore cX12_standsNoMore 4 none 0 0 (fun E => [.int a0]) S K := by
  refine mv_ofv (by decide) rfl (fun _ => Nat.le_of_ble_eq_true rfl) ?_
  intro E p e R s m args below meth c A ls Q hRf hRl hX hC hl hret
  have hx := hX.1.1
  have hb := hX.1.2.1
  have hown := hX.1.2.2.2.1
  have hts := hX.1.2.2.2.2
  have cut46 : ∀ (n46 : Nat) (x3 : Int32) (S : mS) (H : Heap) (locs : List Loc) (ls : Array Slot), it (ls_standsNoMore_46 K) n46 (x3, S) → mC E A s.heap S H locs → lv_has ls 4 [(0, .ref E.2.1), (3, .int x3)] → W p l e R s m args below meth c H locs 0 0 Q (F0 m 46 ls []) := by
    intro n46
    induction n46 with
    | zero => intro x3 S H locs ls h hC hl; exact h.elim
    | succ n46 ih46 =>
      intro x3 S H locs ls h hC hl
      have h : wp_standsNoMore_46 K (it (ls_standsNoMore_46 K) n46) x3 S := h
      unfold wp_standsNoMore_46 at h
      refine lv_iload_n hx hb dX12_standsNoMore_46 rfl (lv_at hl 1 rfl) ?_
      refine lv_aload_n hx hb dX12_standsNoMore_47 rfl (lv_at hl 0 rfl) ?_
      refine mv_get (v := .int (S.1 30)) hX hC 119 (Nat.le_of_ble_eq_true rfl) wd_1519 rfl dX12_standsNoMore_48 ?_
      refine lv_icmp_ge (tgt := 74) hx hb dX12_standsNoMore_51 (by decide) (fun c8 => ?_) (fun c8 => ?_)
      · have h := h.1 c8
        exact hret _ _ _ _ _ hC h dX12_standsNoMore_74
      · have h := h.2 c8
        refine lv_aload_n hx hb dX12_standsNoMore_54 rfl (lv_at hl 0 rfl) ?_
        refine mv_get (v := .ref (E.2.2.1 87)) hX hC 118 (Nat.le_of_ble_eq_true rfl) wd_1518 rfl dX12_standsNoMore_55 ?_
        refine lv_iload_n hx hb dX12_standsNoMore_58 rfl (lv_at hl 1 rfl) ?_
        refine lv_aload_n hx hb dX12_standsNoMore_59 rfl (lv_at hl 0 rfl) ?_
        refine mv_get (v := .ref (E.2.2.1 87)) hX hC 118 (Nat.le_of_ble_eq_true rfl) wd_1518 rfl dX12_standsNoMore_60 ?_
        refine lv_iload_n hx hb dX12_standsNoMore_63 rfl (lv_at hl 1 rfl) ?_
        refine lv_iconst (v := 1) hx hb dX12_standsNoMore_64 (by decide) ?_
        refine lq_iadd hx hb dX12_standsNoMore_65 h (fun z9 h => ?_)
        refine mq_ild (n := 100300) hX hC 87 rfl rfl dX12_standsNoMore_66 h (fun z10 h => ?_)
        refine mq_ist (n := 100300) (v := z10) hX hC 87 rfl rfl mf_87 dX12_standsNoMore_67 h.1 h.2 (fun S11 H locs hC h => ?_)
        obtain ⟨z12, ez12⟩ : ∃ y : Int32, y = x3 + 1 := ⟨_, rfl⟩
        have h := h z12 ez12
        refine lv_iinc (v := z12) (lv' := [(3, .int z12), (0, .ref E.2.1)]) hx hb dX12_standsNoMore_68 hl (k := 1) rfl (by rw [ez12]; rfl) (by decide) rfl (fun ls hl => ?_)
        refine lv_goto (tgt := 46) hx hb dX12_standsNoMore_71 (by decide) ?_
        exact ih46 z12 S11 _ _ _ h hC (lv_sub hl [1, 0] rfl)
  have cut26 : ∀ (x2 : Int32) (S : mS) (H : Heap) (locs : List Loc) (ls : Array Slot), wp_standsNoMore_26 K x2 S → mC E A s.heap S H locs → lv_has ls 4 [(0, .ref E.2.1), (2, .int x2)] → W p l e R s m args below meth c H locs 0 0 Q (F0 m 26 ls []) := by
    intro x2 S H locs ls h hC hl
    unfold wp_standsNoMore_26 at h
    refine lv_iload_n hx hb dX12_standsNoMore_26 rfl (lv_at hl 1 rfl) ?_
    refine lv_aload_n hx hb dX12_standsNoMore_27 rfl (lv_at hl 0 rfl) ?_
    refine mv_get (v := .int (S.1 30)) hX hC 119 (Nat.le_of_ble_eq_true rfl) wd_1519 rfl dX12_standsNoMore_28 ?_
    refine lv_icmp_ge (tgt := 74) hx hb dX12_standsNoMore_31 (by decide) (fun c5 => ?_) (fun c5 => ?_)
    · have h := h.1 c5
      exact hret _ _ _ _ _ hC h dX12_standsNoMore_74
    · have h := h.2 c5
      refine lv_aload_n hx hb dX12_standsNoMore_34 rfl (lv_at hl 0 rfl) ?_
      refine lv_dup hx hb dX12_standsNoMore_35 rfl ?_
      refine mv_get (v := .int (S.1 30)) hX hC 119 (Nat.le_of_ble_eq_true rfl) wd_1519 rfl dX12_standsNoMore_36 ?_
      refine lv_iconst (v := 1) hx hb dX12_standsNoMore_39 (by decide) ?_
      refine lq_isub hx hb dX12_standsNoMore_40 h (fun z6 h => ?_)
      refine mq_put (v := z6) hX hC 119 30 (Nat.le_of_ble_eq_true rfl) wd_1519 rfl rfl rfl mz_30 dX12_standsNoMore_41 h (fun S7 H locs hC h => ?_)
      refine lv_iload_n hx hb dX12_standsNoMore_44 rfl (lv_at hl 1 rfl) ?_
      refine lv_istore_n (lv' := [(3, .int x2), (0, .ref E.2.1), (2, .int x2)]) hx hb dX12_standsNoMore_45 rfl hl (by decide) rfl (fun ls hl => ?_)
      obtain ⟨n9, h⟩ := h
      exact cut46 n9 x2 S7 _ _ _ h hC (lv_sub hl [1, 0] rfl)
  have cut2 : ∀ (n2 : Nat) (x1 : Int32) (x2 : Int32) (S : mS) (H : Heap) (locs : List Loc) (ls : Array Slot), it (ls_standsNoMore_2 K) n2 (x1, x2, S) → mC E A s.heap S H locs → lv_has ls 4 [(0, .ref E.2.1), (1, .int x1), (2, .int x2)] → W p l e R s m args below meth c H locs 0 0 Q (F0 m 2 ls []) := by
    intro n2
    induction n2 with
    | zero => intro x1 x2 S H locs ls h hC hl; exact h.elim
    | succ n2 ih2 =>
      intro x1 x2 S H locs ls h hC hl
      have h : wp_standsNoMore_2 K (it (ls_standsNoMore_2 K) n2) x1 x2 S := h
      unfold wp_standsNoMore_2 at h
      refine lv_iload_n hx hb dX12_standsNoMore_2 rfl (lv_at hl 2 rfl) ?_
      refine lv_aload_n hx hb dX12_standsNoMore_3 rfl (lv_at hl 0 rfl) ?_
      refine mv_get (v := .int (S.1 30)) hX hC 119 (Nat.le_of_ble_eq_true rfl) wd_1519 rfl dX12_standsNoMore_4 ?_
      refine lv_icmp_ge (tgt := 26) hx hb dX12_standsNoMore_7 (by decide) (fun c1 => ?_) (fun c1 => ?_)
      · have h := h.1 c1
        exact cut26 x2 S _ _ _ h hC (lv_sub hl [0, 2] rfl)
      · have h := h.2 c1
        refine lv_aload_n hx hb dX12_standsNoMore_10 rfl (lv_at hl 0 rfl) ?_
        refine mv_get (v := .ref (E.2.2.1 87)) hX hC 118 (Nat.le_of_ble_eq_true rfl) wd_1518 rfl dX12_standsNoMore_11 ?_
        refine lv_iload_n hx hb dX12_standsNoMore_14 rfl (lv_at hl 2 rfl) ?_
        refine mq_ild (n := 100300) hX hC 87 rfl rfl dX12_standsNoMore_15 h (fun z2 h => ?_)
        refine lv_iload_n hx hb dX12_standsNoMore_16 rfl (lv_at hl 1 rfl) ?_
        refine lv_icmp_eq (tgt := 26) hx hb dX12_standsNoMore_17 (by decide) (fun c3 => ?_) (fun c3 => ?_)
        · have h := h.1 c3
          exact cut26 x2 S _ _ _ h hC (lv_sub hl [0, 2] rfl)
        · have h := h.2 c3
          obtain ⟨z4, ez4⟩ : ∃ y : Int32, y = x2 + 1 := ⟨_, rfl⟩
          have h := h z4 ez4
          refine lv_iinc (v := z4) (lv' := [(2, .int z4), (0, .ref E.2.1), (1, .int x1)]) hx hb dX12_standsNoMore_20 hl (k := 2) rfl (by rw [ez4]; rfl) (by decide) rfl (fun ls hl => ?_)
          refine lv_goto (tgt := 2) hx hb dX12_standsNoMore_23 (by decide) ?_
          exact ih2 x1 z4 S _ _ _ h hC (lv_sub hl [1, 2, 0] rfl)
  have hl : lv_has ls 4 [(0, .ref E.2.1), (1, .int a0)] := hl
  unfold wp_standsNoMore at h
  refine lv_iconst (v := 0) hx hb dX12_standsNoMore_0 (by decide) ?_
  refine lv_istore_n (lv' := [(2, .int 0), (0, .ref E.2.1), (1, .int a0)]) hx hb dX12_standsNoMore_1 rfl hl (by decide) rfl (fun ls hl => ?_)
  obtain ⟨n9, h⟩ := h
  exact cut2 n9 a0 0 S _ _ _ h hC (lv_sub hl [1, 2, 0] rfl)
def wp_outOfRow_12 (K : mS → Prop) (k12 : Int32 × mS → Prop) (x2 : Int32) (S : mS) : Prop := (((S.1 23) ≤ x2 → K S) ∧ (¬ (S.1 23) ≤ x2 → ∀ z4 : Int32, z4 = x2 + 1 → inR z4 200 ∧ ∀ z5 : Int32, z5 = S.2.1 73 (ix z4) → inR x2 200 ∧ ∀ S6 : mS, S6 = sF S 73 (ix x2) z5 → ∀ z7 : Int32, z7 = x2 + 1 → k12 (z7, S6)))
def ls_outOfRow_12 (K : mS → Prop) (k12 : Int32 × mS → Prop) (u : Int32 × mS) : Prop := wp_outOfRow_12 K k12 u.1 u.2
def wp_outOfRow (a0 : Int32) (S : mS) (K : mS → Prop) : Prop := ∀ z1 : Int32, z1 = (S.1 23) - 1 → ∀ S2 : mS, S2 = sZ S 23 z1 → (∃ n9, it (ls_outOfRow_12 K) n9 (a0, S2))
set_option maxHeartbeats 4000000 in
set_option maxRecDepth 100000 in
theorem ct_outOfRow (l : Launch) (S : mS) (a0 : Int32) (K : mS → Prop) (h : wp_outOfRow a0 S K) : mMv l yX12_outOfRow cX12_outOfRow 3 none 0 0 (fun E => [.int a0]) S K := by
  refine mv_ofv (by decide) rfl (fun _ => Nat.le_of_ble_eq_true rfl) ?_
  intro E p e R s m args below meth c A ls Q hRf hRl hX hC hl hret
  have hx := hX.1.1
  have hb := hX.1.2.1
  have hown := hX.1.2.2.2.1
  have hts := hX.1.2.2.2.2
  have cut12 : ∀ (n12 : Nat) (x2 : Int32) (S : mS) (H : Heap) (locs : List Loc) (ls : Array Slot), it (ls_outOfRow_12 K) n12 (x2, S) → mC E A s.heap S H locs → lv_has ls 3 [(0, .ref E.2.1), (2, .int x2)] → W p l e R s m args below meth c H locs 0 0 Q (F0 m 12 ls []) := by
    intro n12
    induction n12 with
    | zero => intro x2 S H locs ls h hC hl; exact h.elim
    | succ n12 ih12 =>
      intro x2 S H locs ls h hC hl
      have h : wp_outOfRow_12 K (it (ls_outOfRow_12 K) n12) x2 S := h
      unfold wp_outOfRow_12 at h
      refine lv_iload_n hx hb dX12_outOfRow_12 rfl (lv_at hl 1 rfl) ?_
      refine lv_aload_n hx hb dX12_outOfRow_13 rfl (lv_at hl 0 rfl) ?_
      refine mv_get (v := .int (S.1 23)) hX hC 98 (Nat.le_of_ble_eq_true rfl) wd_1498 rfl dX12_outOfRow_14 ?_
      refine lv_icmp_ge (tgt := 40) hx hb dX12_outOfRow_17 (by decide) (fun c3 => ?_) (fun c3 => ?_)
      · have h := h.1 c3
        exact hret _ _ _ _ _ hC h dX12_outOfRow_40
      · have h := h.2 c3
        refine lv_aload_n hx hb dX12_outOfRow_20 rfl (lv_at hl 0 rfl) ?_
        refine mv_get (v := .ref (E.2.2.1 73)) hX hC 97 (Nat.le_of_ble_eq_true rfl) wd_1497 rfl dX12_outOfRow_21 ?_
        refine lv_iload_n hx hb dX12_outOfRow_24 rfl (lv_at hl 1 rfl) ?_
        refine lv_aload_n hx hb dX12_outOfRow_25 rfl (lv_at hl 0 rfl) ?_
        refine mv_get (v := .ref (E.2.2.1 73)) hX hC 97 (Nat.le_of_ble_eq_true rfl) wd_1497 rfl dX12_outOfRow_26 ?_
        refine lv_iload_n hx hb dX12_outOfRow_29 rfl (lv_at hl 1 rfl) ?_
        refine lv_iconst (v := 1) hx hb dX12_outOfRow_30 (by decide) ?_
        refine lq_iadd hx hb dX12_outOfRow_31 h (fun z4 h => ?_)
        refine mq_ild (n := 200) hX hC 73 rfl rfl dX12_outOfRow_32 h (fun z5 h => ?_)
        refine mq_ist (n := 200) (v := z5) hX hC 73 rfl rfl mf_73 dX12_outOfRow_33 h.1 h.2 (fun S6 H locs hC h => ?_)
        obtain ⟨z7, ez7⟩ : ∃ y : Int32, y = x2 + 1 := ⟨_, rfl⟩
        have h := h z7 ez7
        refine lv_iinc (v := z7) (lv' := [(2, .int z7), (0, .ref E.2.1)]) hx hb dX12_outOfRow_34 hl (k := 1) rfl (by rw [ez7]; rfl) (by decide) rfl (fun ls hl => ?_)
        refine lv_goto (tgt := 12) hx hb dX12_outOfRow_37 (by decide) ?_
        exact ih12 z7 S6 _ _ _ h hC (lv_sub hl [1, 0] rfl)
  have hl : lv_has ls 3 [(0, .ref E.2.1), (1, .int a0)] := hl
  unfold wp_outOfRow at h
  refine lv_aload_n hx hb dX12_outOfRow_0 rfl (lv_at hl 0 rfl) ?_
  refine lv_dup hx hb dX12_outOfRow_1 rfl ?_
  refine mv_get (v := .int (S.1 23)) hX hC 98 (Nat.le_of_ble_eq_true rfl) wd_1498 rfl dX12_outOfRow_2 ?_
  refine lv_iconst (v := 1) hx hb dX12_outOfRow_5 (by decide) ?_
  refine lq_isub hx hb dX12_outOfRow_6 h (fun z1 h => ?_)
  refine mq_put (v := z1) hX hC 98 23 (Nat.le_of_ble_eq_true rfl) wd_1498 rfl rfl rfl mz_23 dX12_outOfRow_7 h (fun S2 H locs hC h => ?_)
  refine lv_iload_n hx hb dX12_outOfRow_10 rfl (lv_at hl 1 rfl) ?_
  refine lv_istore_n (lv' := [(2, .int a0), (0, .ref E.2.1), (1, .int a0)]) hx hb dX12_outOfRow_11 rfl hl (by decide) rfl (fun ls hl => ?_)
  obtain ⟨n9, h⟩ := h
  exact cut12 n9 a0 S2 _ _ _ h hC (lv_sub hl [1, 0] rfl)
def wp_letGo_78 (r_decides : Int32 → Int32 → Int32 → mS → (mS → Prop) → Prop) (r_cancels : Int32 → mS → (mS → Int32 → Prop) → Prop) (K : mS → Prop) (k4 : Int32 × Int32 × mS → Prop) (x1 : Int32) (x3 : Int32) (S : mS) : Prop := ∀ z14 : Int32, z14 = x3 + (-1) → k4 (x1, z14, S)
def wp_letGo_73 (r_decides : Int32 → Int32 → Int32 → mS → (mS → Prop) → Prop) (r_cancels : Int32 → mS → (mS → Int32 → Prop) → Prop) (K : mS → Prop) (k4 : Int32 × Int32 × mS → Prop) (x1 : Int32) (x3 : Int32) (S : mS) : Prop := wp_standsNoMore x3 S (fun (S15 : mS) => wp_letGo_78 r_decides r_cancels K k4 x1 x3 S15)
def wp_letGo_4 (r_decides : Int32 → Int32 → Int32 → mS → (mS → Prop) → Prop) (r_cancels : Int32 → mS → (mS → Int32 → Prop) → Prop) (K : mS → Prop) (k4 : Int32 × Int32 × mS → Prop) (x1 : Int32) (x3 : Int32) (S : mS) : Prop := ((x3 < x1 → K S) ∧ (¬ x3 < x1 → inR x3 100300 ∧ ∀ z3 : Int32, z3 = S.2.1 83 (ix x3) → ((z3 = 0 → inR x3 100300 ∧ ∀ S5 : mS, S5 = sF S 83 (ix x3) 3 → inR x3 100300 ∧ ∀ z6 : Int32, z6 = S5.2.1 80 (ix x3) → ((¬ z6 = 6 → inR x3 100300 ∧ ∀ z8 : Int32, z8 = S5.2.1 80 (ix x3) → ((z8 = 3 → wp_letGo_73 r_decides r_cancels K k4 x1 x3 S5) ∧ (¬ z8 = 3 → inR x3 100300 ∧ ∀ z10 : Int32, z10 = S5.2.1 80 (ix x3) → ((¬ z10 = 4 → wp_letGo_78 r_decides r_cancels K k4 x1 x3 S5) ∧ (z10 = 4 → wp_letGo_73 r_decides r_cancels K k4 x1 x3 S5))))) ∧ (z6 = 6 → inR x3 100300 ∧ ∀ z12 : Int32, z12 = S5.2.1 84 (ix x3) → r_cancels z12 S5 (fun (S13 : mS) (r13 : Int32) => wp_letGo_78 r_decides r_cancels K k4 x1 x3 S13)))) ∧ (¬ z3 = 0 → wp_letGo_78 r_decides r_cancels K k4 x1 x3 S))))
def ls_letGo_4 (r_decides : Int32 → Int32 → Int32 → mS → (mS → Prop) → Prop) (r_cancels : Int32 → mS → (mS → Int32 → Prop) → Prop) (K : mS → Prop) (k4 : Int32 × Int32 × mS → Prop) (u : Int32 × Int32 × mS) : Prop := wp_letGo_4 r_decides r_cancels K k4 u.1 u.2.1 u.2.2
def wp_letGo (r_decides : Int32 → Int32 → Int32 → mS → (mS → Prop) → Prop) (r_cancels : Int32 → mS → (mS → Int32 → Prop) → Prop) (a0 : Int32) (a1 : Int32) (S : mS) (K : mS → Prop) : Prop := ∀ z1 : Int32, z1 = a1 - 1 → (∃ n9, it (ls_letGo_4 r_decides r_cancels K) n9 (a0, z1, S))
theorem cw_X12_cancels {R : Room} {s : State} {args : Array Value} {fr lo : Nat} (hts : ∀ w ∈ tb, w.before args s = true) (h1 : fr + 1 ≤ R.frames) (h2 : 8 + (3 + 11) + lo ≤ R.locals) : CallW R s args RX12 RX12 584 yX12_cancels cX12_cancels 3 (some .boolean) (.code yX12_cancels cX12_cancels 3 (some .boolean) :: tb) (mRm fr lo) 0 0 1 := cwV 1 hts (gd_V wd_2014 wd_2016 sl_X12_cancels wd_15 wd_2017) rfl rfl rfl (by decide +kernel) ⟨h1, h2⟩
theorem cw_X12_standsNoMore {R : Room} {s : State} {args : Array Value} {fr lo : Nat} (hts : ∀ w ∈ tb, w.before args s = true) (h1 : fr + 1 ≤ R.frames) (h2 : 8 + (4 + 11) + lo ≤ R.locals) : CallW R s args RX12 RX12 587 yX12_standsNoMore cX12_standsNoMore 4 none (.code yX12_standsNoMore cX12_standsNoMore 4 none :: tb) (mRm fr lo) 0 0 1 := cwV 1 hts (gd_V wd_2042 wd_2044 sl_X12_standsNoMore wd_15 wd_2045) rfl rfl rfl (by decide +kernel) ⟨h1, h2⟩
set_option maxHeartbeats 4000000 in
set_option maxRecDepth 100000 in
theorem co_letGo (l : Launch) (fr lo F Lo : Nat) (r_decides : Int32 → Int32 → Int32 → mS → (mS → Prop) → Prop) (hr_decides : ∀ (a0 : Int32) (a1 : Int32) (a2 : Int32) (S : mS) (K : mS → Prop), r_decides a0 a1 a2 S K → mMv l yX12_decides cX12_decides 5 none fr lo (fun E => [.int a0, .int a1, .int a2]) S K) (r_cancels : Int32 → mS → (mS → Int32 → Prop) → Prop) (hr_cancels : ∀ (a0 : Int32) (S : mS) (K : mS → Int32 → Prop), r_cancels a0 S K → mMi l yX12_cancels cX12_cancels 3 (some .boolean) fr lo (fun E => [.int a0]) S K) (hF : fr + 1 ≤ F) (hL : lo + 22 ≤ Lo) (hF0 : 1 ≤ F) (hL0 : 23 ≤ Lo) (S : mS) (a0 : Int32) (a1 : Int32) (K : mS → Prop) (h : wp_letGo r_decides r_cancels a0 a1 S K) : mMv l yX12_letGo cX12_letGo 4 none F Lo (fun E => [.int a0, .int a1]) S K := by
  refine mv_ofv (by decide) rfl (fun _ => Nat.le_of_ble_eq_true rfl) ?_
  intro E p e R s m args below meth c A ls Q hRf hRl hX hC hl hret
  have hx := hX.1.1
  have hb := hX.1.2.1
  have hown := hX.1.2.2.2.1
  have hts := hX.1.2.2.2.2
  have cut4 : ∀ (n4 : Nat) (x1 : Int32) (x3 : Int32) (S : mS) (H : Heap) (locs : List Loc) (ls : Array Slot), it (ls_letGo_4 r_decides r_cancels K) n4 (x1, x3, S) → mC E A s.heap S H locs → lv_has ls 4 [(0, .ref E.2.1), (1, .int x1), (3, .int x3)] → W p l e R s m args below meth c H locs 0 0 Q (F0 m 4 ls []) := by
    intro n4
    induction n4 with
    | zero => intro x1 x3 S H locs ls h hC hl; exact h.elim
    | succ n4 ih4 =>
      have cut78 : ∀ (x1 : Int32) (x3 : Int32) (S : mS) (H : Heap) (locs : List Loc) (ls : Array Slot), wp_letGo_78 r_decides r_cancels K (it (ls_letGo_4 r_decides r_cancels K) n4) x1 x3 S → mC E A s.heap S H locs → lv_has ls 4 [(0, .ref E.2.1), (1, .int x1), (3, .int x3)] → W p l e R s m args below meth c H locs 0 0 Q (F0 m 78 ls []) := by
        intro x1 x3 S H locs ls h hC hl
        unfold wp_letGo_78 at h
        obtain ⟨z14, ez14⟩ : ∃ y : Int32, y = x3 + (-1) := ⟨_, rfl⟩
        have h := h z14 ez14
        refine lv_iinc (v := z14) (lv' := [(3, .int z14), (0, .ref E.2.1), (1, .int x1)]) hx hb dX12_letGo_78 hl (k := 2) rfl (by rw [ez14]; rfl) (by decide) rfl (fun ls hl => ?_)
        refine lv_goto (tgt := 4) hx hb dX12_letGo_81 (by decide) ?_
        exact ih4 x1 z14 S _ _ _ h hC (lv_sub hl [1, 2, 0] rfl)
      have cut73 : ∀ (x1 : Int32) (x3 : Int32) (S : mS) (H : Heap) (locs : List Loc) (ls : Array Slot), wp_letGo_73 r_decides r_cancels K (it (ls_letGo_4 r_decides r_cancels K) n4) x1 x3 S → mC E A s.heap S H locs → lv_has ls 4 [(0, .ref E.2.1), (1, .int x1), (3, .int x3)] → W p l e R s m args below meth c H locs 0 0 Q (F0 m 73 ls []) := by
        intro x1 x3 S H locs ls h hC hl
        unfold wp_letGo_73 at h
        refine lv_aload_n hx hb dX12_letGo_73 rfl (lv_at hl 0 rfl) ?_
        refine lv_iload_n hx hb dX12_letGo_74 rfl (lv_at hl 2 rfl) ?_
        refine mv_callv [.int x3] (rest := []) hX hC (ct_standsNoMore l S x3 _ h E _) (cw_X12_standsNoMore hts (by omega) (by omega)) rfl hl.1 (Nat.le_of_ble_eq_true rfl) ⟨Nat.zero_le _, Nat.zero_le _⟩ dX12_letGo_75 (fun S15 H locs hC h => ?_)
        exact cut78 x1 x3 S15 _ _ _ h hC (lv_sub hl [0, 1, 2] rfl)
      intro x1 x3 S H locs ls h hC hl
      have h : wp_letGo_4 r_decides r_cancels K (it (ls_letGo_4 r_decides r_cancels K) n4) x1 x3 S := h
      unfold wp_letGo_4 at h
      refine lv_iload_n hx hb dX12_letGo_4 rfl (lv_at hl 2 rfl) ?_
      refine lv_iload_n hx hb dX12_letGo_5 rfl (lv_at hl 1 rfl) ?_
      refine lv_icmp_lt (tgt := 84) hx hb dX12_letGo_6 (by decide) (fun c2 => ?_) (fun c2 => ?_)
      · have h := h.1 c2
        exact hret _ _ _ _ _ hC h dX12_letGo_84
      · have h := h.2 c2
        refine lv_aload_n hx hb dX12_letGo_9 rfl (lv_at hl 0 rfl) ?_
        refine mv_get (v := .ref (E.2.2.1 83)) hX hC 114 (Nat.le_of_ble_eq_true rfl) wd_1514 rfl dX12_letGo_10 ?_
        refine lv_iload_n hx hb dX12_letGo_13 rfl (lv_at hl 2 rfl) ?_
        refine mq_ild (n := 100300) hX hC 83 rfl rfl dX12_letGo_14 h (fun z3 h => ?_)
        refine lv_if_eq (tgt := 21) hx hb dX12_letGo_15 (by decide) (fun c4 => ?_) (fun c4 => ?_)
        · have h := h.1 c4
          refine lv_aload_n hx hb dX12_letGo_21 rfl (lv_at hl 0 rfl) ?_
          refine mv_get (v := .ref (E.2.2.1 83)) hX hC 114 (Nat.le_of_ble_eq_true rfl) wd_1514 rfl dX12_letGo_22 ?_
          refine lv_iload_n hx hb dX12_letGo_25 rfl (lv_at hl 2 rfl) ?_
          refine lv_iconst (v := 3) hx hb dX12_letGo_26 (by decide) ?_
          refine mq_ist (n := 100300) (v := 3) hX hC 83 rfl rfl mf_83 dX12_letGo_27 h.1 h.2 (fun S5 H locs hC h => ?_)
          refine lv_aload_n hx hb dX12_letGo_28 rfl (lv_at hl 0 rfl) ?_
          refine mv_get (v := .ref (E.2.2.1 80)) hX hC 111 (Nat.le_of_ble_eq_true rfl) wd_1511 rfl dX12_letGo_29 ?_
          refine lv_iload_n hx hb dX12_letGo_32 rfl (lv_at hl 2 rfl) ?_
          refine mq_ild (n := 100300) hX hC 80 rfl rfl dX12_letGo_33 h (fun z6 h => ?_)
          refine lv_bipush (v := 6) hx hb dX12_letGo_34 (by decide) ?_
          refine lv_icmp_ne (tgt := 53) hx hb dX12_letGo_36 (by decide) (fun c7 => ?_) (fun c7 => ?_)
          · have h := h.1 c7
            refine lv_aload_n hx hb dX12_letGo_53 rfl (lv_at hl 0 rfl) ?_
            refine mv_get (v := .ref (E.2.2.1 80)) hX hC 111 (Nat.le_of_ble_eq_true rfl) wd_1511 rfl dX12_letGo_54 ?_
            refine lv_iload_n hx hb dX12_letGo_57 rfl (lv_at hl 2 rfl) ?_
            refine mq_ild (n := 100300) hX hC 80 rfl rfl dX12_letGo_58 h (fun z8 h => ?_)
            refine lv_iconst (v := 3) hx hb dX12_letGo_59 (by decide) ?_
            refine lv_icmp_eq (tgt := 73) hx hb dX12_letGo_60 (by decide) (fun c9 => ?_) (fun c9 => ?_)
            · have h := h.1 c9
              exact cut73 x1 x3 S5 _ _ _ h hC (lv_sub hl [0, 1, 2] rfl)
            · have h := h.2 c9
              refine lv_aload_n hx hb dX12_letGo_63 rfl (lv_at hl 0 rfl) ?_
              refine mv_get (v := .ref (E.2.2.1 80)) hX hC 111 (Nat.le_of_ble_eq_true rfl) wd_1511 rfl dX12_letGo_64 ?_
              refine lv_iload_n hx hb dX12_letGo_67 rfl (lv_at hl 2 rfl) ?_
              refine mq_ild (n := 100300) hX hC 80 rfl rfl dX12_letGo_68 h (fun z10 h => ?_)
              refine lv_iconst (v := 4) hx hb dX12_letGo_69 (by decide) ?_
              refine lv_icmp_ne (tgt := 78) hx hb dX12_letGo_70 (by decide) (fun c11 => ?_) (fun c11 => ?_)
              · have h := h.1 c11
                exact cut78 x1 x3 S5 _ _ _ h hC (lv_sub hl [0, 1, 2] rfl)
              · have h := h.2 c11
                exact cut73 x1 x3 S5 _ _ _ h hC (lv_sub hl [0, 1, 2] rfl)
          · have h := h.2 c7
            refine lv_aload_n hx hb dX12_letGo_39 rfl (lv_at hl 0 rfl) ?_
            refine lv_aload_n hx hb dX12_letGo_40 rfl (lv_at hl 0 rfl) ?_
            refine mv_get (v := .ref (E.2.2.1 84)) hX hC 115 (Nat.le_of_ble_eq_true rfl) wd_1515 rfl dX12_letGo_41 ?_
            refine lv_iload_n hx hb dX12_letGo_44 rfl (lv_at hl 2 rfl) ?_
            refine mq_ild (n := 100300) hX hC 84 rfl rfl dX12_letGo_45 h (fun z12 h => ?_)
            refine mv_calli [.int z12] (rest := []) hX hC (hr_cancels z12 S5 _ h E _) (cw_X12_cancels hts (by omega) (by omega)) rfl hl.1 (Nat.le_of_ble_eq_true rfl) ⟨Nat.zero_le _, Nat.zero_le _⟩ dX12_letGo_46 (fun r13 S13 H locs hC h => ?_)
            refine lv_pop hx hb dX12_letGo_49 rfl ?_
            refine lv_goto (tgt := 78) hx hb dX12_letGo_50 (by decide) ?_
            exact cut78 x1 x3 S13 _ _ _ h hC (lv_sub hl [0, 1, 2] rfl)
        · have h := h.2 c4
          refine lv_goto (tgt := 78) hx hb dX12_letGo_18 (by decide) ?_
          exact cut78 x1 x3 S _ _ _ h hC (lv_sub hl [0, 1, 2] rfl)
  have hl : lv_has ls 4 [(0, .ref E.2.1), (1, .int a0), (2, .int a1)] := hl
  unfold wp_letGo at h
  refine lv_iload_n hx hb dX12_letGo_0 rfl (lv_at hl 2 rfl) ?_
  refine lv_iconst (v := 1) hx hb dX12_letGo_1 (by decide) ?_
  refine lq_isub hx hb dX12_letGo_2 h (fun z1 h => ?_)
  refine lv_istore_n (lv' := [(3, .int z1), (0, .ref E.2.1), (1, .int a0), (2, .int a1)]) hx hb dX12_letGo_3 rfl hl (by decide) rfl (fun ls hl => ?_)
  obtain ⟨n9, h⟩ := h
  exact cut4 n9 a0 z1 S _ _ _ h hC (lv_sub hl [1, 2, 0] rfl)
