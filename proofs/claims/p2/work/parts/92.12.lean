theorem wd_351 : (Jvm.Cond.fieldLink "Sleepers$Parser" (206 : Nat) "Sleepers$Scopes" "onAt" "[I") ∈ tb := tb_at 351 (by decide +kernel) (by decide +kernel)
theorem wd_359 : (Jvm.Cond.fieldLink "Sleepers$Parser" (212 : Nat) "Sleepers$Scopes" "behindTry" "[I") ∈ tb := tb_at 359 (by decide +kernel) (by decide +kernel)
theorem wd_369 : (Jvm.Cond.fieldLink "Sleepers$Parser" (197 : Nat) "Sleepers$Scopes" "behindLoop" "[I") ∈ tb := tb_at 369 (by decide +kernel) (by decide +kernel)
theorem wd_675 : (Jvm.Cond.methodLink "Sleepers$Parser" (142 : Nat) ({ cls := "Sleepers$Parser", name := "choice", desc := "(I)V" } : Jvm.MethodName)) ∈ tb := tb_at 675 (by decide +kernel) (by decide +kernel)
theorem wd_677 : (Jvm.Cond.instanceMethod ({ cls := "Sleepers$Parser", name := "choice", desc := "(I)V" } : Jvm.MethodName)) ∈ tb := tb_at 677 (by decide +kernel) (by decide +kernel)
theorem wd_678 : (Jvm.Cond.code ({ cls := "Sleepers$Parser", name := "choice", desc := "(I)V" } : Jvm.MethodName) prog_5_method_18_code (4 : Nat) (Option.none : Option Jvm.ClassFile.FieldType)) ∈ tb := tb_at 678 (by decide +kernel) (by decide +kernel)
theorem wd_699 : (Jvm.Cond.methodLink "Sleepers$Parser" (145 : Nat) ({ cls := "Sleepers$Parser", name := "repeated", desc := "(II)V" } : Jvm.MethodName)) ∈ tb := tb_at 699 (by decide +kernel) (by decide +kernel)
theorem wd_701 : (Jvm.Cond.instanceMethod ({ cls := "Sleepers$Parser", name := "repeated", desc := "(II)V" } : Jvm.MethodName)) ∈ tb := tb_at 701 (by decide +kernel) (by decide +kernel)
theorem wd_702 : (Jvm.Cond.code ({ cls := "Sleepers$Parser", name := "repeated", desc := "(II)V" } : Jvm.MethodName) prog_5_method_19_code (6 : Nat) (Option.none : Option Jvm.ClassFile.FieldType)) ∈ tb := tb_at 702 (by decide +kernel) (by decide +kernel)
theorem wd_703 : (Jvm.Cond.methodLink "Sleepers$Parser" (194 : Nat) ({ cls := "Sleepers$Scopes", name := "newLoop", desc := "(II)I" } : Jvm.MethodName)) ∈ tb := tb_at 703 (by decide +kernel) (by decide +kernel)
theorem wd_704 : (Jvm.Cond.instanceMethod ({ cls := "Sleepers$Scopes", name := "newLoop", desc := "(II)I" } : Jvm.MethodName)) ∈ tb := tb_at 704 (by decide +kernel) (by decide +kernel)
theorem wd_705 : (Jvm.Cond.selects "Sleepers$Scopes" ({ cls := "Sleepers$Scopes", name := "newLoop", desc := "(II)I" } : Jvm.MethodName) ({ cls := "Sleepers$Scopes", name := "newLoop", desc := "(II)I" } : Jvm.MethodName)) ∈ tb := tb_at 705 (by decide +kernel) (by decide +kernel)
theorem wd_706 : (Jvm.Cond.code ({ cls := "Sleepers$Scopes", name := "newLoop", desc := "(II)I" } : Jvm.MethodName) prog_9_method_4_code (3 : Nat) (Option.some Jvm.ClassFile.FieldType.int)) ∈ tb := tb_at 706 (by decide +kernel) (by decide +kernel)
theorem wd_707 : (Jvm.Cond.methodLink "Sleepers$Parser" (149 : Nat) ({ cls := "Sleepers$Parser", name := "tried", desc := "(I)V" } : Jvm.MethodName)) ∈ tb := tb_at 707 (by decide +kernel) (by decide +kernel)
theorem wd_709 : (Jvm.Cond.instanceMethod ({ cls := "Sleepers$Parser", name := "tried", desc := "(I)V" } : Jvm.MethodName)) ∈ tb := tb_at 709 (by decide +kernel) (by decide +kernel)
theorem wd_710 : (Jvm.Cond.code ({ cls := "Sleepers$Parser", name := "tried", desc := "(I)V" } : Jvm.MethodName) prog_5_method_20_code (4 : Nat) (Option.none : Option Jvm.ClassFile.FieldType)) ∈ tb := tb_at 710 (by decide +kernel) (by decide +kernel)
theorem wd_711 : (Jvm.Cond.methodLink "Sleepers$Parser" (200 : Nat) ({ cls := "Sleepers$Scopes", name := "newTry", desc := "(II)I" } : Jvm.MethodName)) ∈ tb := tb_at 711 (by decide +kernel) (by decide +kernel)
theorem wd_712 : (Jvm.Cond.instanceMethod ({ cls := "Sleepers$Scopes", name := "newTry", desc := "(II)I" } : Jvm.MethodName)) ∈ tb := tb_at 712 (by decide +kernel) (by decide +kernel)
theorem wd_713 : (Jvm.Cond.selects "Sleepers$Scopes" ({ cls := "Sleepers$Scopes", name := "newTry", desc := "(II)I" } : Jvm.MethodName) ({ cls := "Sleepers$Scopes", name := "newTry", desc := "(II)I" } : Jvm.MethodName)) ∈ tb := tb_at 713 (by decide +kernel) (by decide +kernel)
theorem wd_714 : (Jvm.Cond.code ({ cls := "Sleepers$Scopes", name := "newTry", desc := "(II)I" } : Jvm.MethodName) prog_9_method_3_code (3 : Nat) (Option.some Jvm.ClassFile.FieldType.int)) ∈ tb := tb_at 714 (by decide +kernel) (by decide +kernel)
theorem wd_715 : (Jvm.Cond.methodLink "Sleepers$Parser" (203 : Nat) ({ cls := "Sleepers$Scopes", name := "mark", desc := "(II)V" } : Jvm.MethodName)) ∈ tb := tb_at 715 (by decide +kernel) (by decide +kernel)
theorem wd_716 : (Jvm.Cond.instanceMethod ({ cls := "Sleepers$Scopes", name := "mark", desc := "(II)V" } : Jvm.MethodName)) ∈ tb := tb_at 716 (by decide +kernel) (by decide +kernel)
theorem wd_717 : (Jvm.Cond.selects "Sleepers$Scopes" ({ cls := "Sleepers$Scopes", name := "mark", desc := "(II)V" } : Jvm.MethodName) ({ cls := "Sleepers$Scopes", name := "mark", desc := "(II)V" } : Jvm.MethodName)) ∈ tb := tb_at 717 (by decide +kernel) (by decide +kernel)
theorem wd_718 : (Jvm.Cond.code ({ cls := "Sleepers$Scopes", name := "mark", desc := "(II)V" } : Jvm.MethodName) prog_9_method_5_code (3 : Nat) (Option.none : Option Jvm.ClassFile.FieldType)) ∈ tb := tb_at 718 (by decide +kernel) (by decide +kernel)
theorem wd_719 : (Jvm.Cond.methodLink "Sleepers$Parser" (209 : Nat) ({ cls := "Sleepers$Parser", name := "finished", desc := "(II)V" } : Jvm.MethodName)) ∈ tb := tb_at 719 (by decide +kernel) (by decide +kernel)
theorem wd_721 : (Jvm.Cond.instanceMethod ({ cls := "Sleepers$Parser", name := "finished", desc := "(II)V" } : Jvm.MethodName)) ∈ tb := tb_at 721 (by decide +kernel) (by decide +kernel)
theorem wd_722 : (Jvm.Cond.code ({ cls := "Sleepers$Parser", name := "finished", desc := "(II)V" } : Jvm.MethodName) prog_5_method_21_code (4 : Nat) (Option.none : Option Jvm.ClassFile.FieldType)) ∈ tb := tb_at 722 (by decide +kernel) (by decide +kernel)
theorem wd_723 : (Jvm.Cond.methodLink "Sleepers$Parser" (152 : Nat) ({ cls := "Sleepers$Parser", name := "assigned", desc := "()V" } : Jvm.MethodName)) ∈ tb := tb_at 723 (by decide +kernel) (by decide +kernel)
theorem wd_725 : (Jvm.Cond.instanceMethod ({ cls := "Sleepers$Parser", name := "assigned", desc := "()V" } : Jvm.MethodName)) ∈ tb := tb_at 725 (by decide +kernel) (by decide +kernel)
theorem wd_726 : (Jvm.Cond.code ({ cls := "Sleepers$Parser", name := "assigned", desc := "()V" } : Jvm.MethodName) prog_5_method_15_code (3 : Nat) (Option.none : Option Jvm.ClassFile.FieldType)) ∈ tb := tb_at 726 (by decide +kernel) (by decide +kernel)
theorem wd_754 : (Jvm.Cond.methodLink "Sleepers$Parser" (158 : Nat) ({ cls := "Sleepers$Parser", name := "returned", desc := "()V" } : Jvm.MethodName)) ∈ tb := tb_at 754 (by decide +kernel) (by decide +kernel)
theorem wd_756 : (Jvm.Cond.instanceMethod ({ cls := "Sleepers$Parser", name := "returned", desc := "()V" } : Jvm.MethodName)) ∈ tb := tb_at 756 (by decide +kernel) (by decide +kernel)
theorem wd_757 : (Jvm.Cond.code ({ cls := "Sleepers$Parser", name := "returned", desc := "()V" } : Jvm.MethodName) prog_5_method_16_code (1 : Nat) (Option.none : Option Jvm.ClassFile.FieldType)) ∈ tb := tb_at 757 (by decide +kernel) (by decide +kernel)
theorem wd_758 : (Jvm.Cond.methodLink "Sleepers$Parser" (164 : Nat) ({ cls := "Sleepers$Parser", name := "leftLoop", desc := "()V" } : Jvm.MethodName)) ∈ tb := tb_at 758 (by decide +kernel) (by decide +kernel)
theorem wd_760 : (Jvm.Cond.instanceMethod ({ cls := "Sleepers$Parser", name := "leftLoop", desc := "()V" } : Jvm.MethodName)) ∈ tb := tb_at 760 (by decide +kernel) (by decide +kernel)
theorem wd_761 : (Jvm.Cond.code ({ cls := "Sleepers$Parser", name := "leftLoop", desc := "()V" } : Jvm.MethodName) prog_5_method_17_code (2 : Nat) (Option.none : Option Jvm.ClassFile.FieldType)) ∈ tb := tb_at 761 (by decide +kernel) (by decide +kernel)
theorem sl_X3_assigned : Cond.selects RX3 yX3_assigned yX3_assigned ∈ tb := sl_of (y := ⟨"Sleepers$Parser", "assigned", "()V"⟩) (n := 13) (by decide +kernel) (by decide +kernel)
theorem sl_X3_choice : Cond.selects RX3 yX3_choice yX3_choice ∈ tb := sl_of (y := ⟨"Sleepers$Parser", "choice", "(I)V"⟩) (n := 13) (by decide +kernel) (by decide +kernel)
theorem sl_X3_finished : Cond.selects RX3 yX3_finished yX3_finished ∈ tb := sl_of (y := ⟨"Sleepers$Parser", "finished", "(II)V"⟩) (n := 13) (by decide +kernel) (by decide +kernel)
theorem sl_X3_leftLoop : Cond.selects RX3 yX3_leftLoop yX3_leftLoop ∈ tb := sl_of (y := ⟨"Sleepers$Parser", "leftLoop", "()V"⟩) (n := 13) (by decide +kernel) (by decide +kernel)
theorem sl_X3_repeated : Cond.selects RX3 yX3_repeated yX3_repeated ∈ tb := sl_of (y := ⟨"Sleepers$Parser", "repeated", "(II)V"⟩) (n := 13) (by decide +kernel) (by decide +kernel)
theorem sl_X3_returned : Cond.selects RX3 yX3_returned yX3_returned ∈ tb := sl_of (y := ⟨"Sleepers$Parser", "returned", "()V"⟩) (n := 13) (by decide +kernel) (by decide +kernel)
theorem sl_X3_tried : Cond.selects RX3 yX3_tried yX3_tried ∈ tb := sl_of (y := ⟨"Sleepers$Parser", "tried", "(I)V"⟩) (n := 13) (by decide +kernel) (by decide +kernel)
theorem dX3_choice_0 : decode cX3_choice 0 = .ok (.aload_n 0, 1) := by decide +kernel
theorem dX3_choice_1 : decode cX3_choice 1 = .ok (.iconst 0, 1) := by decide +kernel
theorem dX3_choice_2 : decode cX3_choice 2 = .ok (.invokevirtual 155, 3) := by decide +kernel
theorem dX3_choice_5 : decode cX3_choice 5 = .ok (.aload_n 0, 1) := by decide +kernel
theorem dX3_choice_6 : decode cX3_choice 6 = .ok (.bipush 15, 2) := by decide +kernel
theorem dX3_choice_8 : decode cX3_choice 8 = .ok (.iconst 0, 1) := by decide +kernel
theorem dX3_choice_9 : decode cX3_choice 9 = .ok (.invokevirtual 139, 3) := by decide +kernel
theorem dX3_choice_12 : decode cX3_choice 12 = .ok (.istore_n 2, 1) := by decide +kernel
theorem dX3_choice_13 : decode cX3_choice 13 = .ok (.aload_n 0, 1) := by decide +kernel
theorem dX3_choice_14 : decode cX3_choice 14 = .ok (.iload_n 1, 1) := by decide +kernel
theorem dX3_choice_15 : decode cX3_choice 15 = .ok (.invokevirtual 71, 3) := by decide +kernel
theorem dX3_choice_18 : decode cX3_choice 18 = .ok (.aload_n 0, 1) := by decide +kernel
theorem dX3_choice_19 : decode cX3_choice 19 = .ok (.sipush 204, 3) := by decide +kernel
theorem dX3_choice_22 : decode cX3_choice 22 = .ok (.invokevirtual 89, 3) := by decide +kernel
theorem dX3_choice_25 : decode cX3_choice 25 = .ok (.ifCond .eq 51, 3) := by decide +kernel
theorem dX3_choice_28 : decode cX3_choice 28 = .ok (.aload_n 0, 1) := by decide +kernel
theorem dX3_choice_29 : decode cX3_choice 29 = .ok (.bipush 16, 2) := by decide +kernel
theorem dX3_choice_31 : decode cX3_choice 31 = .ok (.iconst 0, 1) := by decide +kernel
theorem dX3_choice_32 : decode cX3_choice 32 = .ok (.invokevirtual 139, 3) := by decide +kernel
theorem dX3_choice_35 : decode cX3_choice 35 = .ok (.istore_n 3, 1) := by decide +kernel
theorem dX3_choice_36 : decode cX3_choice 36 = .ok (.aload_n 0, 1) := by decide +kernel
theorem dX3_choice_37 : decode cX3_choice 37 = .ok (.getfield 29, 3) := by decide +kernel
theorem dX3_choice_40 : decode cX3_choice 40 = .ok (.getfield 188, 3) := by decide +kernel
theorem dX3_choice_43 : decode cX3_choice 43 = .ok (.iload_n 2, 1) := by decide +kernel
theorem dX3_choice_44 : decode cX3_choice 44 = .ok (.aload_n 0, 1) := by decide +kernel
theorem dX3_choice_45 : decode cX3_choice 45 = .ok (.getfield 29, 3) := by decide +kernel
theorem dX3_choice_48 : decode cX3_choice 48 = .ok (.getfield 191, 3) := by decide +kernel
theorem dX3_choice_51 : decode cX3_choice 51 = .ok (.iastore, 1) := by decide +kernel
theorem dX3_choice_52 : decode cX3_choice 52 = .ok (.aload_n 0, 1) := by decide +kernel
theorem dX3_choice_53 : decode cX3_choice 53 = .ok (.iload_n 1, 1) := by decide +kernel
theorem dX3_choice_54 : decode cX3_choice 54 = .ok (.invokevirtual 71, 3) := by decide +kernel
theorem dX3_choice_57 : decode cX3_choice 57 = .ok (.aload_n 0, 1) := by decide +kernel
theorem dX3_choice_58 : decode cX3_choice 58 = .ok (.getfield 29, 3) := by decide +kernel
theorem dX3_choice_61 : decode cX3_choice 61 = .ok (.getfield 188, 3) := by decide +kernel
theorem dX3_choice_64 : decode cX3_choice 64 = .ok (.iload_n 3, 1) := by decide +kernel
theorem dX3_choice_65 : decode cX3_choice 65 = .ok (.aload_n 0, 1) := by decide +kernel
theorem dX3_choice_66 : decode cX3_choice 66 = .ok (.getfield 29, 3) := by decide +kernel
theorem dX3_choice_69 : decode cX3_choice 69 = .ok (.getfield 191, 3) := by decide +kernel
theorem dX3_choice_72 : decode cX3_choice 72 = .ok (.iastore, 1) := by decide +kernel
theorem dX3_choice_73 : decode cX3_choice 73 = .ok (.goto 19, 3) := by decide +kernel
theorem dX3_choice_76 : decode cX3_choice 76 = .ok (.aload_n 0, 1) := by decide +kernel
theorem dX3_choice_77 : decode cX3_choice 77 = .ok (.getfield 29, 3) := by decide +kernel
theorem dX3_choice_80 : decode cX3_choice 80 = .ok (.getfield 188, 3) := by decide +kernel
theorem dX3_choice_83 : decode cX3_choice 83 = .ok (.iload_n 2, 1) := by decide +kernel
theorem dX3_choice_84 : decode cX3_choice 84 = .ok (.aload_n 0, 1) := by decide +kernel
theorem dX3_choice_85 : decode cX3_choice 85 = .ok (.getfield 29, 3) := by decide +kernel
theorem dX3_choice_88 : decode cX3_choice 88 = .ok (.getfield 191, 3) := by decide +kernel
theorem dX3_choice_91 : decode cX3_choice 91 = .ok (.iastore, 1) := by decide +kernel
theorem dX3_choice_92 : decode cX3_choice 92 = .ok (.return_, 1) := by decide +kernel
theorem dX3_repeated_0 : decode cX3_repeated 0 = .ok (.aload_n 0, 1) := by decide +kernel
theorem dX3_repeated_1 : decode cX3_repeated 1 = .ok (.getfield 53, 3) := by decide +kernel
theorem dX3_repeated_4 : decode cX3_repeated 4 = .ok (.istore_n 3, 1) := by decide +kernel
theorem dX3_repeated_5 : decode cX3_repeated 5 = .ok (.aload_n 0, 1) := by decide +kernel
theorem dX3_repeated_6 : decode cX3_repeated 6 = .ok (.getfield 42, 3) := by decide +kernel
theorem dX3_repeated_9 : decode cX3_repeated 9 = .ok (.aload_n 0, 1) := by decide +kernel
theorem dX3_repeated_10 : decode cX3_repeated 10 = .ok (.getfield 50, 3) := by decide +kernel
theorem dX3_repeated_13 : decode cX3_repeated 13 = .ok (.iload_n 2, 1) := by decide +kernel
theorem dX3_repeated_14 : decode cX3_repeated 14 = .ok (.invokevirtual 194, 3) := by decide +kernel
theorem dX3_repeated_17 : decode cX3_repeated 17 = .ok (.istore 4, 2) := by decide +kernel
theorem dX3_repeated_19 : decode cX3_repeated 19 = .ok (.iload 4, 2) := by decide +kernel
theorem dX3_repeated_21 : decode cX3_repeated 21 = .ok (.iconst (-1), 1) := by decide +kernel
theorem dX3_repeated_22 : decode cX3_repeated 22 = .ok (.if_icmp .ne 9, 3) := by decide +kernel
theorem dX3_repeated_25 : decode cX3_repeated 25 = .ok (.aload_n 0, 1) := by decide +kernel
theorem dX3_repeated_26 : decode cX3_repeated 26 = .ok (.iconst 5, 1) := by decide +kernel
theorem dX3_repeated_27 : decode cX3_repeated 27 = .ok (.invokevirtual 78, 3) := by decide +kernel
theorem dX3_repeated_30 : decode cX3_repeated 30 = .ok (.return_, 1) := by decide +kernel
theorem dX3_repeated_31 : decode cX3_repeated 31 = .ok (.aload_n 0, 1) := by decide +kernel
theorem dX3_repeated_32 : decode cX3_repeated 32 = .ok (.iconst 0, 1) := by decide +kernel
theorem dX3_repeated_33 : decode cX3_repeated 33 = .ok (.invokevirtual 155, 3) := by decide +kernel
theorem dX3_repeated_36 : decode cX3_repeated 36 = .ok (.aload_n 0, 1) := by decide +kernel
theorem dX3_repeated_37 : decode cX3_repeated 37 = .ok (.bipush 15, 2) := by decide +kernel
theorem dX3_repeated_39 : decode cX3_repeated 39 = .ok (.iconst 0, 1) := by decide +kernel
theorem dX3_repeated_40 : decode cX3_repeated 40 = .ok (.invokevirtual 139, 3) := by decide +kernel
theorem dX3_repeated_43 : decode cX3_repeated 43 = .ok (.istore 5, 2) := by decide +kernel
theorem dX3_repeated_45 : decode cX3_repeated 45 = .ok (.aload_n 0, 1) := by decide +kernel
theorem dX3_repeated_46 : decode cX3_repeated 46 = .ok (.iload 4, 2) := by decide +kernel
theorem dX3_repeated_48 : decode cX3_repeated 48 = .ok (.putfield 53, 3) := by decide +kernel
theorem dX3_repeated_51 : decode cX3_repeated 51 = .ok (.aload_n 0, 1) := by decide +kernel
theorem dX3_repeated_52 : decode cX3_repeated 52 = .ok (.iload_n 1, 1) := by decide +kernel
theorem dX3_repeated_53 : decode cX3_repeated 53 = .ok (.invokevirtual 71, 3) := by decide +kernel
theorem dX3_repeated_56 : decode cX3_repeated 56 = .ok (.aload_n 0, 1) := by decide +kernel
theorem dX3_repeated_57 : decode cX3_repeated 57 = .ok (.iload_n 3, 1) := by decide +kernel
theorem dX3_repeated_58 : decode cX3_repeated 58 = .ok (.putfield 53, 3) := by decide +kernel
theorem dX3_repeated_61 : decode cX3_repeated 61 = .ok (.aload_n 0, 1) := by decide +kernel
theorem dX3_repeated_62 : decode cX3_repeated 62 = .ok (.bipush 16, 2) := by decide +kernel
theorem dX3_repeated_64 : decode cX3_repeated 64 = .ok (.iload_n 2, 1) := by decide +kernel
theorem dX3_repeated_65 : decode cX3_repeated 65 = .ok (.invokevirtual 139, 3) := by decide +kernel
theorem dX3_repeated_68 : decode cX3_repeated 68 = .ok (.pop, 1) := by decide +kernel
theorem dX3_repeated_69 : decode cX3_repeated 69 = .ok (.aload_n 0, 1) := by decide +kernel
theorem dX3_repeated_70 : decode cX3_repeated 70 = .ok (.getfield 29, 3) := by decide +kernel
theorem dX3_repeated_73 : decode cX3_repeated 73 = .ok (.getfield 188, 3) := by decide +kernel
theorem dX3_repeated_76 : decode cX3_repeated 76 = .ok (.iload 5, 2) := by decide +kernel
theorem dX3_repeated_78 : decode cX3_repeated 78 = .ok (.aload_n 0, 1) := by decide +kernel
theorem dX3_repeated_79 : decode cX3_repeated 79 = .ok (.getfield 29, 3) := by decide +kernel
theorem dX3_repeated_82 : decode cX3_repeated 82 = .ok (.getfield 191, 3) := by decide +kernel
theorem dX3_repeated_85 : decode cX3_repeated 85 = .ok (.iastore, 1) := by decide +kernel
theorem dX3_repeated_86 : decode cX3_repeated 86 = .ok (.aload_n 0, 1) := by decide +kernel
theorem dX3_repeated_87 : decode cX3_repeated 87 = .ok (.getfield 42, 3) := by decide +kernel
theorem dX3_repeated_90 : decode cX3_repeated 90 = .ok (.getfield 197, 3) := by decide +kernel
theorem dX3_repeated_93 : decode cX3_repeated 93 = .ok (.iload 4, 2) := by decide +kernel
theorem dX3_repeated_95 : decode cX3_repeated 95 = .ok (.aload_n 0, 1) := by decide +kernel
theorem dX3_repeated_96 : decode cX3_repeated 96 = .ok (.getfield 29, 3) := by decide +kernel
theorem dX3_repeated_99 : decode cX3_repeated 99 = .ok (.getfield 191, 3) := by decide +kernel
theorem dX3_repeated_102 : decode cX3_repeated 102 = .ok (.iastore, 1) := by decide +kernel
theorem dX3_repeated_103 : decode cX3_repeated 103 = .ok (.return_, 1) := by decide +kernel
theorem dX3_statement_0 : decode cX3_statement 0 = .ok (.aload_n 0, 1) := by decide +kernel
theorem dX3_statement_1 : decode cX3_statement 1 = .ok (.iconst 0, 1) := by decide +kernel
theorem dX3_statement_2 : decode cX3_statement 2 = .ok (.iconst 0, 1) := by decide +kernel
theorem dX3_statement_3 : decode cX3_statement 3 = .ok (.invokevirtual 139, 3) := by decide +kernel
theorem dX3_statement_6 : decode cX3_statement 6 = .ok (.istore_n 2, 1) := by decide +kernel
theorem dX3_statement_7 : decode cX3_statement 7 = .ok (.aload_n 0, 1) := by decide +kernel
theorem dX3_statement_8 : decode cX3_statement 8 = .ok (.invokevirtual 62, 3) := by decide +kernel
theorem dX3_statement_11 : decode cX3_statement 11 = .ok (.lookupswitch 159 #[(3, 104), (201, 104), (202, 111), (203, 73), (205, 83), (208, 131), (209, 138), (210, 94)], 73) := by decide +kernel
theorem dX3_statement_84 : decode cX3_statement 84 = .ok (.aload_n 0, 1) := by decide +kernel
theorem dX3_statement_85 : decode cX3_statement 85 = .ok (.invokevirtual 103, 3) := by decide +kernel
theorem dX3_statement_88 : decode cX3_statement 88 = .ok (.aload_n 0, 1) := by decide +kernel
theorem dX3_statement_89 : decode cX3_statement 89 = .ok (.iload_n 1, 1) := by decide +kernel
theorem dX3_statement_90 : decode cX3_statement 90 = .ok (.invokevirtual 142, 3) := by decide +kernel
theorem dX3_statement_93 : decode cX3_statement 93 = .ok (.return_, 1) := by decide +kernel
theorem dX3_statement_94 : decode cX3_statement 94 = .ok (.aload_n 0, 1) := by decide +kernel
theorem dX3_statement_95 : decode cX3_statement 95 = .ok (.invokevirtual 103, 3) := by decide +kernel
theorem dX3_statement_98 : decode cX3_statement 98 = .ok (.aload_n 0, 1) := by decide +kernel
theorem dX3_statement_99 : decode cX3_statement 99 = .ok (.iload_n 1, 1) := by decide +kernel
theorem dX3_statement_100 : decode cX3_statement 100 = .ok (.iload_n 2, 1) := by decide +kernel
theorem dX3_statement_101 : decode cX3_statement 101 = .ok (.invokevirtual 145, 3) := by decide +kernel
theorem dX3_statement_104 : decode cX3_statement 104 = .ok (.return_, 1) := by decide +kernel
theorem dX3_statement_105 : decode cX3_statement 105 = .ok (.aload_n 0, 1) := by decide +kernel
theorem dX3_statement_106 : decode cX3_statement 106 = .ok (.invokevirtual 103, 3) := by decide +kernel
theorem dX3_statement_109 : decode cX3_statement 109 = .ok (.aload_n 0, 1) := by decide +kernel
theorem dX3_statement_110 : decode cX3_statement 110 = .ok (.iload_n 1, 1) := by decide +kernel
theorem dX3_statement_111 : decode cX3_statement 111 = .ok (.invokevirtual 149, 3) := by decide +kernel
theorem dX3_statement_114 : decode cX3_statement 114 = .ok (.return_, 1) := by decide +kernel
theorem dX3_statement_115 : decode cX3_statement 115 = .ok (.aload_n 0, 1) := by decide +kernel
theorem dX3_statement_116 : decode cX3_statement 116 = .ok (.invokevirtual 152, 3) := by decide +kernel
theorem dX3_statement_119 : decode cX3_statement 119 = .ok (.goto 55, 3) := by decide +kernel
theorem dX3_statement_122 : decode cX3_statement 122 = .ok (.aload_n 0, 1) := by decide +kernel
theorem dX3_statement_123 : decode cX3_statement 123 = .ok (.invokevirtual 103, 3) := by decide +kernel
theorem dX3_statement_126 : decode cX3_statement 126 = .ok (.aload_n 0, 1) := by decide +kernel
theorem dX3_statement_127 : decode cX3_statement 127 = .ok (.iconst 0, 1) := by decide +kernel
theorem dX3_statement_128 : decode cX3_statement 128 = .ok (.invokevirtual 155, 3) := by decide +kernel
theorem dX3_statement_131 : decode cX3_statement 131 = .ok (.aload_n 0, 1) := by decide +kernel
theorem dX3_statement_132 : decode cX3_statement 132 = .ok (.bipush 14, 2) := by decide +kernel
theorem dX3_statement_134 : decode cX3_statement 134 = .ok (.iconst 0, 1) := by decide +kernel
theorem dX3_statement_135 : decode cX3_statement 135 = .ok (.invokevirtual 139, 3) := by decide +kernel
theorem dX3_statement_138 : decode cX3_statement 138 = .ok (.pop, 1) := by decide +kernel
theorem dX3_statement_139 : decode cX3_statement 139 = .ok (.goto 35, 3) := by decide +kernel
theorem dX3_statement_142 : decode cX3_statement 142 = .ok (.aload_n 0, 1) := by decide +kernel
theorem dX3_statement_143 : decode cX3_statement 143 = .ok (.invokevirtual 158, 3) := by decide +kernel
theorem dX3_statement_146 : decode cX3_statement 146 = .ok (.goto 28, 3) := by decide +kernel
theorem dX3_statement_149 : decode cX3_statement 149 = .ok (.aload_n 0, 1) := by decide +kernel
theorem dX3_statement_150 : decode cX3_statement 150 = .ok (.invokevirtual 103, 3) := by decide +kernel
theorem dX3_statement_153 : decode cX3_statement 153 = .ok (.aload_n 0, 1) := by decide +kernel
theorem dX3_statement_154 : decode cX3_statement 154 = .ok (.bipush 20, 2) := by decide +kernel
theorem dX3_statement_156 : decode cX3_statement 156 = .ok (.aload_n 0, 1) := by decide +kernel
theorem dX3_statement_157 : decode cX3_statement 157 = .ok (.iconst 1, 1) := by decide +kernel
theorem dX3_statement_158 : decode cX3_statement 158 = .ok (.bipush 9, 2) := by decide +kernel
theorem dX3_statement_160 : decode cX3_statement 160 = .ok (.invokevirtual 161, 3) := by decide +kernel
theorem dX3_statement_163 : decode cX3_statement 163 = .ok (.invokevirtual 139, 3) := by decide +kernel
theorem dX3_statement_166 : decode cX3_statement 166 = .ok (.pop, 1) := by decide +kernel
theorem dX3_statement_167 : decode cX3_statement 167 = .ok (.goto 7, 3) := by decide +kernel
theorem dX3_statement_170 : decode cX3_statement 170 = .ok (.aload_n 0, 1) := by decide +kernel
theorem dX3_statement_171 : decode cX3_statement 171 = .ok (.invokevirtual 164, 3) := by decide +kernel
theorem dX3_statement_174 : decode cX3_statement 174 = .ok (.aload_n 0, 1) := by decide +kernel
theorem dX3_statement_175 : decode cX3_statement 175 = .ok (.bipush 59, 2) := by decide +kernel
theorem dX3_statement_177 : decode cX3_statement 177 = .ok (.invokevirtual 117, 3) := by decide +kernel
theorem dX3_statement_180 : decode cX3_statement 180 = .ok (.return_, 1) := by decide +kernel
theorem dX3_tried_0 : decode cX3_tried 0 = .ok (.aload_n 0, 1) := by decide +kernel
theorem dX3_tried_1 : decode cX3_tried 1 = .ok (.getfield 50, 3) := by decide +kernel
theorem dX3_tried_4 : decode cX3_tried 4 = .ok (.istore_n 2, 1) := by decide +kernel
theorem dX3_tried_5 : decode cX3_tried 5 = .ok (.aload_n 0, 1) := by decide +kernel
theorem dX3_tried_6 : decode cX3_tried 6 = .ok (.getfield 42, 3) := by decide +kernel
theorem dX3_tried_9 : decode cX3_tried 9 = .ok (.iload_n 2, 1) := by decide +kernel
theorem dX3_tried_10 : decode cX3_tried 10 = .ok (.aload_n 0, 1) := by decide +kernel
theorem dX3_tried_11 : decode cX3_tried 11 = .ok (.getfield 53, 3) := by decide +kernel
theorem dX3_tried_14 : decode cX3_tried 14 = .ok (.invokevirtual 200, 3) := by decide +kernel
theorem dX3_tried_17 : decode cX3_tried 17 = .ok (.istore_n 3, 1) := by decide +kernel
theorem dX3_tried_18 : decode cX3_tried 18 = .ok (.iload_n 3, 1) := by decide +kernel
theorem dX3_tried_19 : decode cX3_tried 19 = .ok (.iconst (-1), 1) := by decide +kernel
theorem dX3_tried_20 : decode cX3_tried 20 = .ok (.if_icmp .ne 9, 3) := by decide +kernel
theorem dX3_tried_23 : decode cX3_tried 23 = .ok (.aload_n 0, 1) := by decide +kernel
theorem dX3_tried_24 : decode cX3_tried 24 = .ok (.iconst 5, 1) := by decide +kernel
theorem dX3_tried_25 : decode cX3_tried 25 = .ok (.invokevirtual 78, 3) := by decide +kernel
theorem dX3_tried_28 : decode cX3_tried 28 = .ok (.return_, 1) := by decide +kernel
theorem dX3_tried_29 : decode cX3_tried 29 = .ok (.aload_n 0, 1) := by decide +kernel
theorem dX3_tried_30 : decode cX3_tried 30 = .ok (.iload_n 3, 1) := by decide +kernel
theorem dX3_tried_31 : decode cX3_tried 31 = .ok (.iconst 3, 1) := by decide +kernel
theorem dX3_tried_32 : decode cX3_tried 32 = .ok (.imul, 1) := by decide +kernel
theorem dX3_tried_33 : decode cX3_tried 33 = .ok (.iconst 0, 1) := by decide +kernel
theorem dX3_tried_34 : decode cX3_tried 34 = .ok (.iadd, 1) := by decide +kernel
theorem dX3_tried_35 : decode cX3_tried 35 = .ok (.putfield 50, 3) := by decide +kernel
theorem dX3_tried_38 : decode cX3_tried 38 = .ok (.aload_n 0, 1) := by decide +kernel
theorem dX3_tried_39 : decode cX3_tried 39 = .ok (.iload_n 1, 1) := by decide +kernel
theorem dX3_tried_40 : decode cX3_tried 40 = .ok (.invokevirtual 71, 3) := by decide +kernel
theorem dX3_tried_43 : decode cX3_tried 43 = .ok (.aload_n 0, 1) := by decide +kernel
theorem dX3_tried_44 : decode cX3_tried 44 = .ok (.bipush 21, 2) := by decide +kernel
theorem dX3_tried_46 : decode cX3_tried 46 = .ok (.iload_n 3, 1) := by decide +kernel
theorem dX3_tried_47 : decode cX3_tried 47 = .ok (.invokevirtual 139, 3) := by decide +kernel
theorem dX3_tried_50 : decode cX3_tried 50 = .ok (.pop, 1) := by decide +kernel
theorem dX3_tried_51 : decode cX3_tried 51 = .ok (.aload_n 0, 1) := by decide +kernel
theorem dX3_tried_52 : decode cX3_tried 52 = .ok (.invokevirtual 62, 3) := by decide +kernel
theorem dX3_tried_55 : decode cX3_tried 55 = .ok (.sipush 211, 3) := by decide +kernel
theorem dX3_tried_58 : decode cX3_tried 58 = .ok (.if_icmp .eq 18, 3) := by decide +kernel
theorem dX3_tried_61 : decode cX3_tried 61 = .ok (.aload_n 0, 1) := by decide +kernel
theorem dX3_tried_62 : decode cX3_tried 62 = .ok (.invokevirtual 62, 3) := by decide +kernel
theorem dX3_tried_65 : decode cX3_tried 65 = .ok (.sipush 212, 3) := by decide +kernel
theorem dX3_tried_68 : decode cX3_tried 68 = .ok (.if_icmp .eq 8, 3) := by decide +kernel
theorem dX3_tried_71 : decode cX3_tried 71 = .ok (.aload_n 0, 1) := by decide +kernel
theorem dX3_tried_72 : decode cX3_tried 72 = .ok (.iconst 1, 1) := by decide +kernel
theorem dX3_tried_73 : decode cX3_tried 73 = .ok (.invokevirtual 78, 3) := by decide +kernel
theorem dX3_tried_76 : decode cX3_tried 76 = .ok (.aload_n 0, 1) := by decide +kernel
theorem dX3_tried_77 : decode cX3_tried 77 = .ok (.sipush 211, 3) := by decide +kernel
theorem dX3_tried_80 : decode cX3_tried 80 = .ok (.invokevirtual 89, 3) := by decide +kernel
theorem dX3_tried_83 : decode cX3_tried 83 = .ok (.ifCond .eq 53, 3) := by decide +kernel
theorem dX3_tried_86 : decode cX3_tried 86 = .ok (.aload_n 0, 1) := by decide +kernel
theorem dX3_tried_87 : decode cX3_tried 87 = .ok (.iload_n 3, 1) := by decide +kernel
theorem dX3_tried_88 : decode cX3_tried 88 = .ok (.iconst 3, 1) := by decide +kernel
theorem dX3_tried_89 : decode cX3_tried 89 = .ok (.imul, 1) := by decide +kernel
theorem dX3_tried_90 : decode cX3_tried 90 = .ok (.iconst 1, 1) := by decide +kernel
theorem dX3_tried_91 : decode cX3_tried 91 = .ok (.iadd, 1) := by decide +kernel
theorem dX3_tried_92 : decode cX3_tried 92 = .ok (.putfield 50, 3) := by decide +kernel
theorem dX3_tried_95 : decode cX3_tried 95 = .ok (.aload_n 0, 1) := by decide +kernel
theorem dX3_tried_96 : decode cX3_tried 96 = .ok (.getfield 42, 3) := by decide +kernel
theorem dX3_tried_99 : decode cX3_tried 99 = .ok (.iload_n 3, 1) := by decide +kernel
theorem dX3_tried_100 : decode cX3_tried 100 = .ok (.iconst 1, 1) := by decide +kernel
theorem dX3_tried_101 : decode cX3_tried 101 = .ok (.invokevirtual 203, 3) := by decide +kernel
theorem dX3_tried_104 : decode cX3_tried 104 = .ok (.aload_n 0, 1) := by decide +kernel
theorem dX3_tried_105 : decode cX3_tried 105 = .ok (.getfield 42, 3) := by decide +kernel
theorem dX3_tried_108 : decode cX3_tried 108 = .ok (.getfield 206, 3) := by decide +kernel
theorem dX3_tried_111 : decode cX3_tried 111 = .ok (.iload_n 3, 1) := by decide +kernel
theorem dX3_tried_112 : decode cX3_tried 112 = .ok (.aload_n 0, 1) := by decide +kernel
theorem dX3_tried_113 : decode cX3_tried 113 = .ok (.bipush 22, 2) := by decide +kernel
theorem dX3_tried_115 : decode cX3_tried 115 = .ok (.aload_n 0, 1) := by decide +kernel
theorem dX3_tried_116 : decode cX3_tried 116 = .ok (.invokevirtual 167, 3) := by decide +kernel
theorem dX3_tried_119 : decode cX3_tried 119 = .ok (.invokevirtual 139, 3) := by decide +kernel
theorem dX3_tried_122 : decode cX3_tried 122 = .ok (.iastore, 1) := by decide +kernel
theorem dX3_tried_123 : decode cX3_tried 123 = .ok (.aload_n 0, 1) := by decide +kernel
theorem dX3_tried_124 : decode cX3_tried 124 = .ok (.iload_n 1, 1) := by decide +kernel
theorem dX3_tried_125 : decode cX3_tried 125 = .ok (.invokevirtual 71, 3) := by decide +kernel
theorem dX3_tried_128 : decode cX3_tried 128 = .ok (.aload_n 0, 1) := by decide +kernel
theorem dX3_tried_129 : decode cX3_tried 129 = .ok (.bipush 21, 2) := by decide +kernel
theorem dX3_tried_131 : decode cX3_tried 131 = .ok (.iload_n 3, 1) := by decide +kernel
theorem dX3_tried_132 : decode cX3_tried 132 = .ok (.invokevirtual 139, 3) := by decide +kernel
theorem dX3_tried_135 : decode cX3_tried 135 = .ok (.pop, 1) := by decide +kernel
theorem dX3_tried_136 : decode cX3_tried 136 = .ok (.aload_n 0, 1) := by decide +kernel
theorem dX3_tried_137 : decode cX3_tried 137 = .ok (.sipush 212, 3) := by decide +kernel
theorem dX3_tried_140 : decode cX3_tried 140 = .ok (.invokevirtual 89, 3) := by decide +kernel
theorem dX3_tried_143 : decode cX3_tried 143 = .ok (.ifCond .eq 27, 3) := by decide +kernel
theorem dX3_tried_146 : decode cX3_tried 146 = .ok (.aload_n 0, 1) := by decide +kernel
theorem dX3_tried_147 : decode cX3_tried 147 = .ok (.iload_n 3, 1) := by decide +kernel
theorem dX3_tried_148 : decode cX3_tried 148 = .ok (.iconst 3, 1) := by decide +kernel
theorem dX3_tried_149 : decode cX3_tried 149 = .ok (.imul, 1) := by decide +kernel
theorem dX3_tried_150 : decode cX3_tried 150 = .ok (.iconst 2, 1) := by decide +kernel
theorem dX3_tried_151 : decode cX3_tried 151 = .ok (.iadd, 1) := by decide +kernel
theorem dX3_tried_152 : decode cX3_tried 152 = .ok (.putfield 50, 3) := by decide +kernel
theorem dX3_tried_155 : decode cX3_tried 155 = .ok (.aload_n 0, 1) := by decide +kernel
theorem dX3_tried_156 : decode cX3_tried 156 = .ok (.getfield 42, 3) := by decide +kernel
theorem dX3_tried_159 : decode cX3_tried 159 = .ok (.iload_n 3, 1) := by decide +kernel
theorem dX3_tried_160 : decode cX3_tried 160 = .ok (.iconst 2, 1) := by decide +kernel
theorem dX3_tried_161 : decode cX3_tried 161 = .ok (.invokevirtual 203, 3) := by decide +kernel
theorem dX3_tried_164 : decode cX3_tried 164 = .ok (.aload_n 0, 1) := by decide +kernel
theorem dX3_tried_165 : decode cX3_tried 165 = .ok (.iload_n 1, 1) := by decide +kernel
theorem dX3_tried_166 : decode cX3_tried 166 = .ok (.iload_n 3, 1) := by decide +kernel
theorem dX3_tried_167 : decode cX3_tried 167 = .ok (.invokevirtual 209, 3) := by decide +kernel
theorem dX3_tried_170 : decode cX3_tried 170 = .ok (.aload_n 0, 1) := by decide +kernel
theorem dX3_tried_171 : decode cX3_tried 171 = .ok (.getfield 42, 3) := by decide +kernel
theorem dX3_tried_174 : decode cX3_tried 174 = .ok (.getfield 212, 3) := by decide +kernel
theorem dX3_tried_177 : decode cX3_tried 177 = .ok (.iload_n 3, 1) := by decide +kernel
theorem dX3_tried_178 : decode cX3_tried 178 = .ok (.aload_n 0, 1) := by decide +kernel
theorem dX3_tried_179 : decode cX3_tried 179 = .ok (.getfield 29, 3) := by decide +kernel
theorem dX3_tried_182 : decode cX3_tried 182 = .ok (.getfield 191, 3) := by decide +kernel
theorem dX3_tried_185 : decode cX3_tried 185 = .ok (.iastore, 1) := by decide +kernel
theorem dX3_tried_186 : decode cX3_tried 186 = .ok (.aload_n 0, 1) := by decide +kernel
theorem dX3_tried_187 : decode cX3_tried 187 = .ok (.iload_n 2, 1) := by decide +kernel
theorem dX3_tried_188 : decode cX3_tried 188 = .ok (.putfield 50, 3) := by decide +kernel
theorem dX3_tried_191 : decode cX3_tried 191 = .ok (.return_, 1) := by decide +kernel
def wp_X3_tried_170 (r_X3_block : Nat → Int32 → kS → (kS → Prop) → Prop) (K : kS → Prop) (x0 : Nat) (x2 : Int32) (x3 : Int32) (S : kS) : Prop := hasO S x0 3 ∧ ∀ z44 : Option Nat, z44 = S.2.1 16 x0 → ∃ q45 : Nat, z44 = some q45 ∧ hasO S q45 7 ∧ ∀ z46 : Option Nat, z46 = S.2.1 48 q45 → hasO S x0 3 ∧ ∀ z47 : Option Nat, z47 = S.2.1 15 x0 → ∃ q48 : Nat, z47 = some q48 ∧ hasO S q48 5 ∧ ∀ z49 : Int32, z49 = S.1 17 q48 → ∃ q50 : Nat, z46 = some q50 ∧ hasA S q50 460 0 ∧ inR x3 460 ∧ ∀ S51 : kS, S51 = cA S q50 (ix x3) z49 → hasO S51 x0 3 ∧ ∀ S52 : kS, S52 = cI S51 8 x0 x2 → K S52
def wp_X3_tried_136 (r_X3_block : Nat → Int32 → kS → (kS → Prop) → Prop) (K : kS → Prop) (x0 : Nat) (x1 : Int32) (x2 : Int32) (x3 : Int32) (S : kS) : Prop := hasO S x0 3 ∧ wp_X3_take x0 212 S (fun (S35 : kS) (r35 : Int32) => ((r35 = 0 → wp_X3_tried_170 r_X3_block K x0 x2 x3 S35) ∧ (¬ r35 = 0 → ∀ z37 : Int32, z37 = x3 * 3 → ∀ z38 : Int32, z38 = z37 + 2 → hasO S35 x0 3 ∧ ∀ S39 : kS, S39 = cI S35 8 x0 z38 → hasO S39 x0 3 ∧ ∀ z40 : Option Nat, z40 = S39.2.1 16 x0 → ∃ q41 : Nat, z40 = some q41 ∧ hasO S39 q41 7 ∧ wp_X7_mark q41 x3 2 S39 (fun (S42 : kS) => hasO S42 x0 3 ∧ wp_X3_finished r_X3_block x0 x1 x3 S42 (fun (S43 : kS) => wp_X3_tried_170 r_X3_block K x0 x2 x3 S43)))))
def wp_X3_tried_76 (r_X3_block : Nat → Int32 → kS → (kS → Prop) → Prop) (K : kS → Prop) (x0 : Nat) (x1 : Int32) (x2 : Int32) (x3 : Int32) (S : kS) : Prop := hasO S x0 3 ∧ wp_X3_take x0 211 S (fun (S18 : kS) (r18 : Int32) => ((r18 = 0 → wp_X3_tried_136 r_X3_block K x0 x1 x2 x3 S18) ∧ (¬ r18 = 0 → ∀ z20 : Int32, z20 = x3 * 3 → ∀ z21 : Int32, z21 = z20 + 1 → hasO S18 x0 3 ∧ ∀ S22 : kS, S22 = cI S18 8 x0 z21 → hasO S22 x0 3 ∧ ∀ z23 : Option Nat, z23 = S22.2.1 16 x0 → ∃ q24 : Nat, z23 = some q24 ∧ hasO S22 q24 7 ∧ wp_X7_mark q24 x3 1 S22 (fun (S25 : kS) => hasO S25 x0 3 ∧ ∀ z26 : Option Nat, z26 = S25.2.1 16 x0 → ∃ q27 : Nat, z26 = some q27 ∧ hasO S25 q27 7 ∧ ∀ z28 : Option Nat, z28 = S25.2.1 46 q27 → hasO S25 x0 3 ∧ wp_X3_cellHere x0 S25 (fun (S29 : kS) (r29 : Int32) => hasO S29 x0 3 ∧ wp_X3_emit x0 22 r29 S29 (fun (S30 : kS) (r30 : Int32) => ∃ q31 : Nat, z28 = some q31 ∧ hasA S30 q31 460 0 ∧ inR x3 460 ∧ ∀ S32 : kS, S32 = cA S30 q31 (ix x3) r30 → hasO S32 x0 3 ∧ r_X3_block x0 x1 S32 (fun (S33 : kS) => hasO S33 x0 3 ∧ wp_X3_emit x0 21 x3 S33 (fun (S34 : kS) (r34 : Int32) => wp_X3_tried_136 r_X3_block K x0 x1 x2 x3 S34))))))))
def wp_X3_tried (r_X3_block : Nat → Int32 → kS → (kS → Prop) → Prop) (t0 : Nat) (a0 : Int32) (S : kS) (K : kS → Prop) : Prop := hasO S t0 3 ∧ ∀ z1 : Int32, z1 = S.1 8 t0 → hasO S t0 3 ∧ ∀ z2 : Option Nat, z2 = S.2.1 16 t0 → hasO S t0 3 ∧ ∀ z3 : Int32, z3 = S.1 9 t0 → ∃ q4 : Nat, z2 = some q4 ∧ hasO S q4 7 ∧ wp_X7_newTry q4 z1 z3 S (fun (S5 : kS) (r5 : Int32) => ((¬ r5 = (-1) → ∀ z7 : Int32, z7 = r5 * 3 → ∀ z8 : Int32, z8 = z7 + 0 → hasO S5 t0 3 ∧ ∀ S9 : kS, S9 = cI S5 8 t0 z8 → hasO S9 t0 3 ∧ r_X3_block t0 a0 S9 (fun (S10 : kS) => hasO S10 t0 3 ∧ wp_X3_emit t0 21 r5 S10 (fun (S11 : kS) (r11 : Int32) => hasO S11 t0 3 ∧ wp_X3_kind t0 S11 (fun (S12 : kS) (r12 : Int32) => ((r12 = 211 → wp_X3_tried_76 r_X3_block K t0 a0 z1 r5 S12) ∧ (¬ r12 = 211 → hasO S12 t0 3 ∧ wp_X3_kind t0 S12 (fun (S14 : kS) (r14 : Int32) => ((r14 = 212 → wp_X3_tried_76 r_X3_block K t0 a0 z1 r5 S14) ∧ (¬ r14 = 212 → hasO S14 t0 3 ∧ wp_X3_wrong t0 1 S14 (fun (S16 : kS) => wp_X3_tried_76 r_X3_block K t0 a0 z1 r5 S16)))))))))) ∧ (r5 = (-1) → hasO S5 t0 3 ∧ wp_X3_wrong t0 5 S5 (fun (S17 : kS) => K S17))))
theorem cw_X3_200 {R : Room} {s : State} {args : Array Value} {fr lo : Nat} (hts : ∀ w ∈ tb, w.before args s = true) (h1 : fr + 1 ≤ R.frames) (h2 : 8 + (3 + 11) + lo ≤ R.locals) : CallW R s args RX3 RX7 200 yX7_newTry cX7_newTry 3 (some .int) (.code yX7_newTry cX7_newTry 3 (some .int) :: tb) (mRm fr lo) 0 0 2 := cwV 2 hts (gd_V wd_711 wd_712 wd_713 wd_14 wd_714) rfl rfl rfl (by decide +kernel) ⟨h1, h2⟩
theorem cw_X3_203 {R : Room} {s : State} {args : Array Value} {fr lo : Nat} (hts : ∀ w ∈ tb, w.before args s = true) (h1 : fr + 1 ≤ R.frames) (h2 : 8 + (3 + 11) + lo ≤ R.locals) : CallW R s args RX3 RX7 203 yX7_mark cX7_mark 3 none (.code yX7_mark cX7_mark 3 none :: tb) (mRm fr lo) 0 0 2 := cwV 2 hts (gd_V wd_715 wd_716 wd_717 wd_14 wd_718) rfl rfl rfl (by decide +kernel) ⟨h1, h2⟩
theorem cw_X3_209 {R : Room} {s : State} {args : Array Value} {fr lo : Nat} (hts : ∀ w ∈ tb, w.before args s = true) (h1 : fr + 1 ≤ R.frames) (h2 : 8 + (4 + 11) + lo ≤ R.locals) : CallW R s args RX3 RX3 209 yX3_finished cX3_finished 4 none (.code yX3_finished cX3_finished 4 none :: tb) (mRm fr lo) 0 0 2 := cwV 2 hts (gd_V wd_719 wd_721 sl_X3_finished wd_7 wd_722) rfl rfl rfl (by decide +kernel) ⟨h1, h2⟩
set_option maxHeartbeats 4000000 in
set_option maxRecDepth 100000 in
theorem ko_X3_tried (l : Launch) (fr lo F Lo : Nat) (r_X3_block : Nat → Int32 → kS → (kS → Prop) → Prop) (hr_X3_block : ∀ (t0 : Nat) (a0 : Int32) (S : kS) (K : kS → Prop), r_X3_block t0 a0 S K → kMv l yX3_block cX3_block 3 none fr lo [.ref t0, .int a0] S K) (hF : fr + 2 ≤ F) (hL : lo + 45 ≤ Lo) (hF0 : 3 ≤ F) (hL0 : 68 ≤ Lo) (S : kS) (t0 : Nat) (a0 : Int32) (K : kS → Prop) (h : wp_X3_tried r_X3_block t0 a0 S K) : kMv l yX3_tried cX3_tried 4 none F Lo [.ref t0, .int a0] S K := by
  refine kv_ofv (own := RX3) (by decide) rfl (Nat.le_of_ble_eq_true rfl) ?_
  intro E p e R s m args below meth c A ls Q hRf hRl hX hC hl hret
  have hx := hX.1.1
  have hb := hX.1.2.1
  have hown := hX.1.2.2.2.1
  have hts := hX.1.2.2.2.2
  have cut170 : ∀ (x0 : Nat) (x2 : Int32) (x3 : Int32) (S : kS) (H : Heap) (locs : List Loc) (ls : Array Slot), wp_X3_tried_170 r_X3_block K x0 x2 x3 S → cM E A s.heap S H locs → lv_has ls 4 [(0, .ref x0), (2, .int x2), (3, .int x3)] → W p l e R s m args below meth c H locs 0 0 Q (F0 m 170 ls []) := by
    intro x0 x2 x3 S H locs ls h hC hl
    unfold wp_X3_tried_170 at h
    refine lv_aload_n hx hb dX3_tried_170 rfl (lv_at hl 0 rfl) ?_
    refine cq_getr (ci := 3) (k := 2) (f := 16) hX hC rfl in_X3 (by decide) wd_133 (fun _ h9 => h9) (fun _ _ => rfl) dX3_tried_171 h (fun z44 h => ?_)
    obtain ⟨q45, e9, hh⟩ := h
    subst e9
    have h := hh
    clear hh
    refine cq_getr (ci := 7) (k := 6) (f := 48) hX hC rfl in_X7 (by decide) wd_359 (fun _ h9 => h9) (fun _ _ => rfl) dX3_tried_174 h (fun z46 h => ?_)
    refine lv_iload_n hx hb dX3_tried_177 rfl (lv_at hl 2 rfl) ?_
    refine lv_aload_n hx hb dX3_tried_178 rfl (lv_at hl 0 rfl) ?_
    refine cq_getr (ci := 3) (k := 1) (f := 15) hX hC rfl in_X3 (by decide) wd_132 (fun _ h9 => h9) (fun _ _ => rfl) dX3_tried_179 h (fun z47 h => ?_)
    obtain ⟨q48, e9, hh⟩ := h
    subst e9
    have h := hh
    clear hh
    refine cq_geti (ci := 5) (k := 0) (f := 17) hX hC rfl in_X5 (by decide) wd_398 (fun _ h9 => h9) (fun _ _ => rfl) dX3_tried_182 h (fun z49 h => ?_)
    obtain ⟨q50, e9, hh⟩ := h
    subst e9
    have h := hh
    clear hh
    refine cq_ist hX hC dX3_tried_185 h.1 h.2.1 h.2.2 (fun S51 H locs hC h => ?_)
    refine lv_aload_n hx hb dX3_tried_186 rfl (lv_at hl 0 rfl) ?_
    refine lv_iload_n hx hb dX3_tried_187 rfl (lv_at hl 1 rfl) ?_
    refine cq_puti (v := x2) (ci := 3) (k := 5) (f := 8) hX hC rfl in_X3 (by decide) wd_136 (fun _ h9 => h9) tyX3 tyX3_ok nmX3 rfl rfl rfl (fun _ _ => Nat.le_of_ble_eq_true rfl) (fun _ _ _ => rfl) dX3_tried_188 h.1 h.2 (fun S52 H locs hC h => ?_)
    exact hret _ _ _ _ _ hC h dX3_tried_191
  have cut136 : ∀ (x0 : Nat) (x1 : Int32) (x2 : Int32) (x3 : Int32) (S : kS) (H : Heap) (locs : List Loc) (ls : Array Slot), wp_X3_tried_136 r_X3_block K x0 x1 x2 x3 S → cM E A s.heap S H locs → lv_has ls 4 [(0, .ref x0), (1, .int x1), (2, .int x2), (3, .int x3)] → W p l e R s m args below meth c H locs 0 0 Q (F0 m 136 ls []) := by
    intro x0 x1 x2 x3 S H locs ls h hC hl
    unfold wp_X3_tried_136 at h
    refine lv_aload_n hx hb dX3_tried_136 rfl (lv_at hl 0 rfl) ?_
    refine lv_sipush (v := 212) hx hb dX3_tried_137 (by decide) ?_
    refine kv_calli [.int 212] (rest := []) (ci := 3) rfl hX hC h.1 (kt_X3_take l S x0 212 _ h.2 E _) (cw_X3_89 hts (by omega) (by omega)) rfl hl.1 (Nat.le_of_ble_eq_true rfl) ⟨Nat.zero_le _, Nat.zero_le _⟩ dX3_tried_140 (fun r35 S35 H locs hC h => ?_)
    refine lv_if_eq (tgt := 170) hx hb dX3_tried_143 (by decide) (fun c36 => ?_) (fun c36 => ?_)
    · have h := h.1 c36
      exact cut170 x0 x2 x3 S35 _ _ _ h hC (lv_sub hl [0, 2, 3] rfl)
    · have h := h.2 c36
      refine lv_aload_n hx hb dX3_tried_146 rfl (lv_at hl 0 rfl) ?_
      refine lv_iload_n hx hb dX3_tried_147 rfl (lv_at hl 3 rfl) ?_
      refine lv_iconst (v := 3) hx hb dX3_tried_148 (by decide) ?_
      refine lq_imul hx hb dX3_tried_149 h (fun z37 h => ?_)
      refine lv_iconst (v := 2) hx hb dX3_tried_150 (by decide) ?_
      refine lq_iadd hx hb dX3_tried_151 h (fun z38 h => ?_)
      refine cq_puti (v := z38) (ci := 3) (k := 5) (f := 8) hX hC rfl in_X3 (by decide) wd_136 (fun _ h9 => h9) tyX3 tyX3_ok nmX3 rfl rfl rfl (fun _ _ => Nat.le_of_ble_eq_true rfl) (fun _ _ _ => rfl) dX3_tried_152 h.1 h.2 (fun S39 H locs hC h => ?_)
      refine lv_aload_n hx hb dX3_tried_155 rfl (lv_at hl 0 rfl) ?_
      refine cq_getr (ci := 3) (k := 2) (f := 16) hX hC rfl in_X3 (by decide) wd_133 (fun _ h9 => h9) (fun _ _ => rfl) dX3_tried_156 h (fun z40 h => ?_)
      refine lv_iload_n hx hb dX3_tried_159 rfl (lv_at hl 3 rfl) ?_
      refine lv_iconst (v := 2) hx hb dX3_tried_160 (by decide) ?_
      obtain ⟨q41, e9, hh⟩ := h
      subst e9
      have h := hh
      clear hh
      refine kv_callv [.int x3, .int 2] (rest := []) (ci := 7) rfl hX hC h.1 (kt_X7_mark l S39 q41 x3 2 _ h.2 E _) (cw_X3_203 hts (by omega) (by omega)) rfl hl.1 (Nat.le_of_ble_eq_true rfl) ⟨Nat.zero_le _, Nat.zero_le _⟩ dX3_tried_161 (fun S42 H locs hC h => ?_)
      refine lv_aload_n hx hb dX3_tried_164 rfl (lv_at hl 0 rfl) ?_
      refine lv_iload_n hx hb dX3_tried_165 rfl (lv_at hl 1 rfl) ?_
      refine lv_iload_n hx hb dX3_tried_166 rfl (lv_at hl 3 rfl) ?_
      refine kv_callv [.int x1, .int x3] (rest := []) (ci := 3) rfl hX hC h.1 (ko_X3_finished l fr lo (max (fr + 1) 2) (max (lo + 22) 45) r_X3_block hr_X3_block (Nat.le_max_left _ _) (Nat.le_max_left _ _) (Nat.le_max_right _ _) (Nat.le_max_right _ _) S42 x0 x1 x3 _ h.2 E _) (cw_X3_209 hts (by omega) (by omega)) rfl hl.1 (Nat.le_of_ble_eq_true rfl) ⟨Nat.zero_le _, Nat.zero_le _⟩ dX3_tried_167 (fun S43 H locs hC h => ?_)
      exact cut170 x0 x2 x3 S43 _ _ _ h hC (lv_sub hl [0, 2, 3] rfl)
  have cut76 : ∀ (x0 : Nat) (x1 : Int32) (x2 : Int32) (x3 : Int32) (S : kS) (H : Heap) (locs : List Loc) (ls : Array Slot), wp_X3_tried_76 r_X3_block K x0 x1 x2 x3 S → cM E A s.heap S H locs → lv_has ls 4 [(0, .ref x0), (1, .int x1), (2, .int x2), (3, .int x3)] → W p l e R s m args below meth c H locs 0 0 Q (F0 m 76 ls []) := by
    intro x0 x1 x2 x3 S H locs ls h hC hl
    unfold wp_X3_tried_76 at h
    refine lv_aload_n hx hb dX3_tried_76 rfl (lv_at hl 0 rfl) ?_
    refine lv_sipush (v := 211) hx hb dX3_tried_77 (by decide) ?_
    refine kv_calli [.int 211] (rest := []) (ci := 3) rfl hX hC h.1 (kt_X3_take l S x0 211 _ h.2 E _) (cw_X3_89 hts (by omega) (by omega)) rfl hl.1 (Nat.le_of_ble_eq_true rfl) ⟨Nat.zero_le _, Nat.zero_le _⟩ dX3_tried_80 (fun r18 S18 H locs hC h => ?_)
    refine lv_if_eq (tgt := 136) hx hb dX3_tried_83 (by decide) (fun c19 => ?_) (fun c19 => ?_)
    · have h := h.1 c19
      exact cut136 x0 x1 x2 x3 S18 _ _ _ h hC (lv_sub hl [0, 1, 2, 3] rfl)
    · have h := h.2 c19
      refine lv_aload_n hx hb dX3_tried_86 rfl (lv_at hl 0 rfl) ?_
      refine lv_iload_n hx hb dX3_tried_87 rfl (lv_at hl 3 rfl) ?_
      refine lv_iconst (v := 3) hx hb dX3_tried_88 (by decide) ?_
      refine lq_imul hx hb dX3_tried_89 h (fun z20 h => ?_)
      refine lv_iconst (v := 1) hx hb dX3_tried_90 (by decide) ?_
      refine lq_iadd hx hb dX3_tried_91 h (fun z21 h => ?_)
      refine cq_puti (v := z21) (ci := 3) (k := 5) (f := 8) hX hC rfl in_X3 (by decide) wd_136 (fun _ h9 => h9) tyX3 tyX3_ok nmX3 rfl rfl rfl (fun _ _ => Nat.le_of_ble_eq_true rfl) (fun _ _ _ => rfl) dX3_tried_92 h.1 h.2 (fun S22 H locs hC h => ?_)
      refine lv_aload_n hx hb dX3_tried_95 rfl (lv_at hl 0 rfl) ?_
      refine cq_getr (ci := 3) (k := 2) (f := 16) hX hC rfl in_X3 (by decide) wd_133 (fun _ h9 => h9) (fun _ _ => rfl) dX3_tried_96 h (fun z23 h => ?_)
      refine lv_iload_n hx hb dX3_tried_99 rfl (lv_at hl 3 rfl) ?_
      refine lv_iconst (v := 1) hx hb dX3_tried_100 (by decide) ?_
      obtain ⟨q24, e9, hh⟩ := h
      subst e9
      have h := hh
      clear hh
      refine kv_callv [.int x3, .int 1] (rest := []) (ci := 7) rfl hX hC h.1 (kt_X7_mark l S22 q24 x3 1 _ h.2 E _) (cw_X3_203 hts (by omega) (by omega)) rfl hl.1 (Nat.le_of_ble_eq_true rfl) ⟨Nat.zero_le _, Nat.zero_le _⟩ dX3_tried_101 (fun S25 H locs hC h => ?_)
      refine lv_aload_n hx hb dX3_tried_104 rfl (lv_at hl 0 rfl) ?_
      refine cq_getr (ci := 3) (k := 2) (f := 16) hX hC rfl in_X3 (by decide) wd_133 (fun _ h9 => h9) (fun _ _ => rfl) dX3_tried_105 h (fun z26 h => ?_)
      obtain ⟨q27, e9, hh⟩ := h
      subst e9
      have h := hh
      clear hh
      refine cq_getr (ci := 7) (k := 4) (f := 46) hX hC rfl in_X7 (by decide) wd_351 (fun _ h9 => h9) (fun _ _ => rfl) dX3_tried_108 h (fun z28 h => ?_)
      refine lv_iload_n hx hb dX3_tried_111 rfl (lv_at hl 3 rfl) ?_
      refine lv_aload_n hx hb dX3_tried_112 rfl (lv_at hl 0 rfl) ?_
      refine lv_bipush (v := 22) hx hb dX3_tried_113 (by decide) ?_
      refine lv_aload_n hx hb dX3_tried_115 rfl (lv_at hl 0 rfl) ?_
      refine kv_calli [] (rest := [.int 22, .ref x0, .int x3, va_rf z28]) (ci := 3) rfl hX hC h.1 (kt_X3_cellHere l S25 x0 _ h.2 E _) (cw_X3_167 hts (by omega) (by omega)) rfl hl.1 (by rcases z28 with _ | _ <;> exact Nat.le_of_ble_eq_true rfl) ⟨Nat.zero_le _, Nat.zero_le _⟩ dX3_tried_116 (fun r29 S29 H locs hC h => ?_)
      refine kv_calli [.int 22, .int r29] (rest := [.int x3, va_rf z28]) (ci := 3) rfl hX hC h.1 (kt_X3_emit l S29 x0 22 r29 _ h.2 E _) (cw_X3_139 hts (by omega) (by omega)) rfl hl.1 (by rcases z28 with _ | _ <;> exact Nat.le_of_ble_eq_true rfl) ⟨Nat.zero_le _, Nat.zero_le _⟩ dX3_tried_119 (fun r30 S30 H locs hC h => ?_)
      obtain ⟨q31, e9, hh⟩ := h
      subst e9
      have h := hh
      clear hh
      refine cq_ist hX hC dX3_tried_122 h.1 h.2.1 h.2.2 (fun S32 H locs hC h => ?_)
      refine lv_aload_n hx hb dX3_tried_123 rfl (lv_at hl 0 rfl) ?_
      refine lv_iload_n hx hb dX3_tried_124 rfl (lv_at hl 1 rfl) ?_
      refine kv_callv [.int x1] (rest := []) (ci := 3) rfl hX hC h.1 (hr_X3_block x0 x1 S32 _ h.2 E _) (cw_X3_71 hts (by omega) (by omega)) rfl hl.1 (Nat.le_of_ble_eq_true rfl) ⟨Nat.zero_le _, Nat.zero_le _⟩ dX3_tried_125 (fun S33 H locs hC h => ?_)
      refine lv_aload_n hx hb dX3_tried_128 rfl (lv_at hl 0 rfl) ?_
      refine lv_bipush (v := 21) hx hb dX3_tried_129 (by decide) ?_
      refine lv_iload_n hx hb dX3_tried_131 rfl (lv_at hl 3 rfl) ?_
      refine kv_calli [.int 21, .int x3] (rest := []) (ci := 3) rfl hX hC h.1 (kt_X3_emit l S33 x0 21 x3 _ h.2 E _) (cw_X3_139 hts (by omega) (by omega)) rfl hl.1 (Nat.le_of_ble_eq_true rfl) ⟨Nat.zero_le _, Nat.zero_le _⟩ dX3_tried_132 (fun r34 S34 H locs hC h => ?_)
      refine lv_pop hx hb dX3_tried_135 rfl ?_
      exact cut136 x0 x1 x2 x3 S34 _ _ _ h hC (lv_sub hl [0, 1, 2, 3] rfl)
  have hl : lv_has ls 4 [(0, .ref t0), (1, .int a0)] := hl
  unfold wp_X3_tried at h
  refine lv_aload_n hx hb dX3_tried_0 rfl (lv_at hl 0 rfl) ?_
  refine cq_geti (ci := 3) (k := 5) (f := 8) hX hC rfl in_X3 (by decide) wd_136 (fun _ h9 => h9) (fun _ _ => rfl) dX3_tried_1 h (fun z1 h => ?_)
  refine lv_istore_n (lv' := [(2, .int z1), (0, .ref t0), (1, .int a0)]) hx hb dX3_tried_4 rfl hl (by decide) rfl (fun ls hl => ?_)
  refine lv_aload_n hx hb dX3_tried_5 rfl (lv_at hl 1 rfl) ?_
  refine cq_getr (ci := 3) (k := 2) (f := 16) hX hC rfl in_X3 (by decide) wd_133 (fun _ h9 => h9) (fun _ _ => rfl) dX3_tried_6 h (fun z2 h => ?_)
  refine lv_iload_n hx hb dX3_tried_9 rfl (lv_at hl 0 rfl) ?_
  refine lv_aload_n hx hb dX3_tried_10 rfl (lv_at hl 1 rfl) ?_
  refine cq_geti (ci := 3) (k := 6) (f := 9) hX hC rfl in_X3 (by decide) wd_137 (fun _ h9 => h9) (fun _ _ => rfl) dX3_tried_11 h (fun z3 h => ?_)
  obtain ⟨q4, e9, hh⟩ := h
  subst e9
  have h := hh
  clear hh
  refine kv_calli [.int z1, .int z3] (rest := []) (ci := 7) rfl hX hC h.1 (kt_X7_newTry l S q4 z1 z3 _ h.2 E _) (cw_X3_200 hts (by omega) (by omega)) rfl hl.1 (Nat.le_of_ble_eq_true rfl) ⟨Nat.zero_le _, Nat.zero_le _⟩ dX3_tried_14 (fun r5 S5 H locs hC h => ?_)
  refine lv_istore_n (lv' := [(3, .int r5), (2, .int z1), (0, .ref t0), (1, .int a0)]) hx hb dX3_tried_17 rfl hl (by decide) rfl (fun ls hl => ?_)
  refine lv_iload_n hx hb dX3_tried_18 rfl (lv_at hl 0 rfl) ?_
  refine lv_iconst (v := -1) hx hb dX3_tried_19 (by decide) ?_
  refine lv_icmp_ne (tgt := 29) hx hb dX3_tried_20 (by decide) (fun c6 => ?_) (fun c6 => ?_)
  · have h := h.1 c6
    refine lv_aload_n hx hb dX3_tried_29 rfl (lv_at hl 2 rfl) ?_
    refine lv_iload_n hx hb dX3_tried_30 rfl (lv_at hl 0 rfl) ?_
    refine lv_iconst (v := 3) hx hb dX3_tried_31 (by decide) ?_
    refine lq_imul hx hb dX3_tried_32 h (fun z7 h => ?_)
    refine lv_iconst (v := 0) hx hb dX3_tried_33 (by decide) ?_
    refine lq_iadd hx hb dX3_tried_34 h (fun z8 h => ?_)
    refine cq_puti (v := z8) (ci := 3) (k := 5) (f := 8) hX hC rfl in_X3 (by decide) wd_136 (fun _ h9 => h9) tyX3 tyX3_ok nmX3 rfl rfl rfl (fun _ _ => Nat.le_of_ble_eq_true rfl) (fun _ _ _ => rfl) dX3_tried_35 h.1 h.2 (fun S9 H locs hC h => ?_)
    refine lv_aload_n hx hb dX3_tried_38 rfl (lv_at hl 2 rfl) ?_
    refine lv_iload_n hx hb dX3_tried_39 rfl (lv_at hl 3 rfl) ?_
    refine kv_callv [.int a0] (rest := []) (ci := 3) rfl hX hC h.1 (hr_X3_block t0 a0 S9 _ h.2 E _) (cw_X3_71 hts (by omega) (by omega)) rfl hl.1 (Nat.le_of_ble_eq_true rfl) ⟨Nat.zero_le _, Nat.zero_le _⟩ dX3_tried_40 (fun S10 H locs hC h => ?_)
    refine lv_aload_n hx hb dX3_tried_43 rfl (lv_at hl 2 rfl) ?_
    refine lv_bipush (v := 21) hx hb dX3_tried_44 (by decide) ?_
    refine lv_iload_n hx hb dX3_tried_46 rfl (lv_at hl 0 rfl) ?_
    refine kv_calli [.int 21, .int r5] (rest := []) (ci := 3) rfl hX hC h.1 (kt_X3_emit l S10 t0 21 r5 _ h.2 E _) (cw_X3_139 hts (by omega) (by omega)) rfl hl.1 (Nat.le_of_ble_eq_true rfl) ⟨Nat.zero_le _, Nat.zero_le _⟩ dX3_tried_47 (fun r11 S11 H locs hC h => ?_)
    refine lv_pop hx hb dX3_tried_50 rfl ?_
    refine lv_aload_n hx hb dX3_tried_51 rfl (lv_at hl 2 rfl) ?_
    refine kv_calli [] (rest := []) (ci := 3) rfl hX hC h.1 (kt_X3_kind l S11 t0 _ h.2 E _) (cw_X3_62 hts (by omega) (by omega)) rfl hl.1 (Nat.le_of_ble_eq_true rfl) ⟨Nat.zero_le _, Nat.zero_le _⟩ dX3_tried_52 (fun r12 S12 H locs hC h => ?_)
    refine lv_sipush (v := 211) hx hb dX3_tried_55 (by decide) ?_
    refine lv_icmp_eq (tgt := 76) hx hb dX3_tried_58 (by decide) (fun c13 => ?_) (fun c13 => ?_)
    · have h := h.1 c13
      exact cut76 t0 a0 z1 r5 S12 _ _ _ h hC (lv_sub hl [2, 3, 1, 0] rfl)
    · have h := h.2 c13
      refine lv_aload_n hx hb dX3_tried_61 rfl (lv_at hl 2 rfl) ?_
      refine kv_calli [] (rest := []) (ci := 3) rfl hX hC h.1 (kt_X3_kind l S12 t0 _ h.2 E _) (cw_X3_62 hts (by omega) (by omega)) rfl hl.1 (Nat.le_of_ble_eq_true rfl) ⟨Nat.zero_le _, Nat.zero_le _⟩ dX3_tried_62 (fun r14 S14 H locs hC h => ?_)
      refine lv_sipush (v := 212) hx hb dX3_tried_65 (by decide) ?_
      refine lv_icmp_eq (tgt := 76) hx hb dX3_tried_68 (by decide) (fun c15 => ?_) (fun c15 => ?_)
      · have h := h.1 c15
        exact cut76 t0 a0 z1 r5 S14 _ _ _ h hC (lv_sub hl [2, 3, 1, 0] rfl)
      · have h := h.2 c15
        refine lv_aload_n hx hb dX3_tried_71 rfl (lv_at hl 2 rfl) ?_
        refine lv_iconst (v := 1) hx hb dX3_tried_72 (by decide) ?_
        refine kv_callv [.int 1] (rest := []) (ci := 3) rfl hX hC h.1 (kt_X3_wrong l S14 t0 1 _ h.2 E _) (cw_X3_78 hts (by omega) (by omega)) rfl hl.1 (Nat.le_of_ble_eq_true rfl) ⟨Nat.zero_le _, Nat.zero_le _⟩ dX3_tried_73 (fun S16 H locs hC h => ?_)
        exact cut76 t0 a0 z1 r5 S16 _ _ _ h hC (lv_sub hl [2, 3, 1, 0] rfl)
  · have h := h.2 c6
    refine lv_aload_n hx hb dX3_tried_23 rfl (lv_at hl 2 rfl) ?_
    refine lv_iconst (v := 5) hx hb dX3_tried_24 (by decide) ?_
    refine kv_callv [.int 5] (rest := []) (ci := 3) rfl hX hC h.1 (kt_X3_wrong l S5 t0 5 _ h.2 E _) (cw_X3_78 hts (by omega) (by omega)) rfl hl.1 (Nat.le_of_ble_eq_true rfl) ⟨Nat.zero_le _, Nat.zero_le _⟩ dX3_tried_25 (fun S17 H locs hC h => ?_)
    exact hret _ _ _ _ _ hC h dX3_tried_28
def wp_X3_repeated (r_X3_block : Nat → Int32 → kS → (kS → Prop) → Prop) (t0 : Nat) (a0 : Int32) (a1 : Int32) (S : kS) (K : kS → Prop) : Prop := hasO S t0 3 ∧ ∀ z1 : Int32, z1 = S.1 9 t0 → hasO S t0 3 ∧ ∀ z2 : Option Nat, z2 = S.2.1 16 t0 → hasO S t0 3 ∧ ∀ z3 : Int32, z3 = S.1 8 t0 → ∃ q4 : Nat, z2 = some q4 ∧ hasO S q4 7 ∧ wp_X7_newLoop q4 z3 a1 S (fun (S5 : kS) (r5 : Int32) => ((¬ r5 = (-1) → hasO S5 t0 3 ∧ wq_X3_expression t0 0 S5 (fun (S7 : kS) => hasO S7 t0 3 ∧ wp_X3_emit t0 15 0 S7 (fun (S8 : kS) (r8 : Int32) => hasO S8 t0 3 ∧ ∀ S9 : kS, S9 = cI S8 9 t0 r5 → hasO S9 t0 3 ∧ r_X3_block t0 a0 S9 (fun (S10 : kS) => hasO S10 t0 3 ∧ ∀ S11 : kS, S11 = cI S10 9 t0 z1 → hasO S11 t0 3 ∧ wp_X3_emit t0 16 a1 S11 (fun (S12 : kS) (r12 : Int32) => hasO S12 t0 3 ∧ ∀ z13 : Option Nat, z13 = S12.2.1 15 t0 → ∃ q14 : Nat, z13 = some q14 ∧ hasO S12 q14 5 ∧ ∀ z15 : Option Nat, z15 = S12.2.1 29 q14 → hasO S12 t0 3 ∧ ∀ z16 : Option Nat, z16 = S12.2.1 15 t0 → ∃ q17 : Nat, z16 = some q17 ∧ hasO S12 q17 5 ∧ ∀ z18 : Int32, z18 = S12.1 17 q17 → ∃ q19 : Nat, z15 = some q19 ∧ hasA S12 q19 8064 0 ∧ inR r8 8064 ∧ ∀ S20 : kS, S20 = cA S12 q19 (ix r8) z18 → hasO S20 t0 3 ∧ ∀ z21 : Option Nat, z21 = S20.2.1 16 t0 → ∃ q22 : Nat, z21 = some q22 ∧ hasO S20 q22 7 ∧ ∀ z23 : Option Nat, z23 = S20.2.1 52 q22 → hasO S20 t0 3 ∧ ∀ z24 : Option Nat, z24 = S20.2.1 15 t0 → ∃ q25 : Nat, z24 = some q25 ∧ hasO S20 q25 5 ∧ ∀ z26 : Int32, z26 = S20.1 17 q25 → ∃ q27 : Nat, z23 = some q27 ∧ hasA S20 q27 460 0 ∧ inR r5 460 ∧ ∀ S28 : kS, S28 = cA S20 q27 (ix r5) z26 → K S28))))) ∧ (r5 = (-1) → hasO S5 t0 3 ∧ wp_X3_wrong t0 5 S5 (fun (S29 : kS) => K S29))))
theorem cw_X3_194 {R : Room} {s : State} {args : Array Value} {fr lo : Nat} (hts : ∀ w ∈ tb, w.before args s = true) (h1 : fr + 1 ≤ R.frames) (h2 : 8 + (3 + 11) + lo ≤ R.locals) : CallW R s args RX3 RX7 194 yX7_newLoop cX7_newLoop 3 (some .int) (.code yX7_newLoop cX7_newLoop 3 (some .int) :: tb) (mRm fr lo) 0 0 2 := cwV 2 hts (gd_V wd_703 wd_704 wd_705 wd_14 wd_706) rfl rfl rfl (by decide +kernel) ⟨h1, h2⟩
set_option maxHeartbeats 4000000 in
set_option maxRecDepth 100000 in
theorem ko_X3_repeated (l : Launch) (fr lo F Lo : Nat) (r_X3_block : Nat → Int32 → kS → (kS → Prop) → Prop) (hr_X3_block : ∀ (t0 : Nat) (a0 : Int32) (S : kS) (K : kS → Prop), r_X3_block t0 a0 S K → kMv l yX3_block cX3_block 3 none fr lo [.ref t0, .int a0] S K) (hF : fr + 1 ≤ F) (hL : lo + 22 ≤ Lo) (hF0 : 57 ≤ F) (hL0 : 1309 ≤ Lo) (S : kS) (t0 : Nat) (a0 : Int32) (a1 : Int32) (K : kS → Prop) (h : wp_X3_repeated r_X3_block t0 a0 a1 S K) : kMv l yX3_repeated cX3_repeated 6 none F Lo [.ref t0, .int a0, .int a1] S K := by
  refine kv_ofv (own := RX3) (by decide) rfl (Nat.le_of_ble_eq_true rfl) ?_
  intro E p e R s m args below meth c A ls Q hRf hRl hX hC hl hret
  have hx := hX.1.1
  have hb := hX.1.2.1
  have hown := hX.1.2.2.2.1
  have hts := hX.1.2.2.2.2
  have hl : lv_has ls 6 [(0, .ref t0), (1, .int a0), (2, .int a1)] := hl
  unfold wp_X3_repeated at h
  refine lv_aload_n hx hb dX3_repeated_0 rfl (lv_at hl 0 rfl) ?_
  refine cq_geti (ci := 3) (k := 6) (f := 9) hX hC rfl in_X3 (by decide) wd_137 (fun _ h9 => h9) (fun _ _ => rfl) dX3_repeated_1 h (fun z1 h => ?_)
  refine lv_istore_n (lv' := [(3, .int z1), (0, .ref t0), (1, .int a0), (2, .int a1)]) hx hb dX3_repeated_4 rfl hl (by decide) rfl (fun ls hl => ?_)
  refine lv_aload_n hx hb dX3_repeated_5 rfl (lv_at hl 1 rfl) ?_
  refine cq_getr (ci := 3) (k := 2) (f := 16) hX hC rfl in_X3 (by decide) wd_133 (fun _ h9 => h9) (fun _ _ => rfl) dX3_repeated_6 h (fun z2 h => ?_)
  refine lv_aload_n hx hb dX3_repeated_9 rfl (lv_at hl 1 rfl) ?_
  refine cq_geti (ci := 3) (k := 5) (f := 8) hX hC rfl in_X3 (by decide) wd_136 (fun _ h9 => h9) (fun _ _ => rfl) dX3_repeated_10 h (fun z3 h => ?_)
  refine lv_iload_n hx hb dX3_repeated_13 rfl (lv_at hl 3 rfl) ?_
  obtain ⟨q4, e9, hh⟩ := h
  subst e9
  have h := hh
  clear hh
  refine kv_calli [.int z3, .int a1] (rest := []) (ci := 7) rfl hX hC h.1 (kt_X7_newLoop l S q4 z3 a1 _ h.2 E _) (cw_X3_194 hts (by omega) (by omega)) rfl hl.1 (Nat.le_of_ble_eq_true rfl) ⟨Nat.zero_le _, Nat.zero_le _⟩ dX3_repeated_14 (fun r5 S5 H locs hC h => ?_)
  refine lv_istore (lv' := [(4, .int r5), (3, .int z1), (0, .ref t0), (1, .int a0), (2, .int a1)]) hx hb dX3_repeated_17 hl (by decide) rfl (fun ls hl => ?_)
  refine lv_iload hx hb dX3_repeated_19 (lv_at hl 0 rfl) ?_
  refine lv_iconst (v := -1) hx hb dX3_repeated_21 (by decide) ?_
  refine lv_icmp_ne (tgt := 31) hx hb dX3_repeated_22 (by decide) (fun c6 => ?_) (fun c6 => ?_)
  · have h := h.1 c6
    refine lv_aload_n hx hb dX3_repeated_31 rfl (lv_at hl 2 rfl) ?_
    refine lv_iconst (v := 0) hx hb dX3_repeated_32 (by decide) ?_
    refine kv_callv [.int 0] (rest := []) (ci := 3) rfl hX hC h.1 (kt_X3_expression l S5 t0 0 _ h.2 E _) (cw_X3_155 hts (by omega) (by omega)) rfl hl.1 (Nat.le_of_ble_eq_true rfl) ⟨Nat.zero_le _, Nat.zero_le _⟩ dX3_repeated_33 (fun S7 H locs hC h => ?_)
    refine lv_aload_n hx hb dX3_repeated_36 rfl (lv_at hl 2 rfl) ?_
    refine lv_bipush (v := 15) hx hb dX3_repeated_37 (by decide) ?_
    refine lv_iconst (v := 0) hx hb dX3_repeated_39 (by decide) ?_
    refine kv_calli [.int 15, .int 0] (rest := []) (ci := 3) rfl hX hC h.1 (kt_X3_emit l S7 t0 15 0 _ h.2 E _) (cw_X3_139 hts (by omega) (by omega)) rfl hl.1 (Nat.le_of_ble_eq_true rfl) ⟨Nat.zero_le _, Nat.zero_le _⟩ dX3_repeated_40 (fun r8 S8 H locs hC h => ?_)
    refine lv_istore (lv' := [(5, .int r8), (4, .int r5), (3, .int z1), (0, .ref t0), (1, .int a0), (2, .int a1)]) hx hb dX3_repeated_43 hl (by decide) rfl (fun ls hl => ?_)
    refine lv_aload_n hx hb dX3_repeated_45 rfl (lv_at hl 3 rfl) ?_
    refine lv_iload hx hb dX3_repeated_46 (lv_at hl 1 rfl) ?_
    refine cq_puti (v := r5) (ci := 3) (k := 6) (f := 9) hX hC rfl in_X3 (by decide) wd_137 (fun _ h9 => h9) tyX3 tyX3_ok nmX3 rfl rfl rfl (fun _ _ => Nat.le_of_ble_eq_true rfl) (fun _ _ _ => rfl) dX3_repeated_48 h.1 h.2 (fun S9 H locs hC h => ?_)
    refine lv_aload_n hx hb dX3_repeated_51 rfl (lv_at hl 3 rfl) ?_
    refine lv_iload_n hx hb dX3_repeated_52 rfl (lv_at hl 4 rfl) ?_
    refine kv_callv [.int a0] (rest := []) (ci := 3) rfl hX hC h.1 (hr_X3_block t0 a0 S9 _ h.2 E _) (cw_X3_71 hts (by omega) (by omega)) rfl hl.1 (Nat.le_of_ble_eq_true rfl) ⟨Nat.zero_le _, Nat.zero_le _⟩ dX3_repeated_53 (fun S10 H locs hC h => ?_)
    refine lv_aload_n hx hb dX3_repeated_56 rfl (lv_at hl 3 rfl) ?_
    refine lv_iload_n hx hb dX3_repeated_57 rfl (lv_at hl 2 rfl) ?_
    refine cq_puti (v := z1) (ci := 3) (k := 6) (f := 9) hX hC rfl in_X3 (by decide) wd_137 (fun _ h9 => h9) tyX3 tyX3_ok nmX3 rfl rfl rfl (fun _ _ => Nat.le_of_ble_eq_true rfl) (fun _ _ _ => rfl) dX3_repeated_58 h.1 h.2 (fun S11 H locs hC h => ?_)
    refine lv_aload_n hx hb dX3_repeated_61 rfl (lv_at hl 3 rfl) ?_
    refine lv_bipush (v := 16) hx hb dX3_repeated_62 (by decide) ?_
    refine lv_iload_n hx hb dX3_repeated_64 rfl (lv_at hl 5 rfl) ?_
    refine kv_calli [.int 16, .int a1] (rest := []) (ci := 3) rfl hX hC h.1 (kt_X3_emit l S11 t0 16 a1 _ h.2 E _) (cw_X3_139 hts (by omega) (by omega)) rfl hl.1 (Nat.le_of_ble_eq_true rfl) ⟨Nat.zero_le _, Nat.zero_le _⟩ dX3_repeated_65 (fun r12 S12 H locs hC h => ?_)
    refine lv_pop hx hb dX3_repeated_68 rfl ?_
    refine lv_aload_n hx hb dX3_repeated_69 rfl (lv_at hl 3 rfl) ?_
    refine cq_getr (ci := 3) (k := 1) (f := 15) hX hC rfl in_X3 (by decide) wd_132 (fun _ h9 => h9) (fun _ _ => rfl) dX3_repeated_70 h (fun z13 h => ?_)
    obtain ⟨q14, e9, hh⟩ := h
    subst e9
    have h := hh
    clear hh
    refine cq_getr (ci := 5) (k := 2) (f := 29) hX hC rfl in_X5 (by decide) wd_405 (fun _ h9 => h9) (fun _ _ => rfl) dX3_repeated_73 h (fun z15 h => ?_)
    refine lv_iload hx hb dX3_repeated_76 (lv_at hl 0 rfl) ?_
    refine lv_aload_n hx hb dX3_repeated_78 rfl (lv_at hl 3 rfl) ?_
    refine cq_getr (ci := 3) (k := 1) (f := 15) hX hC rfl in_X3 (by decide) wd_132 (fun _ h9 => h9) (fun _ _ => rfl) dX3_repeated_79 h (fun z16 h => ?_)
    obtain ⟨q17, e9, hh⟩ := h
    subst e9
    have h := hh
    clear hh
    refine cq_geti (ci := 5) (k := 0) (f := 17) hX hC rfl in_X5 (by decide) wd_398 (fun _ h9 => h9) (fun _ _ => rfl) dX3_repeated_82 h (fun z18 h => ?_)
    obtain ⟨q19, e9, hh⟩ := h
    subst e9
    have h := hh
    clear hh
    refine cq_ist hX hC dX3_repeated_85 h.1 h.2.1 h.2.2 (fun S20 H locs hC h => ?_)
    refine lv_aload_n hx hb dX3_repeated_86 rfl (lv_at hl 3 rfl) ?_
    refine cq_getr (ci := 3) (k := 2) (f := 16) hX hC rfl in_X3 (by decide) wd_133 (fun _ h9 => h9) (fun _ _ => rfl) dX3_repeated_87 h (fun z21 h => ?_)
    obtain ⟨q22, e9, hh⟩ := h
    subst e9
    have h := hh
    clear hh
    refine cq_getr (ci := 7) (k := 11) (f := 52) hX hC rfl in_X7 (by decide) wd_369 (fun _ h9 => h9) (fun _ _ => rfl) dX3_repeated_90 h (fun z23 h => ?_)
    refine lv_iload hx hb dX3_repeated_93 (lv_at hl 1 rfl) ?_
    refine lv_aload_n hx hb dX3_repeated_95 rfl (lv_at hl 3 rfl) ?_
    refine cq_getr (ci := 3) (k := 1) (f := 15) hX hC rfl in_X3 (by decide) wd_132 (fun _ h9 => h9) (fun _ _ => rfl) dX3_repeated_96 h (fun z24 h => ?_)
    obtain ⟨q25, e9, hh⟩ := h
    subst e9
    have h := hh
    clear hh
    refine cq_geti (ci := 5) (k := 0) (f := 17) hX hC rfl in_X5 (by decide) wd_398 (fun _ h9 => h9) (fun _ _ => rfl) dX3_repeated_99 h (fun z26 h => ?_)
    obtain ⟨q27, e9, hh⟩ := h
    subst e9
    have h := hh
    clear hh
    refine cq_ist hX hC dX3_repeated_102 h.1 h.2.1 h.2.2 (fun S28 H locs hC h => ?_)
    exact hret _ _ _ _ _ hC h dX3_repeated_103
  · have h := h.2 c6
    refine lv_aload_n hx hb dX3_repeated_25 rfl (lv_at hl 2 rfl) ?_
    refine lv_iconst (v := 5) hx hb dX3_repeated_26 (by decide) ?_
    refine kv_callv [.int 5] (rest := []) (ci := 3) rfl hX hC h.1 (kt_X3_wrong l S5 t0 5 _ h.2 E _) (cw_X3_78 hts (by omega) (by omega)) rfl hl.1 (Nat.le_of_ble_eq_true rfl) ⟨Nat.zero_le _, Nat.zero_le _⟩ dX3_repeated_27 (fun S29 H locs hC h => ?_)
    exact hret _ _ _ _ _ hC h dX3_repeated_30
def wp_X3_choice (r_X3_block : Nat → Int32 → kS → (kS → Prop) → Prop) (t0 : Nat) (a0 : Int32) (S : kS) (K : kS → Prop) : Prop := hasO S t0 3 ∧ wq_X3_expression t0 0 S (fun (S1 : kS) => hasO S1 t0 3 ∧ wp_X3_emit t0 15 0 S1 (fun (S2 : kS) (r2 : Int32) => hasO S2 t0 3 ∧ r_X3_block t0 a0 S2 (fun (S3 : kS) => hasO S3 t0 3 ∧ wp_X3_take t0 204 S3 (fun (S4 : kS) (r4 : Int32) => ((r4 = 0 → hasO S4 t0 3 ∧ ∀ z6 : Option Nat, z6 = S4.2.1 15 t0 → ∃ q7 : Nat, z6 = some q7 ∧ hasO S4 q7 5 ∧ ∀ z8 : Option Nat, z8 = S4.2.1 29 q7 → hasO S4 t0 3 ∧ ∀ z9 : Option Nat, z9 = S4.2.1 15 t0 → ∃ q10 : Nat, z9 = some q10 ∧ hasO S4 q10 5 ∧ ∀ z11 : Int32, z11 = S4.1 17 q10 → ∃ q12 : Nat, z8 = some q12 ∧ hasA S4 q12 8064 0 ∧ inR r2 8064 ∧ ∀ S13 : kS, S13 = cA S4 q12 (ix r2) z11 → K S13) ∧ (¬ r4 = 0 → hasO S4 t0 3 ∧ wp_X3_emit t0 16 0 S4 (fun (S14 : kS) (r14 : Int32) => hasO S14 t0 3 ∧ ∀ z15 : Option Nat, z15 = S14.2.1 15 t0 → ∃ q16 : Nat, z15 = some q16 ∧ hasO S14 q16 5 ∧ ∀ z17 : Option Nat, z17 = S14.2.1 29 q16 → hasO S14 t0 3 ∧ ∀ z18 : Option Nat, z18 = S14.2.1 15 t0 → ∃ q19 : Nat, z18 = some q19 ∧ hasO S14 q19 5 ∧ ∀ z20 : Int32, z20 = S14.1 17 q19 → ∃ q21 : Nat, z17 = some q21 ∧ hasA S14 q21 8064 0 ∧ inR r2 8064 ∧ ∀ S22 : kS, S22 = cA S14 q21 (ix r2) z20 → hasO S22 t0 3 ∧ r_X3_block t0 a0 S22 (fun (S23 : kS) => hasO S23 t0 3 ∧ ∀ z24 : Option Nat, z24 = S23.2.1 15 t0 → ∃ q25 : Nat, z24 = some q25 ∧ hasO S23 q25 5 ∧ ∀ z26 : Option Nat, z26 = S23.2.1 29 q25 → hasO S23 t0 3 ∧ ∀ z27 : Option Nat, z27 = S23.2.1 15 t0 → ∃ q28 : Nat, z27 = some q28 ∧ hasO S23 q28 5 ∧ ∀ z29 : Int32, z29 = S23.1 17 q28 → ∃ q30 : Nat, z26 = some q30 ∧ hasA S23 q30 8064 0 ∧ inR r14 8064 ∧ ∀ S31 : kS, S31 = cA S23 q30 (ix r14) z29 → K S31))))))))
set_option maxHeartbeats 4000000 in
set_option maxRecDepth 100000 in
theorem ko_X3_choice (l : Launch) (fr lo F Lo : Nat) (r_X3_block : Nat → Int32 → kS → (kS → Prop) → Prop) (hr_X3_block : ∀ (t0 : Nat) (a0 : Int32) (S : kS) (K : kS → Prop), r_X3_block t0 a0 S K → kMv l yX3_block cX3_block 3 none fr lo [.ref t0, .int a0] S K) (hF : fr + 1 ≤ F) (hL : lo + 22 ≤ Lo) (hF0 : 57 ≤ F) (hL0 : 1309 ≤ Lo) (S : kS) (t0 : Nat) (a0 : Int32) (K : kS → Prop) (h : wp_X3_choice r_X3_block t0 a0 S K) : kMv l yX3_choice cX3_choice 4 none F Lo [.ref t0, .int a0] S K := by
  refine kv_ofv (own := RX3) (by decide) rfl (Nat.le_of_ble_eq_true rfl) ?_
  intro E p e R s m args below meth c A ls Q hRf hRl hX hC hl hret
  have hx := hX.1.1
  have hb := hX.1.2.1
  have hown := hX.1.2.2.2.1
  have hts := hX.1.2.2.2.2
  have hl : lv_has ls 4 [(0, .ref t0), (1, .int a0)] := hl
  unfold wp_X3_choice at h
  refine lv_aload_n hx hb dX3_choice_0 rfl (lv_at hl 0 rfl) ?_
  refine lv_iconst (v := 0) hx hb dX3_choice_1 (by decide) ?_
  refine kv_callv [.int 0] (rest := []) (ci := 3) rfl hX hC h.1 (kt_X3_expression l S t0 0 _ h.2 E _) (cw_X3_155 hts (by omega) (by omega)) rfl hl.1 (Nat.le_of_ble_eq_true rfl) ⟨Nat.zero_le _, Nat.zero_le _⟩ dX3_choice_2 (fun S1 H locs hC h => ?_)
  refine lv_aload_n hx hb dX3_choice_5 rfl (lv_at hl 0 rfl) ?_
  refine lv_bipush (v := 15) hx hb dX3_choice_6 (by decide) ?_
  refine lv_iconst (v := 0) hx hb dX3_choice_8 (by decide) ?_
  refine kv_calli [.int 15, .int 0] (rest := []) (ci := 3) rfl hX hC h.1 (kt_X3_emit l S1 t0 15 0 _ h.2 E _) (cw_X3_139 hts (by omega) (by omega)) rfl hl.1 (Nat.le_of_ble_eq_true rfl) ⟨Nat.zero_le _, Nat.zero_le _⟩ dX3_choice_9 (fun r2 S2 H locs hC h => ?_)
  refine lv_istore_n (lv' := [(2, .int r2), (0, .ref t0), (1, .int a0)]) hx hb dX3_choice_12 rfl hl (by decide) rfl (fun ls hl => ?_)
  refine lv_aload_n hx hb dX3_choice_13 rfl (lv_at hl 1 rfl) ?_
  refine lv_iload_n hx hb dX3_choice_14 rfl (lv_at hl 2 rfl) ?_
  refine kv_callv [.int a0] (rest := []) (ci := 3) rfl hX hC h.1 (hr_X3_block t0 a0 S2 _ h.2 E _) (cw_X3_71 hts (by omega) (by omega)) rfl hl.1 (Nat.le_of_ble_eq_true rfl) ⟨Nat.zero_le _, Nat.zero_le _⟩ dX3_choice_15 (fun S3 H locs hC h => ?_)
  refine lv_aload_n hx hb dX3_choice_18 rfl (lv_at hl 1 rfl) ?_
  refine lv_sipush (v := 204) hx hb dX3_choice_19 (by decide) ?_
  refine kv_calli [.int 204] (rest := []) (ci := 3) rfl hX hC h.1 (kt_X3_take l S3 t0 204 _ h.2 E _) (cw_X3_89 hts (by omega) (by omega)) rfl hl.1 (Nat.le_of_ble_eq_true rfl) ⟨Nat.zero_le _, Nat.zero_le _⟩ dX3_choice_22 (fun r4 S4 H locs hC h => ?_)
  refine lv_if_eq (tgt := 76) hx hb dX3_choice_25 (by decide) (fun c5 => ?_) (fun c5 => ?_)
  · have h := h.1 c5
    refine lv_aload_n hx hb dX3_choice_76 rfl (lv_at hl 1 rfl) ?_
    refine cq_getr (ci := 3) (k := 1) (f := 15) hX hC rfl in_X3 (by decide) wd_132 (fun _ h9 => h9) (fun _ _ => rfl) dX3_choice_77 h (fun z6 h => ?_)
    obtain ⟨q7, e9, hh⟩ := h
    subst e9
    have h := hh
    clear hh
    refine cq_getr (ci := 5) (k := 2) (f := 29) hX hC rfl in_X5 (by decide) wd_405 (fun _ h9 => h9) (fun _ _ => rfl) dX3_choice_80 h (fun z8 h => ?_)
    refine lv_iload_n hx hb dX3_choice_83 rfl (lv_at hl 0 rfl) ?_
    refine lv_aload_n hx hb dX3_choice_84 rfl (lv_at hl 1 rfl) ?_
    refine cq_getr (ci := 3) (k := 1) (f := 15) hX hC rfl in_X3 (by decide) wd_132 (fun _ h9 => h9) (fun _ _ => rfl) dX3_choice_85 h (fun z9 h => ?_)
    obtain ⟨q10, e9, hh⟩ := h
    subst e9
    have h := hh
    clear hh
    refine cq_geti (ci := 5) (k := 0) (f := 17) hX hC rfl in_X5 (by decide) wd_398 (fun _ h9 => h9) (fun _ _ => rfl) dX3_choice_88 h (fun z11 h => ?_)
    obtain ⟨q12, e9, hh⟩ := h
    subst e9
    have h := hh
    clear hh
    refine cq_ist hX hC dX3_choice_91 h.1 h.2.1 h.2.2 (fun S13 H locs hC h => ?_)
    exact hret _ _ _ _ _ hC h dX3_choice_92
  · have h := h.2 c5
    refine lv_aload_n hx hb dX3_choice_28 rfl (lv_at hl 1 rfl) ?_
    refine lv_bipush (v := 16) hx hb dX3_choice_29 (by decide) ?_
    refine lv_iconst (v := 0) hx hb dX3_choice_31 (by decide) ?_
    refine kv_calli [.int 16, .int 0] (rest := []) (ci := 3) rfl hX hC h.1 (kt_X3_emit l S4 t0 16 0 _ h.2 E _) (cw_X3_139 hts (by omega) (by omega)) rfl hl.1 (Nat.le_of_ble_eq_true rfl) ⟨Nat.zero_le _, Nat.zero_le _⟩ dX3_choice_32 (fun r14 S14 H locs hC h => ?_)
    refine lv_istore_n (lv' := [(3, .int r14), (2, .int r2), (0, .ref t0), (1, .int a0)]) hx hb dX3_choice_35 rfl hl (by decide) rfl (fun ls hl => ?_)
    refine lv_aload_n hx hb dX3_choice_36 rfl (lv_at hl 2 rfl) ?_
    refine cq_getr (ci := 3) (k := 1) (f := 15) hX hC rfl in_X3 (by decide) wd_132 (fun _ h9 => h9) (fun _ _ => rfl) dX3_choice_37 h (fun z15 h => ?_)
    obtain ⟨q16, e9, hh⟩ := h
    subst e9
    have h := hh
    clear hh
    refine cq_getr (ci := 5) (k := 2) (f := 29) hX hC rfl in_X5 (by decide) wd_405 (fun _ h9 => h9) (fun _ _ => rfl) dX3_choice_40 h (fun z17 h => ?_)
    refine lv_iload_n hx hb dX3_choice_43 rfl (lv_at hl 1 rfl) ?_
    refine lv_aload_n hx hb dX3_choice_44 rfl (lv_at hl 2 rfl) ?_
    refine cq_getr (ci := 3) (k := 1) (f := 15) hX hC rfl in_X3 (by decide) wd_132 (fun _ h9 => h9) (fun _ _ => rfl) dX3_choice_45 h (fun z18 h => ?_)
    obtain ⟨q19, e9, hh⟩ := h
    subst e9
    have h := hh
    clear hh
    refine cq_geti (ci := 5) (k := 0) (f := 17) hX hC rfl in_X5 (by decide) wd_398 (fun _ h9 => h9) (fun _ _ => rfl) dX3_choice_48 h (fun z20 h => ?_)
    obtain ⟨q21, e9, hh⟩ := h
    subst e9
    have h := hh
    clear hh
    refine cq_ist hX hC dX3_choice_51 h.1 h.2.1 h.2.2 (fun S22 H locs hC h => ?_)
    refine lv_aload_n hx hb dX3_choice_52 rfl (lv_at hl 2 rfl) ?_
    refine lv_iload_n hx hb dX3_choice_53 rfl (lv_at hl 3 rfl) ?_
    refine kv_callv [.int a0] (rest := []) (ci := 3) rfl hX hC h.1 (hr_X3_block t0 a0 S22 _ h.2 E _) (cw_X3_71 hts (by omega) (by omega)) rfl hl.1 (Nat.le_of_ble_eq_true rfl) ⟨Nat.zero_le _, Nat.zero_le _⟩ dX3_choice_54 (fun S23 H locs hC h => ?_)
    refine lv_aload_n hx hb dX3_choice_57 rfl (lv_at hl 2 rfl) ?_
    refine cq_getr (ci := 3) (k := 1) (f := 15) hX hC rfl in_X3 (by decide) wd_132 (fun _ h9 => h9) (fun _ _ => rfl) dX3_choice_58 h (fun z24 h => ?_)
    obtain ⟨q25, e9, hh⟩ := h
    subst e9
    have h := hh
    clear hh
    refine cq_getr (ci := 5) (k := 2) (f := 29) hX hC rfl in_X5 (by decide) wd_405 (fun _ h9 => h9) (fun _ _ => rfl) dX3_choice_61 h (fun z26 h => ?_)
    refine lv_iload_n hx hb dX3_choice_64 rfl (lv_at hl 0 rfl) ?_
    refine lv_aload_n hx hb dX3_choice_65 rfl (lv_at hl 2 rfl) ?_
    refine cq_getr (ci := 3) (k := 1) (f := 15) hX hC rfl in_X3 (by decide) wd_132 (fun _ h9 => h9) (fun _ _ => rfl) dX3_choice_66 h (fun z27 h => ?_)
    obtain ⟨q28, e9, hh⟩ := h
    subst e9
    have h := hh
    clear hh
    refine cq_geti (ci := 5) (k := 0) (f := 17) hX hC rfl in_X5 (by decide) wd_398 (fun _ h9 => h9) (fun _ _ => rfl) dX3_choice_69 h (fun z29 h => ?_)
    obtain ⟨q30, e9, hh⟩ := h
    subst e9
    have h := hh
    clear hh
    refine cq_ist hX hC dX3_choice_72 h.1 h.2.1 h.2.2 (fun S31 H locs hC h => ?_)
    refine lv_goto (tgt := 92) hx hb dX3_choice_73 (by decide) ?_
    exact hret _ _ _ _ _ hC h dX3_choice_92
def wp_X3_statement_174 (r_X3_block : Nat → Int32 → kS → (kS → Prop) → Prop) (K : kS → Prop) (x0 : Nat) (S : kS) : Prop := hasO S x0 3 ∧ wp_X3_need x0 59 S (fun (S27 : kS) => K S27)
def wp_X3_statement (r_X3_block : Nat → Int32 → kS → (kS → Prop) → Prop) (t0 : Nat) (a0 : Int32) (S : kS) (K : kS → Prop) : Prop := hasO S t0 3 ∧ wp_X3_emit t0 0 0 S (fun (S1 : kS) (r1 : Int32) => hasO S1 t0 3 ∧ wp_X3_kind t0 S1 (fun (S2 : kS) (r2 : Int32) => ((r2 = 3 → hasO S2 t0 3 ∧ wp_X3_assigned t0 S2 (fun (S4 : kS) => wp_X3_statement_174 r_X3_block K t0 S4)) ∧ (¬ r2 = 3 → ((r2 = 201 → hasO S2 t0 3 ∧ wp_X3_assigned t0 S2 (fun (S6 : kS) => wp_X3_statement_174 r_X3_block K t0 S6)) ∧ (¬ r2 = 201 → ((r2 = 202 → hasO S2 t0 3 ∧ wp_X3_step t0 S2 (fun (S8 : kS) => hasO S8 t0 3 ∧ wq_X3_expression t0 0 S8 (fun (S9 : kS) => hasO S9 t0 3 ∧ wp_X3_emit t0 14 0 S9 (fun (S10 : kS) (r10 : Int32) => wp_X3_statement_174 r_X3_block K t0 S10)))) ∧ (¬ r2 = 202 → ((r2 = 203 → hasO S2 t0 3 ∧ wp_X3_step t0 S2 (fun (S12 : kS) => hasO S12 t0 3 ∧ wp_X3_choice r_X3_block t0 a0 S12 (fun (S13 : kS) => K S13))) ∧ (¬ r2 = 203 → ((r2 = 205 → hasO S2 t0 3 ∧ wp_X3_step t0 S2 (fun (S15 : kS) => hasO S15 t0 3 ∧ wp_X3_repeated r_X3_block t0 a0 r1 S15 (fun (S16 : kS) => K S16))) ∧ (¬ r2 = 205 → ((r2 = 208 → hasO S2 t0 3 ∧ wp_X3_returned t0 S2 (fun (S18 : kS) => wp_X3_statement_174 r_X3_block K t0 S18)) ∧ (¬ r2 = 208 → ((r2 = 209 → hasO S2 t0 3 ∧ wp_X3_step t0 S2 (fun (S20 : kS) => hasO S20 t0 3 ∧ wp_X3_numberOf t0 1 9 S20 (fun (S21 : kS) (r21 : Int32) => hasO S21 t0 3 ∧ wp_X3_emit t0 20 r21 S21 (fun (S22 : kS) (r22 : Int32) => wp_X3_statement_174 r_X3_block K t0 S22)))) ∧ (¬ r2 = 209 → ((r2 = 210 → hasO S2 t0 3 ∧ wp_X3_step t0 S2 (fun (S24 : kS) => hasO S24 t0 3 ∧ wp_X3_tried r_X3_block t0 a0 S24 (fun (S25 : kS) => K S25))) ∧ (¬ r2 = 210 → hasO S2 t0 3 ∧ wp_X3_leftLoop t0 S2 (fun (S26 : kS) => wp_X3_statement_174 r_X3_block K t0 S26)))))))))))))))))))
theorem cw_X3_152 {R : Room} {s : State} {args : Array Value} {fr lo : Nat} (hts : ∀ w ∈ tb, w.before args s = true) (h1 : fr + 1 ≤ R.frames) (h2 : 8 + (3 + 11) + lo ≤ R.locals) : CallW R s args RX3 RX3 152 yX3_assigned cX3_assigned 3 none (.code yX3_assigned cX3_assigned 3 none :: tb) (mRm fr lo) 0 0 0 := cwV 0 hts (gd_V wd_723 wd_725 sl_X3_assigned wd_7 wd_726) rfl rfl rfl (by decide +kernel) ⟨h1, h2⟩
theorem cw_X3_142 {R : Room} {s : State} {args : Array Value} {fr lo : Nat} (hts : ∀ w ∈ tb, w.before args s = true) (h1 : fr + 1 ≤ R.frames) (h2 : 8 + (4 + 11) + lo ≤ R.locals) : CallW R s args RX3 RX3 142 yX3_choice cX3_choice 4 none (.code yX3_choice cX3_choice 4 none :: tb) (mRm fr lo) 0 0 1 := cwV 1 hts (gd_V wd_675 wd_677 sl_X3_choice wd_7 wd_678) rfl rfl rfl (by decide +kernel) ⟨h1, h2⟩
theorem cw_X3_145 {R : Room} {s : State} {args : Array Value} {fr lo : Nat} (hts : ∀ w ∈ tb, w.before args s = true) (h1 : fr + 1 ≤ R.frames) (h2 : 8 + (6 + 11) + lo ≤ R.locals) : CallW R s args RX3 RX3 145 yX3_repeated cX3_repeated 6 none (.code yX3_repeated cX3_repeated 6 none :: tb) (mRm fr lo) 0 0 2 := cwV 2 hts (gd_V wd_699 wd_701 sl_X3_repeated wd_7 wd_702) rfl rfl rfl (by decide +kernel) ⟨h1, h2⟩
theorem cw_X3_158 {R : Room} {s : State} {args : Array Value} {fr lo : Nat} (hts : ∀ w ∈ tb, w.before args s = true) (h1 : fr + 1 ≤ R.frames) (h2 : 8 + (1 + 11) + lo ≤ R.locals) : CallW R s args RX3 RX3 158 yX3_returned cX3_returned 1 none (.code yX3_returned cX3_returned 1 none :: tb) (mRm fr lo) 0 0 0 := cwV 0 hts (gd_V wd_754 wd_756 sl_X3_returned wd_7 wd_757) rfl rfl rfl (by decide +kernel) ⟨h1, h2⟩
theorem cw_X3_149 {R : Room} {s : State} {args : Array Value} {fr lo : Nat} (hts : ∀ w ∈ tb, w.before args s = true) (h1 : fr + 1 ≤ R.frames) (h2 : 8 + (4 + 11) + lo ≤ R.locals) : CallW R s args RX3 RX3 149 yX3_tried cX3_tried 4 none (.code yX3_tried cX3_tried 4 none :: tb) (mRm fr lo) 0 0 1 := cwV 1 hts (gd_V wd_707 wd_709 sl_X3_tried wd_7 wd_710) rfl rfl rfl (by decide +kernel) ⟨h1, h2⟩
theorem cw_X3_164 {R : Room} {s : State} {args : Array Value} {fr lo : Nat} (hts : ∀ w ∈ tb, w.before args s = true) (h1 : fr + 1 ≤ R.frames) (h2 : 8 + (2 + 11) + lo ≤ R.locals) : CallW R s args RX3 RX3 164 yX3_leftLoop cX3_leftLoop 2 none (.code yX3_leftLoop cX3_leftLoop 2 none :: tb) (mRm fr lo) 0 0 0 := cwV 0 hts (gd_V wd_758 wd_760 sl_X3_leftLoop wd_7 wd_761) rfl rfl rfl (by decide +kernel) ⟨h1, h2⟩
set_option maxHeartbeats 4000000 in
set_option maxRecDepth 100000 in
theorem ko_X3_statement (l : Launch) (fr lo F Lo : Nat) (r_X3_block : Nat → Int32 → kS → (kS → Prop) → Prop) (hr_X3_block : ∀ (t0 : Nat) (a0 : Int32) (S : kS) (K : kS → Prop), r_X3_block t0 a0 S K → kMv l yX3_block cX3_block 3 none fr lo [.ref t0, .int a0] S K) (hF : fr + 3 ≤ F) (hL : lo + 68 ≤ Lo) (hF0 : 84 ≤ F) (hL0 : 2007 ≤ Lo) (S : kS) (t0 : Nat) (a0 : Int32) (K : kS → Prop) (h : wp_X3_statement r_X3_block t0 a0 S K) : kMv l yX3_statement cX3_statement 3 none F Lo [.ref t0, .int a0] S K := by
  refine kv_ofv (own := RX3) (by decide) rfl (Nat.le_of_ble_eq_true rfl) ?_
  intro E p e R s m args below meth c A ls Q hRf hRl hX hC hl hret
  have hx := hX.1.1
  have hb := hX.1.2.1
  have hown := hX.1.2.2.2.1
  have hts := hX.1.2.2.2.2
  have cut174 : ∀ (x0 : Nat) (S : kS) (H : Heap) (locs : List Loc) (ls : Array Slot), wp_X3_statement_174 r_X3_block K x0 S → cM E A s.heap S H locs → lv_has ls 3 [(0, .ref x0)] → W p l e R s m args below meth c H locs 0 0 Q (F0 m 174 ls []) := by
    intro x0 S H locs ls h hC hl
    unfold wp_X3_statement_174 at h
    refine lv_aload_n hx hb dX3_statement_174 rfl (lv_at hl 0 rfl) ?_
    refine lv_bipush (v := 59) hx hb dX3_statement_175 (by decide) ?_
    refine kv_callv [.int 59] (rest := []) (ci := 3) rfl hX hC h.1 (kt_X3_need l S x0 59 _ h.2 E _) (cw_X3_117 hts (by omega) (by omega)) rfl hl.1 (Nat.le_of_ble_eq_true rfl) ⟨Nat.zero_le _, Nat.zero_le _⟩ dX3_statement_177 (fun S27 H locs hC h => ?_)
    exact hret _ _ _ _ _ hC h dX3_statement_180
  have hl : lv_has ls 3 [(0, .ref t0), (1, .int a0)] := hl
  unfold wp_X3_statement at h
  refine lv_aload_n hx hb dX3_statement_0 rfl (lv_at hl 0 rfl) ?_
  refine lv_iconst (v := 0) hx hb dX3_statement_1 (by decide) ?_
  refine lv_iconst (v := 0) hx hb dX3_statement_2 (by decide) ?_
  refine kv_calli [.int 0, .int 0] (rest := []) (ci := 3) rfl hX hC h.1 (kt_X3_emit l S t0 0 0 _ h.2 E _) (cw_X3_139 hts (by omega) (by omega)) rfl hl.1 (Nat.le_of_ble_eq_true rfl) ⟨Nat.zero_le _, Nat.zero_le _⟩ dX3_statement_3 (fun r1 S1 H locs hC h => ?_)
  refine lv_istore_n (lv' := [(2, .int r1), (0, .ref t0), (1, .int a0)]) hx hb dX3_statement_6 rfl hl (by decide) rfl (fun ls hl => ?_)
  refine lv_aload_n hx hb dX3_statement_7 rfl (lv_at hl 1 rfl) ?_
  refine kv_calli [] (rest := []) (ci := 3) rfl hX hC h.1 (kt_X3_kind l S1 t0 _ h.2 E _) (cw_X3_62 hts (by omega) (by omega)) rfl hl.1 (Nat.le_of_ble_eq_true rfl) ⟨Nat.zero_le _, Nat.zero_le _⟩ dX3_statement_8 (fun r2 S2 H locs hC h => ?_)
  rcases Decidable.em (r2 = 3) with c3 | c3
  · have h := h.1 c3
    refine lv_lookup (tgt := 115) (off := 104) hx hb dX3_statement_11 (by decide) (by rw [c3]; decide) (by decide) ?_
    refine lv_aload_n hx hb dX3_statement_115 rfl (lv_at hl 1 rfl) ?_
    refine kv_callv [] (rest := []) (ci := 3) rfl hX hC h.1 (kt_X3_assigned l S2 t0 _ h.2 E _) (cw_X3_152 hts (by omega) (by omega)) rfl hl.1 (Nat.le_of_ble_eq_true rfl) ⟨Nat.zero_le _, Nat.zero_le _⟩ dX3_statement_116 (fun S4 H locs hC h => ?_)
    refine lv_goto (tgt := 174) hx hb dX3_statement_119 (by decide) ?_
    exact cut174 t0 S4 _ _ _ h hC (lv_sub hl [1] rfl)
  have h := h.2 c3
  rcases Decidable.em (r2 = 201) with c5 | c5
  · have h := h.1 c5
    refine lv_lookup (tgt := 115) (off := 104) hx hb dX3_statement_11 (by decide) (by rw [c5]; decide) (by decide) ?_
    refine lv_aload_n hx hb dX3_statement_115 rfl (lv_at hl 1 rfl) ?_
    refine kv_callv [] (rest := []) (ci := 3) rfl hX hC h.1 (kt_X3_assigned l S2 t0 _ h.2 E _) (cw_X3_152 hts (by omega) (by omega)) rfl hl.1 (Nat.le_of_ble_eq_true rfl) ⟨Nat.zero_le _, Nat.zero_le _⟩ dX3_statement_116 (fun S6 H locs hC h => ?_)
    refine lv_goto (tgt := 174) hx hb dX3_statement_119 (by decide) ?_
    exact cut174 t0 S6 _ _ _ h hC (lv_sub hl [1] rfl)
  have h := h.2 c5
  rcases Decidable.em (r2 = 202) with c7 | c7
  · have h := h.1 c7
    refine lv_lookup (tgt := 122) (off := 111) hx hb dX3_statement_11 (by decide) (by rw [c7]; decide) (by decide) ?_
    refine lv_aload_n hx hb dX3_statement_122 rfl (lv_at hl 1 rfl) ?_
    refine kv_callv [] (rest := []) (ci := 3) rfl hX hC h.1 (kt_X3_step l S2 t0 _ h.2 E _) (cw_X3_103 hts (by omega) (by omega)) rfl hl.1 (Nat.le_of_ble_eq_true rfl) ⟨Nat.zero_le _, Nat.zero_le _⟩ dX3_statement_123 (fun S8 H locs hC h => ?_)
    refine lv_aload_n hx hb dX3_statement_126 rfl (lv_at hl 1 rfl) ?_
    refine lv_iconst (v := 0) hx hb dX3_statement_127 (by decide) ?_
    refine kv_callv [.int 0] (rest := []) (ci := 3) rfl hX hC h.1 (kt_X3_expression l S8 t0 0 _ h.2 E _) (cw_X3_155 hts (by omega) (by omega)) rfl hl.1 (Nat.le_of_ble_eq_true rfl) ⟨Nat.zero_le _, Nat.zero_le _⟩ dX3_statement_128 (fun S9 H locs hC h => ?_)
    refine lv_aload_n hx hb dX3_statement_131 rfl (lv_at hl 1 rfl) ?_
    refine lv_bipush (v := 14) hx hb dX3_statement_132 (by decide) ?_
    refine lv_iconst (v := 0) hx hb dX3_statement_134 (by decide) ?_
    refine kv_calli [.int 14, .int 0] (rest := []) (ci := 3) rfl hX hC h.1 (kt_X3_emit l S9 t0 14 0 _ h.2 E _) (cw_X3_139 hts (by omega) (by omega)) rfl hl.1 (Nat.le_of_ble_eq_true rfl) ⟨Nat.zero_le _, Nat.zero_le _⟩ dX3_statement_135 (fun r10 S10 H locs hC h => ?_)
    refine lv_pop hx hb dX3_statement_138 rfl ?_
    refine lv_goto (tgt := 174) hx hb dX3_statement_139 (by decide) ?_
    exact cut174 t0 S10 _ _ _ h hC (lv_sub hl [1] rfl)
  have h := h.2 c7
  rcases Decidable.em (r2 = 203) with c11 | c11
  · have h := h.1 c11
    refine lv_lookup (tgt := 84) (off := 73) hx hb dX3_statement_11 (by decide) (by rw [c11]; decide) (by decide) ?_
    refine lv_aload_n hx hb dX3_statement_84 rfl (lv_at hl 1 rfl) ?_
    refine kv_callv [] (rest := []) (ci := 3) rfl hX hC h.1 (kt_X3_step l S2 t0 _ h.2 E _) (cw_X3_103 hts (by omega) (by omega)) rfl hl.1 (Nat.le_of_ble_eq_true rfl) ⟨Nat.zero_le _, Nat.zero_le _⟩ dX3_statement_85 (fun S12 H locs hC h => ?_)
    refine lv_aload_n hx hb dX3_statement_88 rfl (lv_at hl 1 rfl) ?_
    refine lv_iload_n hx hb dX3_statement_89 rfl (lv_at hl 2 rfl) ?_
    refine kv_callv [.int a0] (rest := []) (ci := 3) rfl hX hC h.1 (ko_X3_choice l fr lo (max (fr + 1) 57) (max (lo + 22) 1309) r_X3_block hr_X3_block (Nat.le_max_left _ _) (Nat.le_max_left _ _) (Nat.le_max_right _ _) (Nat.le_max_right _ _) S12 t0 a0 _ h.2 E _) (cw_X3_142 hts (by omega) (by omega)) rfl hl.1 (Nat.le_of_ble_eq_true rfl) ⟨Nat.zero_le _, Nat.zero_le _⟩ dX3_statement_90 (fun S13 H locs hC h => ?_)
    exact hret _ _ _ _ _ hC h dX3_statement_93
  have h := h.2 c11
  rcases Decidable.em (r2 = 205) with c14 | c14
  · have h := h.1 c14
    refine lv_lookup (tgt := 94) (off := 83) hx hb dX3_statement_11 (by decide) (by rw [c14]; decide) (by decide) ?_
    refine lv_aload_n hx hb dX3_statement_94 rfl (lv_at hl 1 rfl) ?_
    refine kv_callv [] (rest := []) (ci := 3) rfl hX hC h.1 (kt_X3_step l S2 t0 _ h.2 E _) (cw_X3_103 hts (by omega) (by omega)) rfl hl.1 (Nat.le_of_ble_eq_true rfl) ⟨Nat.zero_le _, Nat.zero_le _⟩ dX3_statement_95 (fun S15 H locs hC h => ?_)
    refine lv_aload_n hx hb dX3_statement_98 rfl (lv_at hl 1 rfl) ?_
    refine lv_iload_n hx hb dX3_statement_99 rfl (lv_at hl 2 rfl) ?_
    refine lv_iload_n hx hb dX3_statement_100 rfl (lv_at hl 0 rfl) ?_
    refine kv_callv [.int a0, .int r1] (rest := []) (ci := 3) rfl hX hC h.1 (ko_X3_repeated l fr lo (max (fr + 1) 57) (max (lo + 22) 1309) r_X3_block hr_X3_block (Nat.le_max_left _ _) (Nat.le_max_left _ _) (Nat.le_max_right _ _) (Nat.le_max_right _ _) S15 t0 a0 r1 _ h.2 E _) (cw_X3_145 hts (by omega) (by omega)) rfl hl.1 (Nat.le_of_ble_eq_true rfl) ⟨Nat.zero_le _, Nat.zero_le _⟩ dX3_statement_101 (fun S16 H locs hC h => ?_)
    exact hret _ _ _ _ _ hC h dX3_statement_104
  have h := h.2 c14
  rcases Decidable.em (r2 = 208) with c17 | c17
  · have h := h.1 c17
    refine lv_lookup (tgt := 142) (off := 131) hx hb dX3_statement_11 (by decide) (by rw [c17]; decide) (by decide) ?_
    refine lv_aload_n hx hb dX3_statement_142 rfl (lv_at hl 1 rfl) ?_
    refine kv_callv [] (rest := []) (ci := 3) rfl hX hC h.1 (kt_X3_returned l S2 t0 _ h.2 E _) (cw_X3_158 hts (by omega) (by omega)) rfl hl.1 (Nat.le_of_ble_eq_true rfl) ⟨Nat.zero_le _, Nat.zero_le _⟩ dX3_statement_143 (fun S18 H locs hC h => ?_)
    refine lv_goto (tgt := 174) hx hb dX3_statement_146 (by decide) ?_
    exact cut174 t0 S18 _ _ _ h hC (lv_sub hl [1] rfl)
  have h := h.2 c17
  rcases Decidable.em (r2 = 209) with c19 | c19
  · have h := h.1 c19
    refine lv_lookup (tgt := 149) (off := 138) hx hb dX3_statement_11 (by decide) (by rw [c19]; decide) (by decide) ?_
    refine lv_aload_n hx hb dX3_statement_149 rfl (lv_at hl 1 rfl) ?_
    refine kv_callv [] (rest := []) (ci := 3) rfl hX hC h.1 (kt_X3_step l S2 t0 _ h.2 E _) (cw_X3_103 hts (by omega) (by omega)) rfl hl.1 (Nat.le_of_ble_eq_true rfl) ⟨Nat.zero_le _, Nat.zero_le _⟩ dX3_statement_150 (fun S20 H locs hC h => ?_)
    refine lv_aload_n hx hb dX3_statement_153 rfl (lv_at hl 1 rfl) ?_
    refine lv_bipush (v := 20) hx hb dX3_statement_154 (by decide) ?_
    refine lv_aload_n hx hb dX3_statement_156 rfl (lv_at hl 1 rfl) ?_
    refine lv_iconst (v := 1) hx hb dX3_statement_157 (by decide) ?_
    refine lv_bipush (v := 9) hx hb dX3_statement_158 (by decide) ?_
    refine kv_calli [.int 1, .int 9] (rest := [.int 20, .ref t0]) (ci := 3) rfl hX hC h.1 (kt_X3_numberOf l S20 t0 1 9 _ h.2 E _) (cw_X3_161 hts (by omega) (by omega)) rfl hl.1 (Nat.le_of_ble_eq_true rfl) ⟨Nat.zero_le _, Nat.zero_le _⟩ dX3_statement_160 (fun r21 S21 H locs hC h => ?_)
    refine kv_calli [.int 20, .int r21] (rest := []) (ci := 3) rfl hX hC h.1 (kt_X3_emit l S21 t0 20 r21 _ h.2 E _) (cw_X3_139 hts (by omega) (by omega)) rfl hl.1 (Nat.le_of_ble_eq_true rfl) ⟨Nat.zero_le _, Nat.zero_le _⟩ dX3_statement_163 (fun r22 S22 H locs hC h => ?_)
    refine lv_pop hx hb dX3_statement_166 rfl ?_
    refine lv_goto (tgt := 174) hx hb dX3_statement_167 (by decide) ?_
    exact cut174 t0 S22 _ _ _ h hC (lv_sub hl [1] rfl)
  have h := h.2 c19
  rcases Decidable.em (r2 = 210) with c23 | c23
  · have h := h.1 c23
    refine lv_lookup (tgt := 105) (off := 94) hx hb dX3_statement_11 (by decide) (by rw [c23]; decide) (by decide) ?_
    refine lv_aload_n hx hb dX3_statement_105 rfl (lv_at hl 1 rfl) ?_
    refine kv_callv [] (rest := []) (ci := 3) rfl hX hC h.1 (kt_X3_step l S2 t0 _ h.2 E _) (cw_X3_103 hts (by omega) (by omega)) rfl hl.1 (Nat.le_of_ble_eq_true rfl) ⟨Nat.zero_le _, Nat.zero_le _⟩ dX3_statement_106 (fun S24 H locs hC h => ?_)
    refine lv_aload_n hx hb dX3_statement_109 rfl (lv_at hl 1 rfl) ?_
    refine lv_iload_n hx hb dX3_statement_110 rfl (lv_at hl 2 rfl) ?_
    refine kv_callv [.int a0] (rest := []) (ci := 3) rfl hX hC h.1 (ko_X3_tried l fr lo (max (fr + 2) 3) (max (lo + 45) 68) r_X3_block hr_X3_block (Nat.le_max_left _ _) (Nat.le_max_left _ _) (Nat.le_max_right _ _) (Nat.le_max_right _ _) S24 t0 a0 _ h.2 E _) (cw_X3_149 hts (by omega) (by omega)) rfl hl.1 (Nat.le_of_ble_eq_true rfl) ⟨Nat.zero_le _, Nat.zero_le _⟩ dX3_statement_111 (fun S25 H locs hC h => ?_)
    exact hret _ _ _ _ _ hC h dX3_statement_114
  have h := h.2 c23
  have nc3 := lv_neT c3 (show (3 : Int32).toInt = 3 by decide); have nc5 := lv_neT c5 (show (201 : Int32).toInt = 201 by decide); have nc7 := lv_neT c7 (show (202 : Int32).toInt = 202 by decide); have nc11 := lv_neT c11 (show (203 : Int32).toInt = 203 by decide); have nc14 := lv_neT c14 (show (205 : Int32).toInt = 205 by decide); have nc17 := lv_neT c17 (show (208 : Int32).toInt = 208 by decide); have nc19 := lv_neT c19 (show (209 : Int32).toInt = 209 by decide); have nc23 := lv_neT c23 (show (210 : Int32).toInt = 210 by decide)
  refine lv_lookup (tgt := 170) (off := 159) hx hb dX3_statement_11 (by decide) (by simp [Op.lookupswitch.offset, nc3, nc5, nc7, nc11, nc14, nc17, nc19, nc23, Ne.symm nc3, Ne.symm nc5, Ne.symm nc7, Ne.symm nc11, Ne.symm nc14, Ne.symm nc17, Ne.symm nc19, Ne.symm nc23]) (by decide) ?_
  refine lv_aload_n hx hb dX3_statement_170 rfl (lv_at hl 1 rfl) ?_
  refine kv_callv [] (rest := []) (ci := 3) rfl hX hC h.1 (kt_X3_leftLoop l S2 t0 _ h.2 E _) (cw_X3_164 hts (by omega) (by omega)) rfl hl.1 (Nat.le_of_ble_eq_true rfl) ⟨Nat.zero_le _, Nat.zero_le _⟩ dX3_statement_171 (fun S26 H locs hC h => ?_)
  exact cut174 t0 S26 _ _ _ h hC (lv_sub hl [1] rfl)
