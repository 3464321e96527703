theorem wd_133 : (Jvm.Cond.fieldLink "Sleepers$Parser" (42 : Nat) "Sleepers$Parser" "scopes" "LSleepers$Scopes;") ∈ tb := tb_at 133 (by decide +kernel) (by decide +kernel)
theorem wd_137 : (Jvm.Cond.fieldLink "Sleepers$Parser" (53 : Nat) "Sleepers$Parser" "loop" "I") ∈ tb := tb_at 137 (by decide +kernel) (by decide +kernel)
theorem wd_138 : (Jvm.Cond.fieldLink "Sleepers$Parser" (56 : Nat) "Sleepers$Parser" "finishes" "I") ∈ tb := tb_at 138 (by decide +kernel) (by decide +kernel)
theorem wd_341 : (Jvm.Cond.fieldLink "Sleepers$Scopes" (42 : Nat) "Sleepers$Scopes" "tries" "I") ∈ tb := tb_at 341 (by decide +kernel) (by decide +kernel)
theorem wd_355 : (Jvm.Cond.fieldLink "Sleepers$Parser" (215 : Nat) "Sleepers$Scopes" "finishAt" "[I") ∈ tb := tb_at 355 (by decide +kernel) (by decide +kernel)
theorem wd_361 : (Jvm.Cond.fieldLink "Sleepers$Scopes" (46 : Nat) "Sleepers$Scopes" "loops" "I") ∈ tb := tb_at 361 (by decide +kernel) (by decide +kernel)
theorem wd_364 : (Jvm.Cond.fieldLink "Sleepers$Parser" (179 : Nat) "Sleepers$Scopes" "loopScope" "[I") ∈ tb := tb_at 364 (by decide +kernel) (by decide +kernel)
theorem wd_398 : (Jvm.Cond.fieldLink "Sleepers$Parser" (191 : Nat) "Sleepers$Program" "size" "I") ∈ tb := tb_at 398 (by decide +kernel) (by decide +kernel)
theorem wd_414 : (Jvm.Cond.fieldLink "Sleepers$Parser" (100 : Nat) "Sleepers$Program" "routines" "I") ∈ tb := tb_at 414 (by decide +kernel) (by decide +kernel)
theorem wd_656 : (Jvm.Cond.methodLink "Sleepers$Parser" (71 : Nat) ({ cls := "Sleepers$Parser", name := "block", desc := "(I)V" } : Jvm.MethodName)) ∈ tb := tb_at 656 (by decide +kernel) (by decide +kernel)
theorem wd_658 : (Jvm.Cond.instanceMethod ({ cls := "Sleepers$Parser", name := "block", desc := "(I)V" } : Jvm.MethodName)) ∈ tb := tb_at 658 (by decide +kernel) (by decide +kernel)
theorem wd_659 : (Jvm.Cond.code ({ cls := "Sleepers$Parser", name := "block", desc := "(I)V" } : Jvm.MethodName) prog_5_method_11_code (3 : Nat) (Option.none : Option Jvm.ClassFile.FieldType)) ∈ tb := tb_at 659 (by decide +kernel) (by decide +kernel)
theorem wd_727 : (Jvm.Cond.methodLink "Sleepers$Parser" (170 : Nat) ({ cls := "Sleepers$Program", name := "newWait", desc := "()I" } : Jvm.MethodName)) ∈ tb := tb_at 727 (by decide +kernel) (by decide +kernel)
theorem wd_728 : (Jvm.Cond.instanceMethod ({ cls := "Sleepers$Program", name := "newWait", desc := "()I" } : Jvm.MethodName)) ∈ tb := tb_at 728 (by decide +kernel) (by decide +kernel)
theorem wd_729 : (Jvm.Cond.selects "Sleepers$Program" ({ cls := "Sleepers$Program", name := "newWait", desc := "()I" } : Jvm.MethodName) ({ cls := "Sleepers$Program", name := "newWait", desc := "()I" } : Jvm.MethodName)) ∈ tb := tb_at 729 (by decide +kernel) (by decide +kernel)
theorem wd_730 : (Jvm.Cond.code ({ cls := "Sleepers$Program", name := "newWait", desc := "()I" } : Jvm.MethodName) prog_7_method_13_code (2 : Nat) (Option.some Jvm.ClassFile.FieldType.int)) ∈ tb := tb_at 730 (by decide +kernel) (by decide +kernel)
theorem wd_750 : (Jvm.Cond.methodLink "Sleepers$Parser" (176 : Nat) ({ cls := "Sleepers$Program", name := "setStand", desc := "(II)V" } : Jvm.MethodName)) ∈ tb := tb_at 750 (by decide +kernel) (by decide +kernel)
theorem wd_751 : (Jvm.Cond.instanceMethod ({ cls := "Sleepers$Program", name := "setStand", desc := "(II)V" } : Jvm.MethodName)) ∈ tb := tb_at 751 (by decide +kernel) (by decide +kernel)
theorem wd_752 : (Jvm.Cond.selects "Sleepers$Program" ({ cls := "Sleepers$Program", name := "setStand", desc := "(II)V" } : Jvm.MethodName) ({ cls := "Sleepers$Program", name := "setStand", desc := "(II)V" } : Jvm.MethodName)) ∈ tb := tb_at 752 (by decide +kernel) (by decide +kernel)
theorem wd_753 : (Jvm.Cond.code ({ cls := "Sleepers$Program", name := "setStand", desc := "(II)V" } : Jvm.MethodName) prog_7_method_14_code (3 : Nat) (Option.none : Option Jvm.ClassFile.FieldType)) ∈ tb := tb_at 753 (by decide +kernel) (by decide +kernel)
theorem wd_762 : (Jvm.Cond.methodLink "Sleepers$Parser" (184 : Nat) ({ cls := "Sleepers$Scopes", name := "markOutward", desc := "(III)V" } : Jvm.MethodName)) ∈ tb := tb_at 762 (by decide +kernel) (by decide +kernel)
theorem wd_763 : (Jvm.Cond.instanceMethod ({ cls := "Sleepers$Scopes", name := "markOutward", desc := "(III)V" } : Jvm.MethodName)) ∈ tb := tb_at 763 (by decide +kernel) (by decide +kernel)
theorem wd_764 : (Jvm.Cond.selects "Sleepers$Scopes" ({ cls := "Sleepers$Scopes", name := "markOutward", desc := "(III)V" } : Jvm.MethodName) ({ cls := "Sleepers$Scopes", name := "markOutward", desc := "(III)V" } : Jvm.MethodName)) ∈ tb := tb_at 764 (by decide +kernel) (by decide +kernel)
theorem wd_765 : (Jvm.Cond.code ({ cls := "Sleepers$Scopes", name := "markOutward", desc := "(III)V" } : Jvm.MethodName) prog_9_method_6_code (6 : Nat) (Option.none : Option Jvm.ClassFile.FieldType)) ∈ tb := tb_at 765 (by decide +kernel) (by decide +kernel)
theorem sl_X3_block : Cond.selects RX3 yX3_block yX3_block ∈ tb := sl_of (y := ⟨"Sleepers$Parser", "block", "(I)V"⟩) (n := 13) (by decide +kernel) (by decide +kernel)
theorem dX3_assigned_0 : decode cX3_assigned 0 = .ok (.iconst (-1), 1) := by decide +kernel
theorem dX3_assigned_1 : decode cX3_assigned 1 = .ok (.istore_n 1, 1) := by decide +kernel
theorem dX3_assigned_2 : decode cX3_assigned 2 = .ok (.aload_n 0, 1) := by decide +kernel
theorem dX3_assigned_3 : decode cX3_assigned 3 = .ok (.invokevirtual 62, 3) := by decide +kernel
theorem dX3_assigned_6 : decode cX3_assigned 6 = .ok (.iconst 3, 1) := by decide +kernel
theorem dX3_assigned_7 : decode cX3_assigned 7 = .ok (.if_icmp .ne 14, 3) := by decide +kernel
theorem dX3_assigned_10 : decode cX3_assigned 10 = .ok (.aload_n 0, 1) := by decide +kernel
theorem dX3_assigned_11 : decode cX3_assigned 11 = .ok (.invokevirtual 167, 3) := by decide +kernel
theorem dX3_assigned_14 : decode cX3_assigned 14 = .ok (.istore_n 1, 1) := by decide +kernel
theorem dX3_assigned_15 : decode cX3_assigned 15 = .ok (.aload_n 0, 1) := by decide +kernel
theorem dX3_assigned_16 : decode cX3_assigned 16 = .ok (.bipush 61, 2) := by decide +kernel
theorem dX3_assigned_18 : decode cX3_assigned 18 = .ok (.invokevirtual 117, 3) := by decide +kernel
theorem dX3_assigned_21 : decode cX3_assigned 21 = .ok (.aload_n 0, 1) := by decide +kernel
theorem dX3_assigned_22 : decode cX3_assigned 22 = .ok (.invokevirtual 62, 3) := by decide +kernel
theorem dX3_assigned_25 : decode cX3_assigned 25 = .ok (.sipush 201, 3) := by decide +kernel
theorem dX3_assigned_28 : decode cX3_assigned 28 = .ok (.if_icmp .eq 11, 3) := by decide +kernel
theorem dX3_assigned_31 : decode cX3_assigned 31 = .ok (.aload_n 0, 1) := by decide +kernel
theorem dX3_assigned_32 : decode cX3_assigned 32 = .ok (.iconst 0, 1) := by decide +kernel
theorem dX3_assigned_33 : decode cX3_assigned 33 = .ok (.invokevirtual 155, 3) := by decide +kernel
theorem dX3_assigned_36 : decode cX3_assigned 36 = .ok (.goto 58, 3) := by decide +kernel
theorem dX3_assigned_39 : decode cX3_assigned 39 = .ok (.aload_n 0, 1) := by decide +kernel
theorem dX3_assigned_40 : decode cX3_assigned 40 = .ok (.getfield 29, 3) := by decide +kernel
theorem dX3_assigned_43 : decode cX3_assigned 43 = .ok (.invokevirtual 170, 3) := by decide +kernel
theorem dX3_assigned_46 : decode cX3_assigned 46 = .ok (.istore_n 2, 1) := by decide +kernel
theorem dX3_assigned_47 : decode cX3_assigned 47 = .ok (.iload_n 2, 1) := by decide +kernel
theorem dX3_assigned_48 : decode cX3_assigned 48 = .ok (.iconst (-1), 1) := by decide +kernel
theorem dX3_assigned_49 : decode cX3_assigned 49 = .ok (.if_icmp .ne 9, 3) := by decide +kernel
theorem dX3_assigned_52 : decode cX3_assigned 52 = .ok (.aload_n 0, 1) := by decide +kernel
theorem dX3_assigned_53 : decode cX3_assigned 53 = .ok (.iconst 5, 1) := by decide +kernel
theorem dX3_assigned_54 : decode cX3_assigned 54 = .ok (.invokevirtual 78, 3) := by decide +kernel
theorem dX3_assigned_57 : decode cX3_assigned 57 = .ok (.return_, 1) := by decide +kernel
theorem dX3_assigned_58 : decode cX3_assigned 58 = .ok (.aload_n 0, 1) := by decide +kernel
theorem dX3_assigned_59 : decode cX3_assigned 59 = .ok (.invokevirtual 103, 3) := by decide +kernel
theorem dX3_assigned_62 : decode cX3_assigned 62 = .ok (.aload_n 0, 1) := by decide +kernel
theorem dX3_assigned_63 : decode cX3_assigned 63 = .ok (.bipush 25, 2) := by decide +kernel
theorem dX3_assigned_65 : decode cX3_assigned 65 = .ok (.iconst 1, 1) := by decide +kernel
theorem dX3_assigned_66 : decode cX3_assigned 66 = .ok (.iload_n 2, 1) := by decide +kernel
theorem dX3_assigned_67 : decode cX3_assigned 67 = .ok (.iadd, 1) := by decide +kernel
theorem dX3_assigned_68 : decode cX3_assigned 68 = .ok (.invokevirtual 139, 3) := by decide +kernel
theorem dX3_assigned_71 : decode cX3_assigned 71 = .ok (.pop, 1) := by decide +kernel
theorem dX3_assigned_72 : decode cX3_assigned 72 = .ok (.aload_n 0, 1) := by decide +kernel
theorem dX3_assigned_73 : decode cX3_assigned 73 = .ok (.iconst 0, 1) := by decide +kernel
theorem dX3_assigned_74 : decode cX3_assigned 74 = .ok (.invokevirtual 173, 3) := by decide +kernel
theorem dX3_assigned_77 : decode cX3_assigned 77 = .ok (.aload_n 0, 1) := by decide +kernel
theorem dX3_assigned_78 : decode cX3_assigned 78 = .ok (.getfield 29, 3) := by decide +kernel
theorem dX3_assigned_81 : decode cX3_assigned 81 = .ok (.iload_n 2, 1) := by decide +kernel
theorem dX3_assigned_82 : decode cX3_assigned 82 = .ok (.aload_n 0, 1) := by decide +kernel
theorem dX3_assigned_83 : decode cX3_assigned 83 = .ok (.bipush 35, 2) := by decide +kernel
theorem dX3_assigned_85 : decode cX3_assigned 85 = .ok (.iconst 1, 1) := by decide +kernel
theorem dX3_assigned_86 : decode cX3_assigned 86 = .ok (.iload_n 2, 1) := by decide +kernel
theorem dX3_assigned_87 : decode cX3_assigned 87 = .ok (.iadd, 1) := by decide +kernel
theorem dX3_assigned_88 : decode cX3_assigned 88 = .ok (.invokevirtual 139, 3) := by decide +kernel
theorem dX3_assigned_91 : decode cX3_assigned 91 = .ok (.invokevirtual 176, 3) := by decide +kernel
theorem dX3_assigned_94 : decode cX3_assigned 94 = .ok (.iload_n 1, 1) := by decide +kernel
theorem dX3_assigned_95 : decode cX3_assigned 95 = .ok (.iconst (-1), 1) := by decide +kernel
theorem dX3_assigned_96 : decode cX3_assigned 96 = .ok (.if_icmp .eq 11, 3) := by decide +kernel
theorem dX3_assigned_99 : decode cX3_assigned 99 = .ok (.aload_n 0, 1) := by decide +kernel
theorem dX3_assigned_100 : decode cX3_assigned 100 = .ok (.bipush 13, 2) := by decide +kernel
theorem dX3_assigned_102 : decode cX3_assigned 102 = .ok (.iload_n 1, 1) := by decide +kernel
theorem dX3_assigned_103 : decode cX3_assigned 103 = .ok (.invokevirtual 139, 3) := by decide +kernel
theorem dX3_assigned_106 : decode cX3_assigned 106 = .ok (.pop, 1) := by decide +kernel
theorem dX3_assigned_107 : decode cX3_assigned 107 = .ok (.return_, 1) := by decide +kernel
theorem dX3_finished_0 : decode cX3_finished 0 = .ok (.aload_n 0, 1) := by decide +kernel
theorem dX3_finished_1 : decode cX3_finished 1 = .ok (.getfield 53, 3) := by decide +kernel
theorem dX3_finished_4 : decode cX3_finished 4 = .ok (.istore_n 3, 1) := by decide +kernel
theorem dX3_finished_5 : decode cX3_finished 5 = .ok (.aload_n 0, 1) := by decide +kernel
theorem dX3_finished_6 : decode cX3_finished 6 = .ok (.iconst (-1), 1) := by decide +kernel
theorem dX3_finished_7 : decode cX3_finished 7 = .ok (.putfield 53, 3) := by decide +kernel
theorem dX3_finished_10 : decode cX3_finished 10 = .ok (.aload_n 0, 1) := by decide +kernel
theorem dX3_finished_11 : decode cX3_finished 11 = .ok (.dup, 1) := by decide +kernel
theorem dX3_finished_12 : decode cX3_finished 12 = .ok (.getfield 56, 3) := by decide +kernel
theorem dX3_finished_15 : decode cX3_finished 15 = .ok (.iconst 1, 1) := by decide +kernel
theorem dX3_finished_16 : decode cX3_finished 16 = .ok (.iadd, 1) := by decide +kernel
theorem dX3_finished_17 : decode cX3_finished 17 = .ok (.putfield 56, 3) := by decide +kernel
theorem dX3_finished_20 : decode cX3_finished 20 = .ok (.aload_n 0, 1) := by decide +kernel
theorem dX3_finished_21 : decode cX3_finished 21 = .ok (.getfield 42, 3) := by decide +kernel
theorem dX3_finished_24 : decode cX3_finished 24 = .ok (.getfield 215, 3) := by decide +kernel
theorem dX3_finished_27 : decode cX3_finished 27 = .ok (.iload_n 2, 1) := by decide +kernel
theorem dX3_finished_28 : decode cX3_finished 28 = .ok (.aload_n 0, 1) := by decide +kernel
theorem dX3_finished_29 : decode cX3_finished 29 = .ok (.getfield 29, 3) := by decide +kernel
theorem dX3_finished_32 : decode cX3_finished 32 = .ok (.getfield 191, 3) := by decide +kernel
theorem dX3_finished_35 : decode cX3_finished 35 = .ok (.iastore, 1) := by decide +kernel
theorem dX3_finished_36 : decode cX3_finished 36 = .ok (.aload_n 0, 1) := by decide +kernel
theorem dX3_finished_37 : decode cX3_finished 37 = .ok (.iload_n 1, 1) := by decide +kernel
theorem dX3_finished_38 : decode cX3_finished 38 = .ok (.invokevirtual 71, 3) := by decide +kernel
theorem dX3_finished_41 : decode cX3_finished 41 = .ok (.aload_n 0, 1) := by decide +kernel
theorem dX3_finished_42 : decode cX3_finished 42 = .ok (.bipush 23, 2) := by decide +kernel
theorem dX3_finished_44 : decode cX3_finished 44 = .ok (.iload_n 2, 1) := by decide +kernel
theorem dX3_finished_45 : decode cX3_finished 45 = .ok (.invokevirtual 139, 3) := by decide +kernel
theorem dX3_finished_48 : decode cX3_finished 48 = .ok (.pop, 1) := by decide +kernel
theorem dX3_finished_49 : decode cX3_finished 49 = .ok (.aload_n 0, 1) := by decide +kernel
theorem dX3_finished_50 : decode cX3_finished 50 = .ok (.dup, 1) := by decide +kernel
theorem dX3_finished_51 : decode cX3_finished 51 = .ok (.getfield 56, 3) := by decide +kernel
theorem dX3_finished_54 : decode cX3_finished 54 = .ok (.iconst 1, 1) := by decide +kernel
theorem dX3_finished_55 : decode cX3_finished 55 = .ok (.isub, 1) := by decide +kernel
theorem dX3_finished_56 : decode cX3_finished 56 = .ok (.putfield 56, 3) := by decide +kernel
theorem dX3_finished_59 : decode cX3_finished 59 = .ok (.aload_n 0, 1) := by decide +kernel
theorem dX3_finished_60 : decode cX3_finished 60 = .ok (.iload_n 3, 1) := by decide +kernel
theorem dX3_finished_61 : decode cX3_finished 61 = .ok (.putfield 53, 3) := by decide +kernel
theorem dX3_finished_64 : decode cX3_finished 64 = .ok (.return_, 1) := by decide +kernel
theorem dX3_leftLoop_0 : decode cX3_leftLoop 0 = .ok (.aload_n 0, 1) := by decide +kernel
theorem dX3_leftLoop_1 : decode cX3_leftLoop 1 = .ok (.invokevirtual 62, 3) := by decide +kernel
theorem dX3_leftLoop_4 : decode cX3_leftLoop 4 = .ok (.sipush 206, 3) := by decide +kernel
theorem dX3_leftLoop_7 : decode cX3_leftLoop 7 = .ok (.if_icmp .ne 7, 3) := by decide +kernel
theorem dX3_leftLoop_10 : decode cX3_leftLoop 10 = .ok (.iconst 1, 1) := by decide +kernel
theorem dX3_leftLoop_11 : decode cX3_leftLoop 11 = .ok (.goto 4, 3) := by decide +kernel
theorem dX3_leftLoop_14 : decode cX3_leftLoop 14 = .ok (.iconst 0, 1) := by decide +kernel
theorem dX3_leftLoop_15 : decode cX3_leftLoop 15 = .ok (.istore_n 1, 1) := by decide +kernel
theorem dX3_leftLoop_16 : decode cX3_leftLoop 16 = .ok (.aload_n 0, 1) := by decide +kernel
theorem dX3_leftLoop_17 : decode cX3_leftLoop 17 = .ok (.getfield 53, 3) := by decide +kernel
theorem dX3_leftLoop_20 : decode cX3_leftLoop 20 = .ok (.ifCond .ge 9, 3) := by decide +kernel
theorem dX3_leftLoop_23 : decode cX3_leftLoop 23 = .ok (.aload_n 0, 1) := by decide +kernel
theorem dX3_leftLoop_24 : decode cX3_leftLoop 24 = .ok (.iconst 1, 1) := by decide +kernel
theorem dX3_leftLoop_25 : decode cX3_leftLoop 25 = .ok (.invokevirtual 78, 3) := by decide +kernel
theorem dX3_leftLoop_28 : decode cX3_leftLoop 28 = .ok (.return_, 1) := by decide +kernel
theorem dX3_leftLoop_29 : decode cX3_leftLoop 29 = .ok (.aload_n 0, 1) := by decide +kernel
theorem dX3_leftLoop_30 : decode cX3_leftLoop 30 = .ok (.invokevirtual 103, 3) := by decide +kernel
theorem dX3_leftLoop_33 : decode cX3_leftLoop 33 = .ok (.aload_n 0, 1) := by decide +kernel
theorem dX3_leftLoop_34 : decode cX3_leftLoop 34 = .ok (.iload_n 1, 1) := by decide +kernel
theorem dX3_leftLoop_35 : decode cX3_leftLoop 35 = .ok (.ifCond .eq 8, 3) := by decide +kernel
theorem dX3_leftLoop_38 : decode cX3_leftLoop 38 = .ok (.bipush 17, 2) := by decide +kernel
theorem dX3_leftLoop_40 : decode cX3_leftLoop 40 = .ok (.goto 5, 3) := by decide +kernel
theorem dX3_leftLoop_43 : decode cX3_leftLoop 43 = .ok (.bipush 18, 2) := by decide +kernel
theorem dX3_leftLoop_45 : decode cX3_leftLoop 45 = .ok (.aload_n 0, 1) := by decide +kernel
theorem dX3_leftLoop_46 : decode cX3_leftLoop 46 = .ok (.getfield 53, 3) := by decide +kernel
theorem dX3_leftLoop_49 : decode cX3_leftLoop 49 = .ok (.invokevirtual 139, 3) := by decide +kernel
theorem dX3_leftLoop_52 : decode cX3_leftLoop 52 = .ok (.pop, 1) := by decide +kernel
theorem dX3_leftLoop_53 : decode cX3_leftLoop 53 = .ok (.aload_n 0, 1) := by decide +kernel
theorem dX3_leftLoop_54 : decode cX3_leftLoop 54 = .ok (.getfield 42, 3) := by decide +kernel
theorem dX3_leftLoop_57 : decode cX3_leftLoop 57 = .ok (.aload_n 0, 1) := by decide +kernel
theorem dX3_leftLoop_58 : decode cX3_leftLoop 58 = .ok (.getfield 50, 3) := by decide +kernel
theorem dX3_leftLoop_61 : decode cX3_leftLoop 61 = .ok (.aload_n 0, 1) := by decide +kernel
theorem dX3_leftLoop_62 : decode cX3_leftLoop 62 = .ok (.getfield 42, 3) := by decide +kernel
theorem dX3_leftLoop_65 : decode cX3_leftLoop 65 = .ok (.getfield 179, 3) := by decide +kernel
theorem dX3_leftLoop_68 : decode cX3_leftLoop 68 = .ok (.aload_n 0, 1) := by decide +kernel
theorem dX3_leftLoop_69 : decode cX3_leftLoop 69 = .ok (.getfield 53, 3) := by decide +kernel
theorem dX3_leftLoop_72 : decode cX3_leftLoop 72 = .ok (.iaload, 1) := by decide +kernel
theorem dX3_leftLoop_73 : decode cX3_leftLoop 73 = .ok (.iload_n 1, 1) := by decide +kernel
theorem dX3_leftLoop_74 : decode cX3_leftLoop 74 = .ok (.ifCond .eq 7, 3) := by decide +kernel
theorem dX3_leftLoop_77 : decode cX3_leftLoop 77 = .ok (.iconst 4, 1) := by decide +kernel
theorem dX3_leftLoop_78 : decode cX3_leftLoop 78 = .ok (.goto 5, 3) := by decide +kernel
theorem dX3_leftLoop_81 : decode cX3_leftLoop 81 = .ok (.bipush 8, 2) := by decide +kernel
theorem dX3_leftLoop_83 : decode cX3_leftLoop 83 = .ok (.invokevirtual 184, 3) := by decide +kernel
theorem dX3_leftLoop_86 : decode cX3_leftLoop 86 = .ok (.return_, 1) := by decide +kernel
theorem dX3_returned_0 : decode cX3_returned 0 = .ok (.aload_n 0, 1) := by decide +kernel
theorem dX3_returned_1 : decode cX3_returned 1 = .ok (.getfield 56, 3) := by decide +kernel
theorem dX3_returned_4 : decode cX3_returned 4 = .ok (.ifCond .le 8, 3) := by decide +kernel
theorem dX3_returned_7 : decode cX3_returned 7 = .ok (.aload_n 0, 1) := by decide +kernel
theorem dX3_returned_8 : decode cX3_returned 8 = .ok (.iconst 1, 1) := by decide +kernel
theorem dX3_returned_9 : decode cX3_returned 9 = .ok (.invokevirtual 78, 3) := by decide +kernel
theorem dX3_returned_12 : decode cX3_returned 12 = .ok (.aload_n 0, 1) := by decide +kernel
theorem dX3_returned_13 : decode cX3_returned 13 = .ok (.invokevirtual 103, 3) := by decide +kernel
theorem dX3_returned_16 : decode cX3_returned 16 = .ok (.aload_n 0, 1) := by decide +kernel
theorem dX3_returned_17 : decode cX3_returned 17 = .ok (.iconst 0, 1) := by decide +kernel
theorem dX3_returned_18 : decode cX3_returned 18 = .ok (.invokevirtual 155, 3) := by decide +kernel
theorem dX3_returned_21 : decode cX3_returned 21 = .ok (.aload_n 0, 1) := by decide +kernel
theorem dX3_returned_22 : decode cX3_returned 22 = .ok (.bipush 19, 2) := by decide +kernel
theorem dX3_returned_24 : decode cX3_returned 24 = .ok (.aload_n 0, 1) := by decide +kernel
theorem dX3_returned_25 : decode cX3_returned 25 = .ok (.getfield 29, 3) := by decide +kernel
theorem dX3_returned_28 : decode cX3_returned 28 = .ok (.getfield 100, 3) := by decide +kernel
theorem dX3_returned_31 : decode cX3_returned 31 = .ok (.iconst 1, 1) := by decide +kernel
theorem dX3_returned_32 : decode cX3_returned 32 = .ok (.isub, 1) := by decide +kernel
theorem dX3_returned_33 : decode cX3_returned 33 = .ok (.invokevirtual 139, 3) := by decide +kernel
theorem dX3_returned_36 : decode cX3_returned 36 = .ok (.pop, 1) := by decide +kernel
theorem dX3_returned_37 : decode cX3_returned 37 = .ok (.return_, 1) := by decide +kernel
theorem dX3_startsStatement_0 : decode cX3_startsStatement 0 = .ok (.iload_n 0, 1) := by decide +kernel
theorem dX3_startsStatement_1 : decode cX3_startsStatement 1 = .ok (.iconst 3, 1) := by decide +kernel
theorem dX3_startsStatement_2 : decode cX3_startsStatement 2 = .ok (.if_icmp .eq 24, 3) := by decide +kernel
theorem dX3_startsStatement_5 : decode cX3_startsStatement 5 = .ok (.iload_n 0, 1) := by decide +kernel
theorem dX3_startsStatement_6 : decode cX3_startsStatement 6 = .ok (.sipush 201, 3) := by decide +kernel
theorem dX3_startsStatement_9 : decode cX3_startsStatement 9 = .ok (.if_icmp .lt 21, 3) := by decide +kernel
theorem dX3_startsStatement_12 : decode cX3_startsStatement 12 = .ok (.iload_n 0, 1) := by decide +kernel
theorem dX3_startsStatement_13 : decode cX3_startsStatement 13 = .ok (.sipush 210, 3) := by decide +kernel
theorem dX3_startsStatement_16 : decode cX3_startsStatement 16 = .ok (.if_icmp .gt 14, 3) := by decide +kernel
theorem dX3_startsStatement_19 : decode cX3_startsStatement 19 = .ok (.iload_n 0, 1) := by decide +kernel
theorem dX3_startsStatement_20 : decode cX3_startsStatement 20 = .ok (.sipush 204, 3) := by decide +kernel
theorem dX3_startsStatement_23 : decode cX3_startsStatement 23 = .ok (.if_icmp .eq 7, 3) := by decide +kernel
theorem dX3_startsStatement_26 : decode cX3_startsStatement 26 = .ok (.iconst 1, 1) := by decide +kernel
theorem dX3_startsStatement_27 : decode cX3_startsStatement 27 = .ok (.goto 4, 3) := by decide +kernel
theorem dX3_startsStatement_30 : decode cX3_startsStatement 30 = .ok (.iconst 0, 1) := by decide +kernel
theorem dX3_startsStatement_31 : decode cX3_startsStatement 31 = .ok (.ireturn, 1) := by decide +kernel
theorem dX7_mark_0 : decode cX7_mark 0 = .ok (.aload_n 0, 1) := by decide +kernel
theorem dX7_mark_1 : decode cX7_mark 1 = .ok (.getfield 30, 3) := by decide +kernel
theorem dX7_mark_4 : decode cX7_mark 4 = .ok (.iload_n 1, 1) := by decide +kernel
theorem dX7_mark_5 : decode cX7_mark 5 = .ok (.dup2, 1) := by decide +kernel
theorem dX7_mark_6 : decode cX7_mark 6 = .ok (.iaload, 1) := by decide +kernel
theorem dX7_mark_7 : decode cX7_mark 7 = .ok (.iload_n 2, 1) := by decide +kernel
theorem dX7_mark_8 : decode cX7_mark 8 = .ok (.ior, 1) := by decide +kernel
theorem dX7_mark_9 : decode cX7_mark 9 = .ok (.iastore, 1) := by decide +kernel
theorem dX7_mark_10 : decode cX7_mark 10 = .ok (.return_, 1) := by decide +kernel
theorem dX7_markOutward_0 : decode cX7_markOutward 0 = .ok (.iload_n 1, 1) := by decide +kernel
theorem dX7_markOutward_1 : decode cX7_markOutward 1 = .ok (.istore 4, 2) := by decide +kernel
theorem dX7_markOutward_3 : decode cX7_markOutward 3 = .ok (.iconst 0, 1) := by decide +kernel
theorem dX7_markOutward_4 : decode cX7_markOutward 4 = .ok (.istore 5, 2) := by decide +kernel
theorem dX7_markOutward_6 : decode cX7_markOutward 6 = .ok (.iload 5, 2) := by decide +kernel
theorem dX7_markOutward_8 : decode cX7_markOutward 8 = .ok (.sipush 460, 3) := by decide +kernel
theorem dX7_markOutward_11 : decode cX7_markOutward 11 = .ok (.if_icmp .ge 44, 3) := by decide +kernel
theorem dX7_markOutward_14 : decode cX7_markOutward 14 = .ok (.iload 4, 2) := by decide +kernel
theorem dX7_markOutward_16 : decode cX7_markOutward 16 = .ok (.ifCond .lt 39, 3) := by decide +kernel
theorem dX7_markOutward_19 : decode cX7_markOutward 19 = .ok (.iload 4, 2) := by decide +kernel
theorem dX7_markOutward_21 : decode cX7_markOutward 21 = .ok (.iload_n 2, 1) := by decide +kernel
theorem dX7_markOutward_22 : decode cX7_markOutward 22 = .ok (.if_icmp .eq 33, 3) := by decide +kernel
theorem dX7_markOutward_25 : decode cX7_markOutward 25 = .ok (.aload_n 0, 1) := by decide +kernel
theorem dX7_markOutward_26 : decode cX7_markOutward 26 = .ok (.getfield 30, 3) := by decide +kernel
theorem dX7_markOutward_29 : decode cX7_markOutward 29 = .ok (.iload 4, 2) := by decide +kernel
theorem dX7_markOutward_31 : decode cX7_markOutward 31 = .ok (.iconst 3, 1) := by decide +kernel
theorem dX7_markOutward_32 : decode cX7_markOutward 32 = .ok (.idiv, 1) := by decide +kernel
theorem dX7_markOutward_33 : decode cX7_markOutward 33 = .ok (.dup2, 1) := by decide +kernel
theorem dX7_markOutward_34 : decode cX7_markOutward 34 = .ok (.iaload, 1) := by decide +kernel
theorem dX7_markOutward_35 : decode cX7_markOutward 35 = .ok (.iload_n 3, 1) := by decide +kernel
theorem dX7_markOutward_36 : decode cX7_markOutward 36 = .ok (.ior, 1) := by decide +kernel
theorem dX7_markOutward_37 : decode cX7_markOutward 37 = .ok (.iastore, 1) := by decide +kernel
theorem dX7_markOutward_38 : decode cX7_markOutward 38 = .ok (.aload_n 0, 1) := by decide +kernel
theorem dX7_markOutward_39 : decode cX7_markOutward 39 = .ok (.getfield 9, 3) := by decide +kernel
theorem dX7_markOutward_42 : decode cX7_markOutward 42 = .ok (.iload 4, 2) := by decide +kernel
theorem dX7_markOutward_44 : decode cX7_markOutward 44 = .ok (.iconst 3, 1) := by decide +kernel
theorem dX7_markOutward_45 : decode cX7_markOutward 45 = .ok (.idiv, 1) := by decide +kernel
theorem dX7_markOutward_46 : decode cX7_markOutward 46 = .ok (.iaload, 1) := by decide +kernel
theorem dX7_markOutward_47 : decode cX7_markOutward 47 = .ok (.istore 4, 2) := by decide +kernel
theorem dX7_markOutward_49 : decode cX7_markOutward 49 = .ok (.iinc 5 1, 3) := by decide +kernel
theorem dX7_markOutward_52 : decode cX7_markOutward 52 = .ok (.goto (-46), 3) := by decide +kernel
theorem dX7_markOutward_55 : decode cX7_markOutward 55 = .ok (.return_, 1) := by decide +kernel
theorem dX7_newLoop_0 : decode cX7_newLoop 0 = .ok (.aload_n 0, 1) := by decide +kernel
theorem dX7_newLoop_1 : decode cX7_newLoop 1 = .ok (.getfield 46, 3) := by decide +kernel
theorem dX7_newLoop_4 : decode cX7_newLoop 4 = .ok (.sipush 460, 3) := by decide +kernel
theorem dX7_newLoop_7 : decode cX7_newLoop 7 = .ok (.if_icmp .lt 5, 3) := by decide +kernel
theorem dX7_newLoop_10 : decode cX7_newLoop 10 = .ok (.iconst (-1), 1) := by decide +kernel
theorem dX7_newLoop_11 : decode cX7_newLoop 11 = .ok (.ireturn, 1) := by decide +kernel
theorem dX7_newLoop_12 : decode cX7_newLoop 12 = .ok (.aload_n 0, 1) := by decide +kernel
theorem dX7_newLoop_13 : decode cX7_newLoop 13 = .ok (.getfield 33, 3) := by decide +kernel
theorem dX7_newLoop_16 : decode cX7_newLoop 16 = .ok (.aload_n 0, 1) := by decide +kernel
theorem dX7_newLoop_17 : decode cX7_newLoop 17 = .ok (.getfield 46, 3) := by decide +kernel
theorem dX7_newLoop_20 : decode cX7_newLoop 20 = .ok (.iload_n 1, 1) := by decide +kernel
theorem dX7_newLoop_21 : decode cX7_newLoop 21 = .ok (.iastore, 1) := by decide +kernel
theorem dX7_newLoop_22 : decode cX7_newLoop 22 = .ok (.aload_n 0, 1) := by decide +kernel
theorem dX7_newLoop_23 : decode cX7_newLoop 23 = .ok (.getfield 36, 3) := by decide +kernel
theorem dX7_newLoop_26 : decode cX7_newLoop 26 = .ok (.aload_n 0, 1) := by decide +kernel
theorem dX7_newLoop_27 : decode cX7_newLoop 27 = .ok (.getfield 46, 3) := by decide +kernel
theorem dX7_newLoop_30 : decode cX7_newLoop 30 = .ok (.iload_n 2, 1) := by decide +kernel
theorem dX7_newLoop_31 : decode cX7_newLoop 31 = .ok (.iastore, 1) := by decide +kernel
theorem dX7_newLoop_32 : decode cX7_newLoop 32 = .ok (.aload_n 0, 1) := by decide +kernel
theorem dX7_newLoop_33 : decode cX7_newLoop 33 = .ok (.dup, 1) := by decide +kernel
theorem dX7_newLoop_34 : decode cX7_newLoop 34 = .ok (.getfield 46, 3) := by decide +kernel
theorem dX7_newLoop_37 : decode cX7_newLoop 37 = .ok (.iconst 1, 1) := by decide +kernel
theorem dX7_newLoop_38 : decode cX7_newLoop 38 = .ok (.iadd, 1) := by decide +kernel
theorem dX7_newLoop_39 : decode cX7_newLoop 39 = .ok (.putfield 46, 3) := by decide +kernel
theorem dX7_newLoop_42 : decode cX7_newLoop 42 = .ok (.aload_n 0, 1) := by decide +kernel
theorem dX7_newLoop_43 : decode cX7_newLoop 43 = .ok (.getfield 46, 3) := by decide +kernel
theorem dX7_newLoop_46 : decode cX7_newLoop 46 = .ok (.iconst 1, 1) := by decide +kernel
theorem dX7_newLoop_47 : decode cX7_newLoop 47 = .ok (.isub, 1) := by decide +kernel
theorem dX7_newLoop_48 : decode cX7_newLoop 48 = .ok (.ireturn, 1) := by decide +kernel
theorem dX7_newTry_0 : decode cX7_newTry 0 = .ok (.aload_n 0, 1) := by decide +kernel
theorem dX7_newTry_1 : decode cX7_newTry 1 = .ok (.getfield 42, 3) := by decide +kernel
theorem dX7_newTry_4 : decode cX7_newTry 4 = .ok (.sipush 460, 3) := by decide +kernel
theorem dX7_newTry_7 : decode cX7_newTry 7 = .ok (.if_icmp .lt 5, 3) := by decide +kernel
theorem dX7_newTry_10 : decode cX7_newTry 10 = .ok (.iconst (-1), 1) := by decide +kernel
theorem dX7_newTry_11 : decode cX7_newTry 11 = .ok (.ireturn, 1) := by decide +kernel
theorem dX7_newTry_12 : decode cX7_newTry 12 = .ok (.aload_n 0, 1) := by decide +kernel
theorem dX7_newTry_13 : decode cX7_newTry 13 = .ok (.getfield 9, 3) := by decide +kernel
theorem dX7_newTry_16 : decode cX7_newTry 16 = .ok (.aload_n 0, 1) := by decide +kernel
theorem dX7_newTry_17 : decode cX7_newTry 17 = .ok (.getfield 42, 3) := by decide +kernel
theorem dX7_newTry_20 : decode cX7_newTry 20 = .ok (.iload_n 1, 1) := by decide +kernel
theorem dX7_newTry_21 : decode cX7_newTry 21 = .ok (.iastore, 1) := by decide +kernel
theorem dX7_newTry_22 : decode cX7_newTry 22 = .ok (.aload_n 0, 1) := by decide +kernel
theorem dX7_newTry_23 : decode cX7_newTry 23 = .ok (.getfield 15, 3) := by decide +kernel
theorem dX7_newTry_26 : decode cX7_newTry 26 = .ok (.aload_n 0, 1) := by decide +kernel
theorem dX7_newTry_27 : decode cX7_newTry 27 = .ok (.getfield 42, 3) := by decide +kernel
theorem dX7_newTry_30 : decode cX7_newTry 30 = .ok (.iload_n 1, 1) := by decide +kernel
theorem dX7_newTry_31 : decode cX7_newTry 31 = .ok (.ifCond .ge 7, 3) := by decide +kernel
theorem dX7_newTry_34 : decode cX7_newTry 34 = .ok (.iconst 0, 1) := by decide +kernel
theorem dX7_newTry_35 : decode cX7_newTry 35 = .ok (.goto 13, 3) := by decide +kernel
theorem dX7_newTry_38 : decode cX7_newTry 38 = .ok (.aload_n 0, 1) := by decide +kernel
theorem dX7_newTry_39 : decode cX7_newTry 39 = .ok (.getfield 15, 3) := by decide +kernel
theorem dX7_newTry_42 : decode cX7_newTry 42 = .ok (.iload_n 1, 1) := by decide +kernel
theorem dX7_newTry_43 : decode cX7_newTry 43 = .ok (.iconst 3, 1) := by decide +kernel
theorem dX7_newTry_44 : decode cX7_newTry 44 = .ok (.idiv, 1) := by decide +kernel
theorem dX7_newTry_45 : decode cX7_newTry 45 = .ok (.iaload, 1) := by decide +kernel
theorem dX7_newTry_46 : decode cX7_newTry 46 = .ok (.iconst 1, 1) := by decide +kernel
theorem dX7_newTry_47 : decode cX7_newTry 47 = .ok (.iadd, 1) := by decide +kernel
theorem dX7_newTry_48 : decode cX7_newTry 48 = .ok (.iastore, 1) := by decide +kernel
theorem dX7_newTry_49 : decode cX7_newTry 49 = .ok (.aload_n 0, 1) := by decide +kernel
theorem dX7_newTry_50 : decode cX7_newTry 50 = .ok (.getfield 18, 3) := by decide +kernel
theorem dX7_newTry_53 : decode cX7_newTry 53 = .ok (.aload_n 0, 1) := by decide +kernel
theorem dX7_newTry_54 : decode cX7_newTry 54 = .ok (.getfield 42, 3) := by decide +kernel
theorem dX7_newTry_57 : decode cX7_newTry 57 = .ok (.iload_n 2, 1) := by decide +kernel
theorem dX7_newTry_58 : decode cX7_newTry 58 = .ok (.iastore, 1) := by decide +kernel
theorem dX7_newTry_59 : decode cX7_newTry 59 = .ok (.aload_n 0, 1) := by decide +kernel
theorem dX7_newTry_60 : decode cX7_newTry 60 = .ok (.getfield 30, 3) := by decide +kernel
theorem dX7_newTry_63 : decode cX7_newTry 63 = .ok (.aload_n 0, 1) := by decide +kernel
theorem dX7_newTry_64 : decode cX7_newTry 64 = .ok (.getfield 42, 3) := by decide +kernel
theorem dX7_newTry_67 : decode cX7_newTry 67 = .ok (.iconst 0, 1) := by decide +kernel
theorem dX7_newTry_68 : decode cX7_newTry 68 = .ok (.iastore, 1) := by decide +kernel
theorem dX7_newTry_69 : decode cX7_newTry 69 = .ok (.aload_n 0, 1) := by decide +kernel
theorem dX7_newTry_70 : decode cX7_newTry 70 = .ok (.dup, 1) := by decide +kernel
theorem dX7_newTry_71 : decode cX7_newTry 71 = .ok (.getfield 42, 3) := by decide +kernel
theorem dX7_newTry_74 : decode cX7_newTry 74 = .ok (.iconst 1, 1) := by decide +kernel
theorem dX7_newTry_75 : decode cX7_newTry 75 = .ok (.iadd, 1) := by decide +kernel
theorem dX7_newTry_76 : decode cX7_newTry 76 = .ok (.putfield 42, 3) := by decide +kernel
theorem dX7_newTry_79 : decode cX7_newTry 79 = .ok (.aload_n 0, 1) := by decide +kernel
theorem dX7_newTry_80 : decode cX7_newTry 80 = .ok (.getfield 42, 3) := by decide +kernel
theorem dX7_newTry_83 : decode cX7_newTry 83 = .ok (.iconst 1, 1) := by decide +kernel
theorem dX7_newTry_84 : decode cX7_newTry 84 = .ok (.isub, 1) := by decide +kernel
theorem dX7_newTry_85 : decode cX7_newTry 85 = .ok (.ireturn, 1) := by decide +kernel
def wp_X3_assigned_94 (K : kS → Prop) (x0 : Nat) (x1 : Int32) (S : kS) : Prop := ((x1 = (-1) → K S) ∧ (¬ x1 = (-1) → hasO S x0 3 ∧ wp_X3_emit x0 13 x1 S (fun (S23 : kS) (r23 : Int32) => K S23)))
def wp_X3_assigned_21 (K : kS → Prop) (x0 : Nat) (x1 : Int32) (S : kS) : Prop := hasO S x0 3 ∧ wp_X3_kind x0 S (fun (S5 : kS) (r5 : Int32) => ((r5 = 201 → hasO S5 x0 3 ∧ ∀ z7 : Option Nat, z7 = S5.2.1 15 x0 → ∃ q8 : Nat, z7 = some q8 ∧ hasO S5 q8 5 ∧ wp_X5_newWait q8 S5 (fun (S9 : kS) (r9 : Int32) => ((¬ r9 = (-1) → hasO S9 x0 3 ∧ wp_X3_step x0 S9 (fun (S11 : kS) => ∀ z12 : Int32, z12 = 1 + r9 → hasO S11 x0 3 ∧ wp_X3_emit x0 25 z12 S11 (fun (S13 : kS) (r13 : Int32) => hasO S13 x0 3 ∧ wq_X3_waitFor x0 0 S13 (fun (S14 : kS) => hasO S14 x0 3 ∧ ∀ z15 : Option Nat, z15 = S14.2.1 15 x0 → ∀ z16 : Int32, z16 = 1 + r9 → hasO S14 x0 3 ∧ wp_X3_emit x0 35 z16 S14 (fun (S17 : kS) (r17 : Int32) => ∃ q18 : Nat, z15 = some q18 ∧ hasO S17 q18 5 ∧ wp_X5_setStand q18 r9 r17 S17 (fun (S19 : kS) => wp_X3_assigned_94 K x0 x1 S19)))))) ∧ (r9 = (-1) → hasO S9 x0 3 ∧ wp_X3_wrong x0 5 S9 (fun (S20 : kS) => K S20))))) ∧ (¬ r5 = 201 → hasO S5 x0 3 ∧ wq_X3_expression x0 0 S5 (fun (S21 : kS) => wp_X3_assigned_94 K x0 x1 S21))))
def wp_X3_assigned (t0 : Nat) (S : kS) (K : kS → Prop) : Prop := hasO S t0 3 ∧ wp_X3_kind t0 S (fun (S1 : kS) (r1 : Int32) => ((¬ r1 = 3 → wp_X3_assigned_21 K t0 (-1) S1) ∧ (r1 = 3 → hasO S1 t0 3 ∧ wp_X3_cellHere t0 S1 (fun (S3 : kS) (r3 : Int32) => hasO S3 t0 3 ∧ wp_X3_need t0 61 S3 (fun (S4 : kS) => wp_X3_assigned_21 K t0 r3 S4)))))
theorem cw_X3_170 {R : Room} {s : State} {args : Array Value} {fr lo : Nat} (hts : ∀ w ∈ tb, w.before args s = true) (h1 : fr + 1 ≤ R.frames) (h2 : 8 + (2 + 11) + lo ≤ R.locals) : CallW R s args RX3 RX5 170 yX5_newWait cX5_newWait 2 (some .int) (.code yX5_newWait cX5_newWait 2 (some .int) :: tb) (mRm fr lo) 0 0 0 := cwV 0 hts (gd_V wd_727 wd_728 wd_729 wd_13 wd_730) rfl rfl rfl (by decide +kernel) ⟨h1, h2⟩
theorem cw_X3_176 {R : Room} {s : State} {args : Array Value} {fr lo : Nat} (hts : ∀ w ∈ tb, w.before args s = true) (h1 : fr + 1 ≤ R.frames) (h2 : 8 + (3 + 11) + lo ≤ R.locals) : CallW R s args RX3 RX5 176 yX5_setStand cX5_setStand 3 none (.code yX5_setStand cX5_setStand 3 none :: tb) (mRm fr lo) 0 0 2 := cwV 2 hts (gd_V wd_750 wd_751 wd_752 wd_13 wd_753) rfl rfl rfl (by decide +kernel) ⟨h1, h2⟩
set_option maxHeartbeats 4000000 in
set_option maxRecDepth 100000 in
theorem kt_X3_assigned (l : Launch) (S : kS) (t0 : Nat) (K : kS → Prop) (h : wp_X3_assigned t0 S K) : kMv l yX3_assigned cX3_assigned 3 none 83 1985 [.ref t0] S K := by
  refine kv_ofv (own := RX3) (by decide) rfl (Nat.le_of_ble_eq_true rfl) ?_
  intro E p e R s m args below meth c A ls Q hRf hRl hX hC hl hret
  have hx := hX.1.1
  have hb := hX.1.2.1
  have hown := hX.1.2.2.2.1
  have hts := hX.1.2.2.2.2
  have cut94 : ∀ (x0 : Nat) (x1 : Int32) (S : kS) (H : Heap) (locs : List Loc) (ls : Array Slot), wp_X3_assigned_94 K x0 x1 S → cM E A s.heap S H locs → lv_has ls 3 [(0, .ref x0), (1, .int x1)] → W p l e R s m args below meth c H locs 0 0 Q (F0 m 94 ls []) := by
    intro x0 x1 S H locs ls h hC hl
    unfold wp_X3_assigned_94 at h
    refine lv_iload_n hx hb dX3_assigned_94 rfl (lv_at hl 1 rfl) ?_
    refine lv_iconst (v := -1) hx hb dX3_assigned_95 (by decide) ?_
    refine lv_icmp_eq (tgt := 107) hx hb dX3_assigned_96 (by decide) (fun c22 => ?_) (fun c22 => ?_)
    · have h := h.1 c22
      exact hret _ _ _ _ _ hC h dX3_assigned_107
    · have h := h.2 c22
      refine lv_aload_n hx hb dX3_assigned_99 rfl (lv_at hl 0 rfl) ?_
      refine lv_bipush (v := 13) hx hb dX3_assigned_100 (by decide) ?_
      refine lv_iload_n hx hb dX3_assigned_102 rfl (lv_at hl 1 rfl) ?_
      refine kv_calli [.int 13, .int x1] (rest := []) (ci := 3) rfl hX hC h.1 (kt_X3_emit l S x0 13 x1 _ h.2 E _) (cw_X3_139 hts (by omega) (by omega)) rfl hl.1 (Nat.le_of_ble_eq_true rfl) ⟨Nat.zero_le _, Nat.zero_le _⟩ dX3_assigned_103 (fun r23 S23 H locs hC h => ?_)
      refine lv_pop hx hb dX3_assigned_106 rfl ?_
      exact hret _ _ _ _ _ hC h dX3_assigned_107
  have cut21 : ∀ (x0 : Nat) (x1 : Int32) (S : kS) (H : Heap) (locs : List Loc) (ls : Array Slot), wp_X3_assigned_21 K x0 x1 S → cM E A s.heap S H locs → lv_has ls 3 [(0, .ref x0), (1, .int x1)] → W p l e R s m args below meth c H locs 0 0 Q (F0 m 21 ls []) := by
    intro x0 x1 S H locs ls h hC hl
    unfold wp_X3_assigned_21 at h
    refine lv_aload_n hx hb dX3_assigned_21 rfl (lv_at hl 0 rfl) ?_
    refine kv_calli [] (rest := []) (ci := 3) rfl hX hC h.1 (kt_X3_kind l S x0 _ h.2 E _) (cw_X3_62 hts (by omega) (by omega)) rfl hl.1 (Nat.le_of_ble_eq_true rfl) ⟨Nat.zero_le _, Nat.zero_le _⟩ dX3_assigned_22 (fun r5 S5 H locs hC h => ?_)
    refine lv_sipush (v := 201) hx hb dX3_assigned_25 (by decide) ?_
    refine lv_icmp_eq (tgt := 39) hx hb dX3_assigned_28 (by decide) (fun c6 => ?_) (fun c6 => ?_)
    · have h := h.1 c6
      refine lv_aload_n hx hb dX3_assigned_39 rfl (lv_at hl 0 rfl) ?_
      refine cq_getr (ci := 3) (k := 1) (f := 15) hX hC rfl in_X3 (by decide) wd_132 (fun _ h9 => h9) (fun _ _ => rfl) dX3_assigned_40 h (fun z7 h => ?_)
      obtain ⟨q8, e9, hh⟩ := h
      subst e9
      have h := hh
      clear hh
      refine kv_calli [] (rest := []) (ci := 5) rfl hX hC h.1 (kt_X5_newWait l S5 q8 _ h.2 E _) (cw_X3_170 hts (by omega) (by omega)) rfl hl.1 (Nat.le_of_ble_eq_true rfl) ⟨Nat.zero_le _, Nat.zero_le _⟩ dX3_assigned_43 (fun r9 S9 H locs hC h => ?_)
      refine lv_istore_n (lv' := [(2, .int r9), (0, .ref x0), (1, .int x1)]) hx hb dX3_assigned_46 rfl hl (by decide) rfl (fun ls hl => ?_)
      refine lv_iload_n hx hb dX3_assigned_47 rfl (lv_at hl 0 rfl) ?_
      refine lv_iconst (v := -1) hx hb dX3_assigned_48 (by decide) ?_
      refine lv_icmp_ne (tgt := 58) hx hb dX3_assigned_49 (by decide) (fun c10 => ?_) (fun c10 => ?_)
      · have h := h.1 c10
        refine lv_aload_n hx hb dX3_assigned_58 rfl (lv_at hl 1 rfl) ?_
        refine kv_callv [] (rest := []) (ci := 3) rfl hX hC h.1 (kt_X3_step l S9 x0 _ h.2 E _) (cw_X3_103 hts (by omega) (by omega)) rfl hl.1 (Nat.le_of_ble_eq_true rfl) ⟨Nat.zero_le _, Nat.zero_le _⟩ dX3_assigned_59 (fun S11 H locs hC h => ?_)
        refine lv_aload_n hx hb dX3_assigned_62 rfl (lv_at hl 1 rfl) ?_
        refine lv_bipush (v := 25) hx hb dX3_assigned_63 (by decide) ?_
        refine lv_iconst (v := 1) hx hb dX3_assigned_65 (by decide) ?_
        refine lv_iload_n hx hb dX3_assigned_66 rfl (lv_at hl 0 rfl) ?_
        refine lq_iadd hx hb dX3_assigned_67 h (fun z12 h => ?_)
        refine kv_calli [.int 25, .int z12] (rest := []) (ci := 3) rfl hX hC h.1 (kt_X3_emit l S11 x0 25 z12 _ h.2 E _) (cw_X3_139 hts (by omega) (by omega)) rfl hl.1 (Nat.le_of_ble_eq_true rfl) ⟨Nat.zero_le _, Nat.zero_le _⟩ dX3_assigned_68 (fun r13 S13 H locs hC h => ?_)
        refine lv_pop hx hb dX3_assigned_71 rfl ?_
        refine lv_aload_n hx hb dX3_assigned_72 rfl (lv_at hl 1 rfl) ?_
        refine lv_iconst (v := 0) hx hb dX3_assigned_73 (by decide) ?_
        refine kv_callv [.int 0] (rest := []) (ci := 3) rfl hX hC h.1 (kt_X3_waitFor l S13 x0 0 _ h.2 E _) (cw_X3_173 hts (by omega) (by omega)) rfl hl.1 (Nat.le_of_ble_eq_true rfl) ⟨Nat.zero_le _, Nat.zero_le _⟩ dX3_assigned_74 (fun S14 H locs hC h => ?_)
        refine lv_aload_n hx hb dX3_assigned_77 rfl (lv_at hl 1 rfl) ?_
        refine cq_getr (ci := 3) (k := 1) (f := 15) hX hC rfl in_X3 (by decide) wd_132 (fun _ h9 => h9) (fun _ _ => rfl) dX3_assigned_78 h (fun z15 h => ?_)
        refine lv_iload_n hx hb dX3_assigned_81 rfl (lv_at hl 0 rfl) ?_
        refine lv_aload_n hx hb dX3_assigned_82 rfl (lv_at hl 1 rfl) ?_
        refine lv_bipush (v := 35) hx hb dX3_assigned_83 (by decide) ?_
        refine lv_iconst (v := 1) hx hb dX3_assigned_85 (by decide) ?_
        refine lv_iload_n hx hb dX3_assigned_86 rfl (lv_at hl 0 rfl) ?_
        refine lq_iadd hx hb dX3_assigned_87 h (fun z16 h => ?_)
        refine kv_calli [.int 35, .int z16] (rest := [.int r9, va_rf z15]) (ci := 3) rfl hX hC h.1 (kt_X3_emit l S14 x0 35 z16 _ h.2 E _) (cw_X3_139 hts (by omega) (by omega)) rfl hl.1 (by rcases z15 with _ | _ <;> exact Nat.le_of_ble_eq_true rfl) ⟨Nat.zero_le _, Nat.zero_le _⟩ dX3_assigned_88 (fun r17 S17 H locs hC h => ?_)
        obtain ⟨q18, e9, hh⟩ := h
        subst e9
        have h := hh
        clear hh
        refine kv_callv [.int r9, .int r17] (rest := []) (ci := 5) rfl hX hC h.1 (kt_X5_setStand l S17 q18 r9 r17 _ h.2 E _) (cw_X3_176 hts (by omega) (by omega)) rfl hl.1 (Nat.le_of_ble_eq_true rfl) ⟨Nat.zero_le _, Nat.zero_le _⟩ dX3_assigned_91 (fun S19 H locs hC h => ?_)
        exact cut94 x0 x1 S19 _ _ _ h hC (lv_sub hl [1, 2] rfl)
      · have h := h.2 c10
        refine lv_aload_n hx hb dX3_assigned_52 rfl (lv_at hl 1 rfl) ?_
        refine lv_iconst (v := 5) hx hb dX3_assigned_53 (by decide) ?_
        refine kv_callv [.int 5] (rest := []) (ci := 3) rfl hX hC h.1 (kt_X3_wrong l S9 x0 5 _ h.2 E _) (cw_X3_78 hts (by omega) (by omega)) rfl hl.1 (Nat.le_of_ble_eq_true rfl) ⟨Nat.zero_le _, Nat.zero_le _⟩ dX3_assigned_54 (fun S20 H locs hC h => ?_)
        exact hret _ _ _ _ _ hC h dX3_assigned_57
    · have h := h.2 c6
      refine lv_aload_n hx hb dX3_assigned_31 rfl (lv_at hl 0 rfl) ?_
      refine lv_iconst (v := 0) hx hb dX3_assigned_32 (by decide) ?_
      refine kv_callv [.int 0] (rest := []) (ci := 3) rfl hX hC h.1 (kt_X3_expression l S5 x0 0 _ h.2 E _) (cw_X3_155 hts (by omega) (by omega)) rfl hl.1 (Nat.le_of_ble_eq_true rfl) ⟨Nat.zero_le _, Nat.zero_le _⟩ dX3_assigned_33 (fun S21 H locs hC h => ?_)
      refine lv_goto (tgt := 94) hx hb dX3_assigned_36 (by decide) ?_
      exact cut94 x0 x1 S21 _ _ _ h hC (lv_sub hl [0, 1] rfl)
  have hl : lv_has ls 3 [(0, .ref t0)] := hl
  unfold wp_X3_assigned at h
  refine lv_iconst (v := -1) hx hb dX3_assigned_0 (by decide) ?_
  refine lv_istore_n (lv' := [(1, .int (-1)), (0, .ref t0)]) hx hb dX3_assigned_1 rfl hl (by decide) rfl (fun ls hl => ?_)
  refine lv_aload_n hx hb dX3_assigned_2 rfl (lv_at hl 1 rfl) ?_
  refine kv_calli [] (rest := []) (ci := 3) rfl hX hC h.1 (kt_X3_kind l S t0 _ h.2 E _) (cw_X3_62 hts (by omega) (by omega)) rfl hl.1 (Nat.le_of_ble_eq_true rfl) ⟨Nat.zero_le _, Nat.zero_le _⟩ dX3_assigned_3 (fun r1 S1 H locs hC h => ?_)
  refine lv_iconst (v := 3) hx hb dX3_assigned_6 (by decide) ?_
  refine lv_icmp_ne (tgt := 21) hx hb dX3_assigned_7 (by decide) (fun c2 => ?_) (fun c2 => ?_)
  · have h := h.1 c2
    exact cut21 t0 (-1) S1 _ _ _ h hC (lv_sub hl [1, 0] rfl)
  · have h := h.2 c2
    refine lv_aload_n hx hb dX3_assigned_10 rfl (lv_at hl 1 rfl) ?_
    refine kv_calli [] (rest := []) (ci := 3) rfl hX hC h.1 (kt_X3_cellHere l S1 t0 _ h.2 E _) (cw_X3_167 hts (by omega) (by omega)) rfl hl.1 (Nat.le_of_ble_eq_true rfl) ⟨Nat.zero_le _, Nat.zero_le _⟩ dX3_assigned_11 (fun r3 S3 H locs hC h => ?_)
    refine lv_istore_n (lv' := [(1, .int r3), (0, .ref t0)]) hx hb dX3_assigned_14 rfl hl (by decide) rfl (fun ls hl => ?_)
    refine lv_aload_n hx hb dX3_assigned_15 rfl (lv_at hl 1 rfl) ?_
    refine lv_bipush (v := 61) hx hb dX3_assigned_16 (by decide) ?_
    refine kv_callv [.int 61] (rest := []) (ci := 3) rfl hX hC h.1 (kt_X3_need l S3 t0 61 _ h.2 E _) (cw_X3_117 hts (by omega) (by omega)) rfl hl.1 (Nat.le_of_ble_eq_true rfl) ⟨Nat.zero_le _, Nat.zero_le _⟩ dX3_assigned_18 (fun S4 H locs hC h => ?_)
    exact cut21 t0 r3 S4 _ _ _ h hC (lv_sub hl [1, 0] rfl)
def wp_X3_startsStatement (a0 : Int32) (S : kS) (K : kS → Int32 → Prop) : Prop := ((a0 = 3 → K S 1) ∧ (¬ a0 = 3 → ((a0 < 201 → K S 0) ∧ (¬ a0 < 201 → ((210 < a0 → K S 0) ∧ (¬ 210 < a0 → ((a0 = 204 → K S 0) ∧ (¬ a0 = 204 → K S 1))))))))
set_option maxHeartbeats 4000000 in
set_option maxRecDepth 100000 in
theorem kt_X3_startsStatement (l : Launch) (S : kS) (a0 : Int32) (K : kS → Int32 → Prop) (h : wp_X3_startsStatement a0 S K) : kMi l yX3_startsStatement cX3_startsStatement 1 (some .boolean) 0 0 [.int a0] S K := by
  refine kv_ofz (own := RX3) (by decide) rfl (Nat.le_of_ble_eq_true rfl) ?_
  intro E p e R s m args below meth c A ls Q hRf hRl hX hC hl hret
  have hx := hX.1.1
  have hb := hX.1.2.1
  have hown := hX.1.2.2.2.1
  have hts := hX.1.2.2.2.2
  have hl : lv_has ls 1 [(0, .int a0)] := hl
  unfold wp_X3_startsStatement at h
  refine lv_iload_n hx hb dX3_startsStatement_0 rfl (lv_at hl 0 rfl) ?_
  refine lv_iconst (v := 3) hx hb dX3_startsStatement_1 (by decide) ?_
  refine lv_icmp_eq (tgt := 26) hx hb dX3_startsStatement_2 (by decide) (fun c1 => ?_) (fun c1 => ?_)
  · have h := h.1 c1
    refine lv_iconst (v := 1) hx hb dX3_startsStatement_26 (by decide) ?_
    refine lv_goto (tgt := 31) hx hb dX3_startsStatement_27 (by decide) ?_
    exact hret _ _ _ _ _ _ hC (Or.inr rfl) h dX3_startsStatement_31
  · have h := h.2 c1
    refine lv_iload_n hx hb dX3_startsStatement_5 rfl (lv_at hl 0 rfl) ?_
    refine lv_sipush (v := 201) hx hb dX3_startsStatement_6 (by decide) ?_
    refine lv_icmp_lt (tgt := 30) hx hb dX3_startsStatement_9 (by decide) (fun c2 => ?_) (fun c2 => ?_)
    · have h := h.1 c2
      refine lv_iconst (v := 0) hx hb dX3_startsStatement_30 (by decide) ?_
      exact hret _ _ _ _ _ _ hC (Or.inl rfl) h dX3_startsStatement_31
    · have h := h.2 c2
      refine lv_iload_n hx hb dX3_startsStatement_12 rfl (lv_at hl 0 rfl) ?_
      refine lv_sipush (v := 210) hx hb dX3_startsStatement_13 (by decide) ?_
      refine lv_icmp_gt (tgt := 30) hx hb dX3_startsStatement_16 (by decide) (fun c3 => ?_) (fun c3 => ?_)
      · have h := h.1 c3
        refine lv_iconst (v := 0) hx hb dX3_startsStatement_30 (by decide) ?_
        exact hret _ _ _ _ _ _ hC (Or.inl rfl) h dX3_startsStatement_31
      · have h := h.2 c3
        refine lv_iload_n hx hb dX3_startsStatement_19 rfl (lv_at hl 0 rfl) ?_
        refine lv_sipush (v := 204) hx hb dX3_startsStatement_20 (by decide) ?_
        refine lv_icmp_eq (tgt := 30) hx hb dX3_startsStatement_23 (by decide) (fun c4 => ?_) (fun c4 => ?_)
        · have h := h.1 c4
          refine lv_iconst (v := 0) hx hb dX3_startsStatement_30 (by decide) ?_
          exact hret _ _ _ _ _ _ hC (Or.inl rfl) h dX3_startsStatement_31
        · have h := h.2 c4
          refine lv_iconst (v := 1) hx hb dX3_startsStatement_26 (by decide) ?_
          refine lv_goto (tgt := 31) hx hb dX3_startsStatement_27 (by decide) ?_
          exact hret _ _ _ _ _ _ hC (Or.inr rfl) h dX3_startsStatement_31
def wp_X7_markOutward_6 (K : kS → Prop) (k6 : Nat × Int32 × Int32 × Int32 × Int32 × kS → Prop) (x0 : Nat) (x2 : Int32) (x3 : Int32) (x4 : Int32) (x5 : Int32) (S : kS) : Prop := ((460 ≤ x5 → K S) ∧ (¬ 460 ≤ x5 → ((x4 < 0 → K S) ∧ (¬ x4 < 0 → ((x4 = x2 → K S) ∧ (¬ x4 = x2 → hasO S x0 7 ∧ ∀ z4 : Option Nat, z4 = S.2.1 49 x0 → ¬ (3 : Int32) = 0 ∧ ∀ z5 : Int32, z5 = x4 / 3 → ∃ q6 : Nat, z4 = some q6 ∧ hasA S q6 460 0 ∧ inR z5 460 ∧ ∀ z7 : Int32, z7 = S.2.2.1 q6 (ix z5) → ∀ z8 : Int32, z8 = z7 ||| x3 → hasA S q6 460 0 ∧ inR z5 460 ∧ ∀ S9 : kS, S9 = cA S q6 (ix z5) z8 → hasO S9 x0 7 ∧ ∀ z10 : Option Nat, z10 = S9.2.1 43 x0 → ¬ (3 : Int32) = 0 ∧ ∀ z11 : Int32, z11 = x4 / 3 → ∃ q12 : Nat, z10 = some q12 ∧ hasA S9 q12 460 0 ∧ inR z11 460 ∧ ∀ z13 : Int32, z13 = S9.2.2.1 q12 (ix z11) → ∀ z14 : Int32, z14 = x5 + 1 → k6 (x0, x2, x3, z13, z14, S9)))))))
def ls_X7_markOutward_6 (K : kS → Prop) (k6 : Nat × Int32 × Int32 × Int32 × Int32 × kS → Prop) (u : Nat × Int32 × Int32 × Int32 × Int32 × kS) : Prop := wp_X7_markOutward_6 K k6 u.1 u.2.1 u.2.2.1 u.2.2.2.1 u.2.2.2.2.1 u.2.2.2.2.2
def wp_X7_markOutward (t0 : Nat) (a0 : Int32) (a1 : Int32) (a2 : Int32) (S : kS) (K : kS → Prop) : Prop := (∃ n9, it (ls_X7_markOutward_6 K) n9 (t0, a1, a2, a0, 0, S))
set_option maxHeartbeats 4000000 in
set_option maxRecDepth 100000 in
theorem kt_X7_markOutward (l : Launch) (S : kS) (t0 : Nat) (a0 : Int32) (a1 : Int32) (a2 : Int32) (K : kS → Prop) (h : wp_X7_markOutward t0 a0 a1 a2 S K) : kMv l yX7_markOutward cX7_markOutward 6 none 0 0 [.ref t0, .int a0, .int a1, .int a2] S K := by
  refine kv_ofv (own := RX7) (by decide) rfl (Nat.le_of_ble_eq_true rfl) ?_
  intro E p e R s m args below meth c A ls Q hRf hRl hX hC hl hret
  have hx := hX.1.1
  have hb := hX.1.2.1
  have hown := hX.1.2.2.2.1
  have hts := hX.1.2.2.2.2
  have cut6 : ∀ (n6 : Nat) (x0 : Nat) (x2 : Int32) (x3 : Int32) (x4 : Int32) (x5 : Int32) (S : kS) (H : Heap) (locs : List Loc) (ls : Array Slot), it (ls_X7_markOutward_6 K) n6 (x0, x2, x3, x4, x5, S) → cM E A s.heap S H locs → lv_has ls 6 [(0, .ref x0), (2, .int x2), (3, .int x3), (4, .int x4), (5, .int x5)] → W p l e R s m args below meth c H locs 0 0 Q (F0 m 6 ls []) := by
    intro n6
    induction n6 with
    | zero => intro x0 x2 x3 x4 x5 S H locs ls h hC hl; exact h.elim
    | succ n6 ih6 =>
      intro x0 x2 x3 x4 x5 S H locs ls h hC hl
      have h : wp_X7_markOutward_6 K (it (ls_X7_markOutward_6 K) n6) x0 x2 x3 x4 x5 S := h
      unfold wp_X7_markOutward_6 at h
      refine lv_iload hx hb dX7_markOutward_6 (lv_at hl 4 rfl) ?_
      refine lv_sipush (v := 460) hx hb dX7_markOutward_8 (by decide) ?_
      refine lv_icmp_ge (tgt := 55) hx hb dX7_markOutward_11 (by decide) (fun c1 => ?_) (fun c1 => ?_)
      · have h := h.1 c1
        exact hret _ _ _ _ _ hC h dX7_markOutward_55
      · have h := h.2 c1
        refine lv_iload hx hb dX7_markOutward_14 (lv_at hl 3 rfl) ?_
        refine lv_if_lt (tgt := 55) hx hb dX7_markOutward_16 (by decide) (fun c2 => ?_) (fun c2 => ?_)
        · have h := h.1 c2
          exact hret _ _ _ _ _ hC h dX7_markOutward_55
        · have h := h.2 c2
          refine lv_iload hx hb dX7_markOutward_19 (lv_at hl 3 rfl) ?_
          refine lv_iload_n hx hb dX7_markOutward_21 rfl (lv_at hl 1 rfl) ?_
          refine lv_icmp_eq (tgt := 55) hx hb dX7_markOutward_22 (by decide) (fun c3 => ?_) (fun c3 => ?_)
          · have h := h.1 c3
            exact hret _ _ _ _ _ hC h dX7_markOutward_55
          · have h := h.2 c3
            refine lv_aload_n hx hb dX7_markOutward_25 rfl (lv_at hl 0 rfl) ?_
            refine cq_getr (ci := 7) (k := 7) (f := 49) hX hC rfl in_X7 (by decide) wd_360 (fun _ h9 => h9) (fun _ _ => rfl) dX7_markOutward_26 h (fun z4 h => ?_)
            refine lv_iload hx hb dX7_markOutward_29 (lv_at hl 3 rfl) ?_
            refine lv_iconst (v := 3) hx hb dX7_markOutward_31 (by decide) ?_
            refine lq_idiv hx hb dX7_markOutward_32 h (fun z5 h => ?_)
            refine lv_dup2_11 hx hb dX7_markOutward_33 (by first | rfl | exact cat_o) (by first | rfl | exact cat_o) ?_
            obtain ⟨q6, e9, hh⟩ := h
            subst e9
            have h := hh
            clear hh
            refine cq_ild hX hC dX7_markOutward_34 h (fun z7 h => ?_)
            refine lv_iload_n hx hb dX7_markOutward_35 rfl (lv_at hl 2 rfl) ?_
            refine lq_ior hx hb dX7_markOutward_36 h (fun z8 h => ?_)
            refine cq_ist hX hC dX7_markOutward_37 h.1 h.2.1 h.2.2 (fun S9 H locs hC h => ?_)
            refine lv_aload_n hx hb dX7_markOutward_38 rfl (lv_at hl 0 rfl) ?_
            refine cq_getr (ci := 7) (k := 1) (f := 43) hX hC rfl in_X7 (by decide) wd_342 (fun _ h9 => h9) (fun _ _ => rfl) dX7_markOutward_39 h (fun z10 h => ?_)
            refine lv_iload hx hb dX7_markOutward_42 (lv_at hl 3 rfl) ?_
            refine lv_iconst (v := 3) hx hb dX7_markOutward_44 (by decide) ?_
            refine lq_idiv hx hb dX7_markOutward_45 h (fun z11 h => ?_)
            obtain ⟨q12, e9, hh⟩ := h
            subst e9
            have h := hh
            clear hh
            refine cq_ild hX hC dX7_markOutward_46 h (fun z13 h => ?_)
            refine lv_istore (lv' := [(4, .int z13), (0, .ref x0), (2, .int x2), (3, .int x3), (5, .int x5)]) hx hb dX7_markOutward_47 hl (by decide) rfl (fun ls hl => ?_)
            obtain ⟨z14, ez14⟩ : ∃ y : Int32, y = x5 + 1 := ⟨_, rfl⟩
            have h := h z14 ez14
            refine lv_iinc (v := z14) (lv' := [(5, .int z14), (4, .int z13), (0, .ref x0), (2, .int x2), (3, .int x3)]) hx hb dX7_markOutward_49 hl (k := 4) rfl (by rw [ez14]; rfl) (by decide) rfl (fun ls hl => ?_)
            refine lv_goto (tgt := 6) hx hb dX7_markOutward_52 (by decide) ?_
            exact ih6 x0 x2 x3 z13 z14 S9 _ _ _ h hC (lv_sub hl [2, 3, 4, 1, 0] rfl)
  have hl : lv_has ls 6 [(0, .ref t0), (1, .int a0), (2, .int a1), (3, .int a2)] := hl
  unfold wp_X7_markOutward at h
  refine lv_iload_n hx hb dX7_markOutward_0 rfl (lv_at hl 1 rfl) ?_
  refine lv_istore (lv' := [(4, .int a0), (0, .ref t0), (1, .int a0), (2, .int a1), (3, .int a2)]) hx hb dX7_markOutward_1 hl (by decide) rfl (fun ls hl => ?_)
  refine lv_iconst (v := 0) hx hb dX7_markOutward_3 (by decide) ?_
  refine lv_istore (lv' := [(5, .int 0), (4, .int a0), (0, .ref t0), (1, .int a0), (2, .int a1), (3, .int a2)]) hx hb dX7_markOutward_4 hl (by decide) rfl (fun ls hl => ?_)
  obtain ⟨n9, h⟩ := h
  exact cut6 n9 t0 a1 a2 a0 0 S _ _ _ h hC (lv_sub hl [2, 4, 5, 1, 0] rfl)
def wp_X3_leftLoop_83 (K : kS → Prop) (y0 : Option Nat) (y1 : Int32) (y2 : Int32) (y3 : Int32) (S : kS) : Prop := ∃ q19 : Nat, y0 = some q19 ∧ hasO S q19 7 ∧ wp_X7_markOutward q19 y1 y2 y3 S (fun (S20 : kS) => K S20)
def wp_X3_leftLoop_45 (K : kS → Prop) (x0 : Nat) (x1 : Int32) (y0 : Nat) (y1 : Int32) (S : kS) : Prop := hasO S x0 3 ∧ ∀ z8 : Int32, z8 = S.1 9 x0 → hasO S y0 3 ∧ wp_X3_emit y0 y1 z8 S (fun (S9 : kS) (r9 : Int32) => hasO S9 x0 3 ∧ ∀ z10 : Option Nat, z10 = S9.2.1 16 x0 → hasO S9 x0 3 ∧ ∀ z11 : Int32, z11 = S9.1 8 x0 → hasO S9 x0 3 ∧ ∀ z12 : Option Nat, z12 = S9.2.1 16 x0 → ∃ q13 : Nat, z12 = some q13 ∧ hasO S9 q13 7 ∧ ∀ z14 : Option Nat, z14 = S9.2.1 50 q13 → hasO S9 x0 3 ∧ ∀ z15 : Int32, z15 = S9.1 9 x0 → ∃ q16 : Nat, z14 = some q16 ∧ hasA S9 q16 460 0 ∧ inR z15 460 ∧ ∀ z17 : Int32, z17 = S9.2.2.1 q16 (ix z15) → ((x1 = 0 → wp_X3_leftLoop_83 K z10 z11 z17 8 S9) ∧ (¬ x1 = 0 → wp_X3_leftLoop_83 K z10 z11 z17 4 S9)))
def wp_X3_leftLoop_15 (K : kS → Prop) (x0 : Nat) (y0 : Int32) (S : kS) : Prop := hasO S x0 3 ∧ ∀ z3 : Int32, z3 = S.1 9 x0 → ((0 ≤ z3 → hasO S x0 3 ∧ wp_X3_step x0 S (fun (S5 : kS) => ((y0 = 0 → wp_X3_leftLoop_45 K x0 y0 x0 18 S5) ∧ (¬ y0 = 0 → wp_X3_leftLoop_45 K x0 y0 x0 17 S5)))) ∧ (¬ 0 ≤ z3 → hasO S x0 3 ∧ wp_X3_wrong x0 1 S (fun (S7 : kS) => K S7)))
def wp_X3_leftLoop (t0 : Nat) (S : kS) (K : kS → Prop) : Prop := hasO S t0 3 ∧ wp_X3_kind t0 S (fun (S1 : kS) (r1 : Int32) => ((¬ r1 = 206 → wp_X3_leftLoop_15 K t0 0 S1) ∧ (r1 = 206 → wp_X3_leftLoop_15 K t0 1 S1)))
theorem cw_X3_184 {R : Room} {s : State} {args : Array Value} {fr lo : Nat} (hts : ∀ w ∈ tb, w.before args s = true) (h1 : fr + 1 ≤ R.frames) (h2 : 8 + (6 + 11) + lo ≤ R.locals) : CallW R s args RX3 RX7 184 yX7_markOutward cX7_markOutward 6 none (.code yX7_markOutward cX7_markOutward 6 none :: tb) (mRm fr lo) 0 0 3 := cwV 3 hts (gd_V wd_762 wd_763 wd_764 wd_14 wd_765) rfl rfl rfl (by decide +kernel) ⟨h1, h2⟩
set_option maxHeartbeats 4000000 in
set_option maxRecDepth 100000 in
theorem kt_X3_leftLoop (l : Launch) (S : kS) (t0 : Nat) (K : kS → Prop) (h : wp_X3_leftLoop t0 S K) : kMv l yX3_leftLoop cX3_leftLoop 2 none 2 45 [.ref t0] S K := by
  refine kv_ofv (own := RX3) (by decide) rfl (Nat.le_of_ble_eq_true rfl) ?_
  intro E p e R s m args below meth c A ls Q hRf hRl hX hC hl hret
  have hx := hX.1.1
  have hb := hX.1.2.1
  have hown := hX.1.2.2.2.1
  have hts := hX.1.2.2.2.2
  have cut83 : ∀ (y0 : Option Nat) (y1 : Int32) (y2 : Int32) (y3 : Int32) (S : kS) (H : Heap) (locs : List Loc) (ls : Array Slot), wp_X3_leftLoop_83 K y0 y1 y2 y3 S → cM E A s.heap S H locs → lv_has ls 2 [] → W p l e R s m args below meth c H locs 0 0 Q (F0 m 83 ls [.int y3, .int y2, .int y1, va_rf y0]) := by
    intro y0 y1 y2 y3 S H locs ls h hC hl
    unfold wp_X3_leftLoop_83 at h
    obtain ⟨q19, e9, hh⟩ := h
    subst e9
    have h := hh
    clear hh
    refine kv_callv [.int y1, .int y2, .int y3] (rest := []) (ci := 7) rfl hX hC h.1 (kt_X7_markOutward l S q19 y1 y2 y3 _ h.2 E _) (cw_X3_184 hts (by omega) (by omega)) rfl hl.1 (Nat.le_of_ble_eq_true rfl) ⟨Nat.zero_le _, Nat.zero_le _⟩ dX3_leftLoop_83 (fun S20 H locs hC h => ?_)
    exact hret _ _ _ _ _ hC h dX3_leftLoop_86
  have cut45 : ∀ (x0 : Nat) (x1 : Int32) (y0 : Nat) (y1 : Int32) (S : kS) (H : Heap) (locs : List Loc) (ls : Array Slot), wp_X3_leftLoop_45 K x0 x1 y0 y1 S → cM E A s.heap S H locs → lv_has ls 2 [(0, .ref x0), (1, .int x1)] → W p l e R s m args below meth c H locs 0 0 Q (F0 m 45 ls [.int y1, .ref y0]) := by
    intro x0 x1 y0 y1 S H locs ls h hC hl
    unfold wp_X3_leftLoop_45 at h
    refine lv_aload_n hx hb dX3_leftLoop_45 rfl (lv_at hl 0 rfl) ?_
    refine cq_geti (ci := 3) (k := 6) (f := 9) hX hC rfl in_X3 (by decide) wd_137 (fun _ h9 => h9) (fun _ _ => rfl) dX3_leftLoop_46 h (fun z8 h => ?_)
    refine kv_calli [.int y1, .int z8] (rest := []) (ci := 3) rfl hX hC h.1 (kt_X3_emit l S y0 y1 z8 _ h.2 E _) (cw_X3_139 hts (by omega) (by omega)) rfl hl.1 (Nat.le_of_ble_eq_true rfl) ⟨Nat.zero_le _, Nat.zero_le _⟩ dX3_leftLoop_49 (fun r9 S9 H locs hC h => ?_)
    refine lv_pop hx hb dX3_leftLoop_52 rfl ?_
    refine lv_aload_n hx hb dX3_leftLoop_53 rfl (lv_at hl 0 rfl) ?_
    refine cq_getr (ci := 3) (k := 2) (f := 16) hX hC rfl in_X3 (by decide) wd_133 (fun _ h9 => h9) (fun _ _ => rfl) dX3_leftLoop_54 h (fun z10 h => ?_)
    refine lv_aload_n hx hb dX3_leftLoop_57 rfl (lv_at hl 0 rfl) ?_
    refine cq_geti (ci := 3) (k := 5) (f := 8) hX hC rfl in_X3 (by decide) wd_136 (fun _ h9 => h9) (fun _ _ => rfl) dX3_leftLoop_58 h (fun z11 h => ?_)
    refine lv_aload_n hx hb dX3_leftLoop_61 rfl (lv_at hl 0 rfl) ?_
    refine cq_getr (ci := 3) (k := 2) (f := 16) hX hC rfl in_X3 (by decide) wd_133 (fun _ h9 => h9) (fun _ _ => rfl) dX3_leftLoop_62 h (fun z12 h => ?_)
    obtain ⟨q13, e9, hh⟩ := h
    subst e9
    have h := hh
    clear hh
    refine cq_getr (ci := 7) (k := 9) (f := 50) hX hC rfl in_X7 (by decide) wd_364 (fun _ h9 => h9) (fun _ _ => rfl) dX3_leftLoop_65 h (fun z14 h => ?_)
    refine lv_aload_n hx hb dX3_leftLoop_68 rfl (lv_at hl 0 rfl) ?_
    refine cq_geti (ci := 3) (k := 6) (f := 9) hX hC rfl in_X3 (by decide) wd_137 (fun _ h9 => h9) (fun _ _ => rfl) dX3_leftLoop_69 h (fun z15 h => ?_)
    obtain ⟨q16, e9, hh⟩ := h
    subst e9
    have h := hh
    clear hh
    refine cq_ild hX hC dX3_leftLoop_72 h (fun z17 h => ?_)
    refine lv_iload_n hx hb dX3_leftLoop_73 rfl (lv_at hl 1 rfl) ?_
    refine lv_if_eq (tgt := 81) hx hb dX3_leftLoop_74 (by decide) (fun c18 => ?_) (fun c18 => ?_)
    · have h := h.1 c18
      refine lv_bipush (v := 8) hx hb dX3_leftLoop_81 (by decide) ?_
      exact cut83 z10 z11 z17 8 S9 _ _ _ h hC (lv_sub hl [] rfl)
    · have h := h.2 c18
      refine lv_iconst (v := 4) hx hb dX3_leftLoop_77 (by decide) ?_
      refine lv_goto (tgt := 83) hx hb dX3_leftLoop_78 (by decide) ?_
      exact cut83 z10 z11 z17 4 S9 _ _ _ h hC (lv_sub hl [] rfl)
  have cut15 : ∀ (x0 : Nat) (y0 : Int32) (S : kS) (H : Heap) (locs : List Loc) (ls : Array Slot), wp_X3_leftLoop_15 K x0 y0 S → cM E A s.heap S H locs → lv_has ls 2 [(0, .ref x0)] → W p l e R s m args below meth c H locs 0 0 Q (F0 m 15 ls [.int y0]) := by
    intro x0 y0 S H locs ls h hC hl
    unfold wp_X3_leftLoop_15 at h
    refine lv_istore_n (lv' := [(1, .int y0), (0, .ref x0)]) hx hb dX3_leftLoop_15 rfl hl (by decide) rfl (fun ls hl => ?_)
    refine lv_aload_n hx hb dX3_leftLoop_16 rfl (lv_at hl 1 rfl) ?_
    refine cq_geti (ci := 3) (k := 6) (f := 9) hX hC rfl in_X3 (by decide) wd_137 (fun _ h9 => h9) (fun _ _ => rfl) dX3_leftLoop_17 h (fun z3 h => ?_)
    refine lv_if_ge (tgt := 29) hx hb dX3_leftLoop_20 (by decide) (fun c4 => ?_) (fun c4 => ?_)
    · have h := h.1 c4
      refine lv_aload_n hx hb dX3_leftLoop_29 rfl (lv_at hl 1 rfl) ?_
      refine kv_callv [] (rest := []) (ci := 3) rfl hX hC h.1 (kt_X3_step l S x0 _ h.2 E _) (cw_X3_103 hts (by omega) (by omega)) rfl hl.1 (Nat.le_of_ble_eq_true rfl) ⟨Nat.zero_le _, Nat.zero_le _⟩ dX3_leftLoop_30 (fun S5 H locs hC h => ?_)
      refine lv_aload_n hx hb dX3_leftLoop_33 rfl (lv_at hl 1 rfl) ?_
      refine lv_iload_n hx hb dX3_leftLoop_34 rfl (lv_at hl 0 rfl) ?_
      refine lv_if_eq (tgt := 43) hx hb dX3_leftLoop_35 (by decide) (fun c6 => ?_) (fun c6 => ?_)
      · have h := h.1 c6
        refine lv_bipush (v := 18) hx hb dX3_leftLoop_43 (by decide) ?_
        exact cut45 x0 y0 x0 18 S5 _ _ _ h hC (lv_sub hl [1, 0] rfl)
      · have h := h.2 c6
        refine lv_bipush (v := 17) hx hb dX3_leftLoop_38 (by decide) ?_
        refine lv_goto (tgt := 45) hx hb dX3_leftLoop_40 (by decide) ?_
        exact cut45 x0 y0 x0 17 S5 _ _ _ h hC (lv_sub hl [1, 0] rfl)
    · have h := h.2 c4
      refine lv_aload_n hx hb dX3_leftLoop_23 rfl (lv_at hl 1 rfl) ?_
      refine lv_iconst (v := 1) hx hb dX3_leftLoop_24 (by decide) ?_
      refine kv_callv [.int 1] (rest := []) (ci := 3) rfl hX hC h.1 (kt_X3_wrong l S x0 1 _ h.2 E _) (cw_X3_78 hts (by omega) (by omega)) rfl hl.1 (Nat.le_of_ble_eq_true rfl) ⟨Nat.zero_le _, Nat.zero_le _⟩ dX3_leftLoop_25 (fun S7 H locs hC h => ?_)
      exact hret _ _ _ _ _ hC h dX3_leftLoop_28
  have hl : lv_has ls 2 [(0, .ref t0)] := hl
  unfold wp_X3_leftLoop at h
  refine lv_aload_n hx hb dX3_leftLoop_0 rfl (lv_at hl 0 rfl) ?_
  refine kv_calli [] (rest := []) (ci := 3) rfl hX hC h.1 (kt_X3_kind l S t0 _ h.2 E _) (cw_X3_62 hts (by omega) (by omega)) rfl hl.1 (Nat.le_of_ble_eq_true rfl) ⟨Nat.zero_le _, Nat.zero_le _⟩ dX3_leftLoop_1 (fun r1 S1 H locs hC h => ?_)
  refine lv_sipush (v := 206) hx hb dX3_leftLoop_4 (by decide) ?_
  refine lv_icmp_ne (tgt := 14) hx hb dX3_leftLoop_7 (by decide) (fun c2 => ?_) (fun c2 => ?_)
  · have h := h.1 c2
    refine lv_iconst (v := 0) hx hb dX3_leftLoop_14 (by decide) ?_
    exact cut15 t0 0 S1 _ _ _ h hC (lv_sub hl [0] rfl)
  · have h := h.2 c2
    refine lv_iconst (v := 1) hx hb dX3_leftLoop_10 (by decide) ?_
    refine lv_goto (tgt := 15) hx hb dX3_leftLoop_11 (by decide) ?_
    exact cut15 t0 1 S1 _ _ _ h hC (lv_sub hl [0] rfl)
def wp_X7_newLoop (t0 : Nat) (a0 : Int32) (a1 : Int32) (S : kS) (K : kS → Int32 → Prop) : Prop := hasO S t0 7 ∧ ∀ z1 : Int32, z1 = S.1 25 t0 → ((z1 < 460 → hasO S t0 7 ∧ ∀ z3 : Option Nat, z3 = S.2.1 50 t0 → hasO S t0 7 ∧ ∀ z4 : Int32, z4 = S.1 25 t0 → ∃ q5 : Nat, z3 = some q5 ∧ hasA S q5 460 0 ∧ inR z4 460 ∧ ∀ S6 : kS, S6 = cA S q5 (ix z4) a0 → hasO S6 t0 7 ∧ ∀ z7 : Option Nat, z7 = S6.2.1 51 t0 → hasO S6 t0 7 ∧ ∀ z8 : Int32, z8 = S6.1 25 t0 → ∃ q9 : Nat, z7 = some q9 ∧ hasA S6 q9 460 0 ∧ inR z8 460 ∧ ∀ S10 : kS, S10 = cA S6 q9 (ix z8) a1 → hasO S10 t0 7 ∧ ∀ z11 : Int32, z11 = S10.1 25 t0 → ∀ z12 : Int32, z12 = z11 + 1 → hasO S10 t0 7 ∧ ∀ S13 : kS, S13 = cI S10 25 t0 z12 → hasO S13 t0 7 ∧ ∀ z14 : Int32, z14 = S13.1 25 t0 → ∀ z15 : Int32, z15 = z14 - 1 → K S13 z15) ∧ (¬ z1 < 460 → K S (-1)))
set_option maxHeartbeats 4000000 in
set_option maxRecDepth 100000 in
theorem kt_X7_newLoop (l : Launch) (S : kS) (t0 : Nat) (a0 : Int32) (a1 : Int32) (K : kS → Int32 → Prop) (h : wp_X7_newLoop t0 a0 a1 S K) : kMi l yX7_newLoop cX7_newLoop 3 (some .int) 0 0 [.ref t0, .int a0, .int a1] S K := by
  refine kv_ofi (own := RX7) (by decide) rfl (Nat.le_of_ble_eq_true rfl) ?_
  intro E p e R s m args below meth c A ls Q hRf hRl hX hC hl hret
  have hx := hX.1.1
  have hb := hX.1.2.1
  have hown := hX.1.2.2.2.1
  have hts := hX.1.2.2.2.2
  have hl : lv_has ls 3 [(0, .ref t0), (1, .int a0), (2, .int a1)] := hl
  unfold wp_X7_newLoop at h
  refine lv_aload_n hx hb dX7_newLoop_0 rfl (lv_at hl 0 rfl) ?_
  refine cq_geti (ci := 7) (k := 8) (f := 25) hX hC rfl in_X7 (by decide) wd_361 (fun _ h9 => h9) (fun _ _ => rfl) dX7_newLoop_1 h (fun z1 h => ?_)
  refine lv_sipush (v := 460) hx hb dX7_newLoop_4 (by decide) ?_
  refine lv_icmp_lt (tgt := 12) hx hb dX7_newLoop_7 (by decide) (fun c2 => ?_) (fun c2 => ?_)
  · have h := h.1 c2
    refine lv_aload_n hx hb dX7_newLoop_12 rfl (lv_at hl 0 rfl) ?_
    refine cq_getr (ci := 7) (k := 9) (f := 50) hX hC rfl in_X7 (by decide) wd_362 (fun _ h9 => h9) (fun _ _ => rfl) dX7_newLoop_13 h (fun z3 h => ?_)
    refine lv_aload_n hx hb dX7_newLoop_16 rfl (lv_at hl 0 rfl) ?_
    refine cq_geti (ci := 7) (k := 8) (f := 25) hX hC rfl in_X7 (by decide) wd_361 (fun _ h9 => h9) (fun _ _ => rfl) dX7_newLoop_17 h (fun z4 h => ?_)
    refine lv_iload_n hx hb dX7_newLoop_20 rfl (lv_at hl 1 rfl) ?_
    obtain ⟨q5, e9, hh⟩ := h
    subst e9
    have h := hh
    clear hh
    refine cq_ist hX hC dX7_newLoop_21 h.1 h.2.1 h.2.2 (fun S6 H locs hC h => ?_)
    refine lv_aload_n hx hb dX7_newLoop_22 rfl (lv_at hl 0 rfl) ?_
    refine cq_getr (ci := 7) (k := 10) (f := 51) hX hC rfl in_X7 (by decide) wd_365 (fun _ h9 => h9) (fun _ _ => rfl) dX7_newLoop_23 h (fun z7 h => ?_)
    refine lv_aload_n hx hb dX7_newLoop_26 rfl (lv_at hl 0 rfl) ?_
    refine cq_geti (ci := 7) (k := 8) (f := 25) hX hC rfl in_X7 (by decide) wd_361 (fun _ h9 => h9) (fun _ _ => rfl) dX7_newLoop_27 h (fun z8 h => ?_)
    refine lv_iload_n hx hb dX7_newLoop_30 rfl (lv_at hl 2 rfl) ?_
    obtain ⟨q9, e9, hh⟩ := h
    subst e9
    have h := hh
    clear hh
    refine cq_ist hX hC dX7_newLoop_31 h.1 h.2.1 h.2.2 (fun S10 H locs hC h => ?_)
    refine lv_aload_n hx hb dX7_newLoop_32 rfl (lv_at hl 0 rfl) ?_
    refine lv_dup hx hb dX7_newLoop_33 rfl ?_
    refine cq_geti (ci := 7) (k := 8) (f := 25) hX hC rfl in_X7 (by decide) wd_361 (fun _ h9 => h9) (fun _ _ => rfl) dX7_newLoop_34 h (fun z11 h => ?_)
    refine lv_iconst (v := 1) hx hb dX7_newLoop_37 (by decide) ?_
    refine lq_iadd hx hb dX7_newLoop_38 h (fun z12 h => ?_)
    refine cq_puti (v := z12) (ci := 7) (k := 8) (f := 25) hX hC rfl in_X7 (by decide) wd_361 (fun _ h9 => h9) tyX7 tyX7_ok nmX7 rfl rfl rfl (fun _ _ => Nat.le_of_ble_eq_true rfl) (fun _ _ _ => rfl) dX7_newLoop_39 h.1 h.2 (fun S13 H locs hC h => ?_)
    refine lv_aload_n hx hb dX7_newLoop_42 rfl (lv_at hl 0 rfl) ?_
    refine cq_geti (ci := 7) (k := 8) (f := 25) hX hC rfl in_X7 (by decide) wd_361 (fun _ h9 => h9) (fun _ _ => rfl) dX7_newLoop_43 h (fun z14 h => ?_)
    refine lv_iconst (v := 1) hx hb dX7_newLoop_46 (by decide) ?_
    refine lq_isub hx hb dX7_newLoop_47 h (fun z15 h => ?_)
    exact hret _ _ _ _ _ _ hC h dX7_newLoop_48
  · have h := h.2 c2
    refine lv_iconst (v := -1) hx hb dX7_newLoop_10 (by decide) ?_
    exact hret _ _ _ _ _ _ hC h dX7_newLoop_11
def wp_X3_returned_12 (K : kS → Prop) (x0 : Nat) (S : kS) : Prop := hasO S x0 3 ∧ wp_X3_step x0 S (fun (S4 : kS) => hasO S4 x0 3 ∧ wq_X3_expression x0 0 S4 (fun (S5 : kS) => hasO S5 x0 3 ∧ ∀ z6 : Option Nat, z6 = S5.2.1 15 x0 → ∃ q7 : Nat, z6 = some q7 ∧ hasO S5 q7 5 ∧ ∀ z8 : Int32, z8 = S5.1 18 q7 → ∀ z9 : Int32, z9 = z8 - 1 → hasO S5 x0 3 ∧ wp_X3_emit x0 19 z9 S5 (fun (S10 : kS) (r10 : Int32) => K S10)))
def wp_X3_returned (t0 : Nat) (S : kS) (K : kS → Prop) : Prop := hasO S t0 3 ∧ ∀ z1 : Int32, z1 = S.1 10 t0 → ((z1 ≤ 0 → wp_X3_returned_12 K t0 S) ∧ (¬ z1 ≤ 0 → hasO S t0 3 ∧ wp_X3_wrong t0 1 S (fun (S3 : kS) => wp_X3_returned_12 K t0 S3)))
set_option maxHeartbeats 4000000 in
set_option maxRecDepth 100000 in
theorem kt_X3_returned (l : Launch) (S : kS) (t0 : Nat) (K : kS → Prop) (h : wp_X3_returned t0 S K) : kMv l yX3_returned cX3_returned 1 none 57 1309 [.ref t0] S K := by
  refine kv_ofv (own := RX3) (by decide) rfl (Nat.le_of_ble_eq_true rfl) ?_
  intro E p e R s m args below meth c A ls Q hRf hRl hX hC hl hret
  have hx := hX.1.1
  have hb := hX.1.2.1
  have hown := hX.1.2.2.2.1
  have hts := hX.1.2.2.2.2
  have cut12 : ∀ (x0 : Nat) (S : kS) (H : Heap) (locs : List Loc) (ls : Array Slot), wp_X3_returned_12 K x0 S → cM E A s.heap S H locs → lv_has ls 1 [(0, .ref x0)] → W p l e R s m args below meth c H locs 0 0 Q (F0 m 12 ls []) := by
    intro x0 S H locs ls h hC hl
    unfold wp_X3_returned_12 at h
    refine lv_aload_n hx hb dX3_returned_12 rfl (lv_at hl 0 rfl) ?_
    refine kv_callv [] (rest := []) (ci := 3) rfl hX hC h.1 (kt_X3_step l S x0 _ h.2 E _) (cw_X3_103 hts (by omega) (by omega)) rfl hl.1 (Nat.le_of_ble_eq_true rfl) ⟨Nat.zero_le _, Nat.zero_le _⟩ dX3_returned_13 (fun S4 H locs hC h => ?_)
    refine lv_aload_n hx hb dX3_returned_16 rfl (lv_at hl 0 rfl) ?_
    refine lv_iconst (v := 0) hx hb dX3_returned_17 (by decide) ?_
    refine kv_callv [.int 0] (rest := []) (ci := 3) rfl hX hC h.1 (kt_X3_expression l S4 x0 0 _ h.2 E _) (cw_X3_155 hts (by omega) (by omega)) rfl hl.1 (Nat.le_of_ble_eq_true rfl) ⟨Nat.zero_le _, Nat.zero_le _⟩ dX3_returned_18 (fun S5 H locs hC h => ?_)
    refine lv_aload_n hx hb dX3_returned_21 rfl (lv_at hl 0 rfl) ?_
    refine lv_bipush (v := 19) hx hb dX3_returned_22 (by decide) ?_
    refine lv_aload_n hx hb dX3_returned_24 rfl (lv_at hl 0 rfl) ?_
    refine cq_getr (ci := 3) (k := 1) (f := 15) hX hC rfl in_X3 (by decide) wd_132 (fun _ h9 => h9) (fun _ _ => rfl) dX3_returned_25 h (fun z6 h => ?_)
    obtain ⟨q7, e9, hh⟩ := h
    subst e9
    have h := hh
    clear hh
    refine cq_geti (ci := 5) (k := 5) (f := 18) hX hC rfl in_X5 (by decide) wd_414 (fun _ h9 => h9) (fun _ _ => rfl) dX3_returned_28 h (fun z8 h => ?_)
    refine lv_iconst (v := 1) hx hb dX3_returned_31 (by decide) ?_
    refine lq_isub hx hb dX3_returned_32 h (fun z9 h => ?_)
    refine kv_calli [.int 19, .int z9] (rest := []) (ci := 3) rfl hX hC h.1 (kt_X3_emit l S5 x0 19 z9 _ h.2 E _) (cw_X3_139 hts (by omega) (by omega)) rfl hl.1 (Nat.le_of_ble_eq_true rfl) ⟨Nat.zero_le _, Nat.zero_le _⟩ dX3_returned_33 (fun r10 S10 H locs hC h => ?_)
    refine lv_pop hx hb dX3_returned_36 rfl ?_
    exact hret _ _ _ _ _ hC h dX3_returned_37
  have hl : lv_has ls 1 [(0, .ref t0)] := hl
  unfold wp_X3_returned at h
  refine lv_aload_n hx hb dX3_returned_0 rfl (lv_at hl 0 rfl) ?_
  refine cq_geti (ci := 3) (k := 7) (f := 10) hX hC rfl in_X3 (by decide) wd_138 (fun _ h9 => h9) (fun _ _ => rfl) dX3_returned_1 h (fun z1 h => ?_)
  refine lv_if_le (tgt := 12) hx hb dX3_returned_4 (by decide) (fun c2 => ?_) (fun c2 => ?_)
  · have h := h.1 c2
    exact cut12 t0 S _ _ _ h hC (lv_sub hl [0] rfl)
  · have h := h.2 c2
    refine lv_aload_n hx hb dX3_returned_7 rfl (lv_at hl 0 rfl) ?_
    refine lv_iconst (v := 1) hx hb dX3_returned_8 (by decide) ?_
    refine kv_callv [.int 1] (rest := []) (ci := 3) rfl hX hC h.1 (kt_X3_wrong l S t0 1 _ h.2 E _) (cw_X3_78 hts (by omega) (by omega)) rfl hl.1 (Nat.le_of_ble_eq_true rfl) ⟨Nat.zero_le _, Nat.zero_le _⟩ dX3_returned_9 (fun S3 H locs hC h => ?_)
    exact cut12 t0 S3 _ _ _ h hC (lv_sub hl [0] rfl)
def wp_X7_mark (t0 : Nat) (a0 : Int32) (a1 : Int32) (S : kS) (K : kS → Prop) : Prop := hasO S t0 7 ∧ ∀ z1 : Option Nat, z1 = S.2.1 49 t0 → ∃ q2 : Nat, z1 = some q2 ∧ hasA S q2 460 0 ∧ inR a0 460 ∧ ∀ z3 : Int32, z3 = S.2.2.1 q2 (ix a0) → ∀ z4 : Int32, z4 = z3 ||| a1 → hasA S q2 460 0 ∧ inR a0 460 ∧ ∀ S5 : kS, S5 = cA S q2 (ix a0) z4 → K S5
set_option maxHeartbeats 4000000 in
set_option maxRecDepth 100000 in
theorem kt_X7_mark (l : Launch) (S : kS) (t0 : Nat) (a0 : Int32) (a1 : Int32) (K : kS → Prop) (h : wp_X7_mark t0 a0 a1 S K) : kMv l yX7_mark cX7_mark 3 none 0 0 [.ref t0, .int a0, .int a1] S K := by
  refine kv_ofv (own := RX7) (by decide) rfl (Nat.le_of_ble_eq_true rfl) ?_
  intro E p e R s m args below meth c A ls Q hRf hRl hX hC hl hret
  have hx := hX.1.1
  have hb := hX.1.2.1
  have hown := hX.1.2.2.2.1
  have hts := hX.1.2.2.2.2
  have hl : lv_has ls 3 [(0, .ref t0), (1, .int a0), (2, .int a1)] := hl
  unfold wp_X7_mark at h
  refine lv_aload_n hx hb dX7_mark_0 rfl (lv_at hl 0 rfl) ?_
  refine cq_getr (ci := 7) (k := 7) (f := 49) hX hC rfl in_X7 (by decide) wd_360 (fun _ h9 => h9) (fun _ _ => rfl) dX7_mark_1 h (fun z1 h => ?_)
  refine lv_iload_n hx hb dX7_mark_4 rfl (lv_at hl 1 rfl) ?_
  refine lv_dup2_11 hx hb dX7_mark_5 (by first | rfl | exact cat_o) (by first | rfl | exact cat_o) ?_
  obtain ⟨q2, e9, hh⟩ := h
  subst e9
  have h := hh
  clear hh
  refine cq_ild hX hC dX7_mark_6 h (fun z3 h => ?_)
  refine lv_iload_n hx hb dX7_mark_7 rfl (lv_at hl 2 rfl) ?_
  refine lq_ior hx hb dX7_mark_8 h (fun z4 h => ?_)
  refine cq_ist hX hC dX7_mark_9 h.1 h.2.1 h.2.2 (fun S5 H locs hC h => ?_)
  exact hret _ _ _ _ _ hC h dX7_mark_10
def wp_X7_newTry_48 (K : kS → Int32 → Prop) (x0 : Nat) (x2 : Int32) (y0 : Option Nat) (y1 : Int32) (y2 : Int32) (S : kS) : Prop := ∃ q15 : Nat, y0 = some q15 ∧ hasA S q15 460 0 ∧ inR y1 460 ∧ ∀ S16 : kS, S16 = cA S q15 (ix y1) y2 → hasO S16 x0 7 ∧ ∀ z17 : Option Nat, z17 = S16.2.1 45 x0 → hasO S16 x0 7 ∧ ∀ z18 : Int32, z18 = S16.1 24 x0 → ∃ q19 : Nat, z17 = some q19 ∧ hasA S16 q19 460 0 ∧ inR z18 460 ∧ ∀ S20 : kS, S20 = cA S16 q19 (ix z18) x2 → hasO S20 x0 7 ∧ ∀ z21 : Option Nat, z21 = S20.2.1 49 x0 → hasO S20 x0 7 ∧ ∀ z22 : Int32, z22 = S20.1 24 x0 → ∃ q23 : Nat, z21 = some q23 ∧ hasA S20 q23 460 0 ∧ inR z22 460 ∧ ∀ S24 : kS, S24 = cA S20 q23 (ix z22) 0 → hasO S24 x0 7 ∧ ∀ z25 : Int32, z25 = S24.1 24 x0 → ∀ z26 : Int32, z26 = z25 + 1 → hasO S24 x0 7 ∧ ∀ S27 : kS, S27 = cI S24 24 x0 z26 → hasO S27 x0 7 ∧ ∀ z28 : Int32, z28 = S27.1 24 x0 → ∀ z29 : Int32, z29 = z28 - 1 → K S27 z29
def wp_X7_newTry (t0 : Nat) (a0 : Int32) (a1 : Int32) (S : kS) (K : kS → Int32 → Prop) : Prop := hasO S t0 7 ∧ ∀ z1 : Int32, z1 = S.1 24 t0 → ((z1 < 460 → hasO S t0 7 ∧ ∀ z3 : Option Nat, z3 = S.2.1 43 t0 → hasO S t0 7 ∧ ∀ z4 : Int32, z4 = S.1 24 t0 → ∃ q5 : Nat, z3 = some q5 ∧ hasA S q5 460 0 ∧ inR z4 460 ∧ ∀ S6 : kS, S6 = cA S q5 (ix z4) a0 → hasO S6 t0 7 ∧ ∀ z7 : Option Nat, z7 = S6.2.1 44 t0 → hasO S6 t0 7 ∧ ∀ z8 : Int32, z8 = S6.1 24 t0 → ((0 ≤ a0 → hasO S6 t0 7 ∧ ∀ z10 : Option Nat, z10 = S6.2.1 44 t0 → ¬ (3 : Int32) = 0 ∧ ∀ z11 : Int32, z11 = a0 / 3 → ∃ q12 : Nat, z10 = some q12 ∧ hasA S6 q12 460 0 ∧ inR z11 460 ∧ ∀ z13 : Int32, z13 = S6.2.2.1 q12 (ix z11) → ∀ z14 : Int32, z14 = z13 + 1 → wp_X7_newTry_48 K t0 a1 z7 z8 z14 S6) ∧ (¬ 0 ≤ a0 → wp_X7_newTry_48 K t0 a1 z7 z8 0 S6))) ∧ (¬ z1 < 460 → K S (-1)))
set_option maxHeartbeats 4000000 in
set_option maxRecDepth 100000 in
theorem kt_X7_newTry (l : Launch) (S : kS) (t0 : Nat) (a0 : Int32) (a1 : Int32) (K : kS → Int32 → Prop) (h : wp_X7_newTry t0 a0 a1 S K) : kMi l yX7_newTry cX7_newTry 3 (some .int) 0 0 [.ref t0, .int a0, .int a1] S K := by
  refine kv_ofi (own := RX7) (by decide) rfl (Nat.le_of_ble_eq_true rfl) ?_
  intro E p e R s m args below meth c A ls Q hRf hRl hX hC hl hret
  have hx := hX.1.1
  have hb := hX.1.2.1
  have hown := hX.1.2.2.2.1
  have hts := hX.1.2.2.2.2
  have cut48 : ∀ (x0 : Nat) (x2 : Int32) (y0 : Option Nat) (y1 : Int32) (y2 : Int32) (S : kS) (H : Heap) (locs : List Loc) (ls : Array Slot), wp_X7_newTry_48 K x0 x2 y0 y1 y2 S → cM E A s.heap S H locs → lv_has ls 3 [(0, .ref x0), (2, .int x2)] → W p l e R s m args below meth c H locs 0 0 Q (F0 m 48 ls [.int y2, .int y1, va_rf y0]) := by
    intro x0 x2 y0 y1 y2 S H locs ls h hC hl
    unfold wp_X7_newTry_48 at h
    obtain ⟨q15, e9, hh⟩ := h
    subst e9
    have h := hh
    clear hh
    refine cq_ist hX hC dX7_newTry_48 h.1 h.2.1 h.2.2 (fun S16 H locs hC h => ?_)
    refine lv_aload_n hx hb dX7_newTry_49 rfl (lv_at hl 0 rfl) ?_
    refine cq_getr (ci := 7) (k := 3) (f := 45) hX hC rfl in_X7 (by decide) wd_347 (fun _ h9 => h9) (fun _ _ => rfl) dX7_newTry_50 h (fun z17 h => ?_)
    refine lv_aload_n hx hb dX7_newTry_53 rfl (lv_at hl 0 rfl) ?_
    refine cq_geti (ci := 7) (k := 0) (f := 24) hX hC rfl in_X7 (by decide) wd_341 (fun _ h9 => h9) (fun _ _ => rfl) dX7_newTry_54 h (fun z18 h => ?_)
    refine lv_iload_n hx hb dX7_newTry_57 rfl (lv_at hl 1 rfl) ?_
    obtain ⟨q19, e9, hh⟩ := h
    subst e9
    have h := hh
    clear hh
    refine cq_ist hX hC dX7_newTry_58 h.1 h.2.1 h.2.2 (fun S20 H locs hC h => ?_)
    refine lv_aload_n hx hb dX7_newTry_59 rfl (lv_at hl 0 rfl) ?_
    refine cq_getr (ci := 7) (k := 7) (f := 49) hX hC rfl in_X7 (by decide) wd_360 (fun _ h9 => h9) (fun _ _ => rfl) dX7_newTry_60 h (fun z21 h => ?_)
    refine lv_aload_n hx hb dX7_newTry_63 rfl (lv_at hl 0 rfl) ?_
    refine cq_geti (ci := 7) (k := 0) (f := 24) hX hC rfl in_X7 (by decide) wd_341 (fun _ h9 => h9) (fun _ _ => rfl) dX7_newTry_64 h (fun z22 h => ?_)
    refine lv_iconst (v := 0) hx hb dX7_newTry_67 (by decide) ?_
    obtain ⟨q23, e9, hh⟩ := h
    subst e9
    have h := hh
    clear hh
    refine cq_ist hX hC dX7_newTry_68 h.1 h.2.1 h.2.2 (fun S24 H locs hC h => ?_)
    refine lv_aload_n hx hb dX7_newTry_69 rfl (lv_at hl 0 rfl) ?_
    refine lv_dup hx hb dX7_newTry_70 rfl ?_
    refine cq_geti (ci := 7) (k := 0) (f := 24) hX hC rfl in_X7 (by decide) wd_341 (fun _ h9 => h9) (fun _ _ => rfl) dX7_newTry_71 h (fun z25 h => ?_)
    refine lv_iconst (v := 1) hx hb dX7_newTry_74 (by decide) ?_
    refine lq_iadd hx hb dX7_newTry_75 h (fun z26 h => ?_)
    refine cq_puti (v := z26) (ci := 7) (k := 0) (f := 24) hX hC rfl in_X7 (by decide) wd_341 (fun _ h9 => h9) tyX7 tyX7_ok nmX7 rfl rfl rfl (fun _ _ => Nat.le_of_ble_eq_true rfl) (fun _ _ _ => rfl) dX7_newTry_76 h.1 h.2 (fun S27 H locs hC h => ?_)
    refine lv_aload_n hx hb dX7_newTry_79 rfl (lv_at hl 0 rfl) ?_
    refine cq_geti (ci := 7) (k := 0) (f := 24) hX hC rfl in_X7 (by decide) wd_341 (fun _ h9 => h9) (fun _ _ => rfl) dX7_newTry_80 h (fun z28 h => ?_)
    refine lv_iconst (v := 1) hx hb dX7_newTry_83 (by decide) ?_
    refine lq_isub hx hb dX7_newTry_84 h (fun z29 h => ?_)
    exact hret _ _ _ _ _ _ hC h dX7_newTry_85
  have hl : lv_has ls 3 [(0, .ref t0), (1, .int a0), (2, .int a1)] := hl
  unfold wp_X7_newTry at h
  refine lv_aload_n hx hb dX7_newTry_0 rfl (lv_at hl 0 rfl) ?_
  refine cq_geti (ci := 7) (k := 0) (f := 24) hX hC rfl in_X7 (by decide) wd_341 (fun _ h9 => h9) (fun _ _ => rfl) dX7_newTry_1 h (fun z1 h => ?_)
  refine lv_sipush (v := 460) hx hb dX7_newTry_4 (by decide) ?_
  refine lv_icmp_lt (tgt := 12) hx hb dX7_newTry_7 (by decide) (fun c2 => ?_) (fun c2 => ?_)
  · have h := h.1 c2
    refine lv_aload_n hx hb dX7_newTry_12 rfl (lv_at hl 0 rfl) ?_
    refine cq_getr (ci := 7) (k := 1) (f := 43) hX hC rfl in_X7 (by decide) wd_342 (fun _ h9 => h9) (fun _ _ => rfl) dX7_newTry_13 h (fun z3 h => ?_)
    refine lv_aload_n hx hb dX7_newTry_16 rfl (lv_at hl 0 rfl) ?_
    refine cq_geti (ci := 7) (k := 0) (f := 24) hX hC rfl in_X7 (by decide) wd_341 (fun _ h9 => h9) (fun _ _ => rfl) dX7_newTry_17 h (fun z4 h => ?_)
    refine lv_iload_n hx hb dX7_newTry_20 rfl (lv_at hl 1 rfl) ?_
    obtain ⟨q5, e9, hh⟩ := h
    subst e9
    have h := hh
    clear hh
    refine cq_ist hX hC dX7_newTry_21 h.1 h.2.1 h.2.2 (fun S6 H locs hC h => ?_)
    refine lv_aload_n hx hb dX7_newTry_22 rfl (lv_at hl 0 rfl) ?_
    refine cq_getr (ci := 7) (k := 2) (f := 44) hX hC rfl in_X7 (by decide) wd_345 (fun _ h9 => h9) (fun _ _ => rfl) dX7_newTry_23 h (fun z7 h => ?_)
    refine lv_aload_n hx hb dX7_newTry_26 rfl (lv_at hl 0 rfl) ?_
    refine cq_geti (ci := 7) (k := 0) (f := 24) hX hC rfl in_X7 (by decide) wd_341 (fun _ h9 => h9) (fun _ _ => rfl) dX7_newTry_27 h (fun z8 h => ?_)
    refine lv_iload_n hx hb dX7_newTry_30 rfl (lv_at hl 1 rfl) ?_
    refine lv_if_ge (tgt := 38) hx hb dX7_newTry_31 (by decide) (fun c9 => ?_) (fun c9 => ?_)
    · have h := h.1 c9
      refine lv_aload_n hx hb dX7_newTry_38 rfl (lv_at hl 0 rfl) ?_
      refine cq_getr (ci := 7) (k := 2) (f := 44) hX hC rfl in_X7 (by decide) wd_345 (fun _ h9 => h9) (fun _ _ => rfl) dX7_newTry_39 h (fun z10 h => ?_)
      refine lv_iload_n hx hb dX7_newTry_42 rfl (lv_at hl 1 rfl) ?_
      refine lv_iconst (v := 3) hx hb dX7_newTry_43 (by decide) ?_
      refine lq_idiv hx hb dX7_newTry_44 h (fun z11 h => ?_)
      obtain ⟨q12, e9, hh⟩ := h
      subst e9
      have h := hh
      clear hh
      refine cq_ild hX hC dX7_newTry_45 h (fun z13 h => ?_)
      refine lv_iconst (v := 1) hx hb dX7_newTry_46 (by decide) ?_
      refine lq_iadd hx hb dX7_newTry_47 h (fun z14 h => ?_)
      exact cut48 t0 a1 z7 z8 z14 S6 _ _ _ h hC (lv_sub hl [0, 2] rfl)
    · have h := h.2 c9
      refine lv_iconst (v := 0) hx hb dX7_newTry_34 (by decide) ?_
      refine lv_goto (tgt := 48) hx hb dX7_newTry_35 (by decide) ?_
      exact cut48 t0 a1 z7 z8 0 S6 _ _ _ h hC (lv_sub hl [0, 2] rfl)
  · have h := h.2 c2
    refine lv_iconst (v := -1) hx hb dX7_newTry_10 (by decide) ?_
    exact hret _ _ _ _ _ _ hC h dX7_newTry_11
def wp_X3_finished (r_X3_block : Nat → Int32 → kS → (kS → Prop) → Prop) (t0 : Nat) (a0 : Int32) (a1 : Int32) (S : kS) (K : kS → Prop) : Prop := hasO S t0 3 ∧ ∀ z1 : Int32, z1 = S.1 9 t0 → hasO S t0 3 ∧ ∀ S2 : kS, S2 = cI S 9 t0 (-1) → hasO S2 t0 3 ∧ ∀ z3 : Int32, z3 = S2.1 10 t0 → ∀ z4 : Int32, z4 = z3 + 1 → hasO S2 t0 3 ∧ ∀ S5 : kS, S5 = cI S2 10 t0 z4 → hasO S5 t0 3 ∧ ∀ z6 : Option Nat, z6 = S5.2.1 16 t0 → ∃ q7 : Nat, z6 = some q7 ∧ hasO S5 q7 7 ∧ ∀ z8 : Option Nat, z8 = S5.2.1 47 q7 → hasO S5 t0 3 ∧ ∀ z9 : Option Nat, z9 = S5.2.1 15 t0 → ∃ q10 : Nat, z9 = some q10 ∧ hasO S5 q10 5 ∧ ∀ z11 : Int32, z11 = S5.1 17 q10 → ∃ q12 : Nat, z8 = some q12 ∧ hasA S5 q12 460 0 ∧ inR a1 460 ∧ ∀ S13 : kS, S13 = cA S5 q12 (ix a1) z11 → hasO S13 t0 3 ∧ r_X3_block t0 a0 S13 (fun (S14 : kS) => hasO S14 t0 3 ∧ wp_X3_emit t0 23 a1 S14 (fun (S15 : kS) (r15 : Int32) => hasO S15 t0 3 ∧ ∀ z16 : Int32, z16 = S15.1 10 t0 → ∀ z17 : Int32, z17 = z16 - 1 → hasO S15 t0 3 ∧ ∀ S18 : kS, S18 = cI S15 10 t0 z17 → hasO S18 t0 3 ∧ ∀ S19 : kS, S19 = cI S18 9 t0 z1 → K S19))
theorem cw_X3_71 {R : Room} {s : State} {args : Array Value} {fr lo : Nat} (hts : ∀ w ∈ tb, w.before args s = true) (h1 : fr + 1 ≤ R.frames) (h2 : 8 + (3 + 11) + lo ≤ R.locals) : CallW R s args RX3 RX3 71 yX3_block cX3_block 3 none (.code yX3_block cX3_block 3 none :: tb) (mRm fr lo) 0 0 1 := cwV 1 hts (gd_V wd_656 wd_658 sl_X3_block wd_7 wd_659) rfl rfl rfl (by decide +kernel) ⟨h1, h2⟩
set_option maxHeartbeats 4000000 in
set_option maxRecDepth 100000 in
theorem ko_X3_finished (l : Launch) (fr lo F Lo : Nat) (r_X3_block : Nat → Int32 → kS → (kS → Prop) → Prop) (hr_X3_block : ∀ (t0 : Nat) (a0 : Int32) (S : kS) (K : kS → Prop), r_X3_block t0 a0 S K → kMv l yX3_block cX3_block 3 none fr lo [.ref t0, .int a0] S K) (hF : fr + 1 ≤ F) (hL : lo + 22 ≤ Lo) (hF0 : 2 ≤ F) (hL0 : 45 ≤ Lo) (S : kS) (t0 : Nat) (a0 : Int32) (a1 : Int32) (K : kS → Prop) (h : wp_X3_finished r_X3_block t0 a0 a1 S K) : kMv l yX3_finished cX3_finished 4 none F Lo [.ref t0, .int a0, .int a1] S K := by
  refine kv_ofv (own := RX3) (by decide) rfl (Nat.le_of_ble_eq_true rfl) ?_
  intro E p e R s m args below meth c A ls Q hRf hRl hX hC hl hret
  have hx := hX.1.1
  have hb := hX.1.2.1
  have hown := hX.1.2.2.2.1
  have hts := hX.1.2.2.2.2
  have hl : lv_has ls 4 [(0, .ref t0), (1, .int a0), (2, .int a1)] := hl
  unfold wp_X3_finished at h
  refine lv_aload_n hx hb dX3_finished_0 rfl (lv_at hl 0 rfl) ?_
  refine cq_geti (ci := 3) (k := 6) (f := 9) hX hC rfl in_X3 (by decide) wd_137 (fun _ h9 => h9) (fun _ _ => rfl) dX3_finished_1 h (fun z1 h => ?_)
  refine lv_istore_n (lv' := [(3, .int z1), (0, .ref t0), (1, .int a0), (2, .int a1)]) hx hb dX3_finished_4 rfl hl (by decide) rfl (fun ls hl => ?_)
  refine lv_aload_n hx hb dX3_finished_5 rfl (lv_at hl 1 rfl) ?_
  refine lv_iconst (v := -1) hx hb dX3_finished_6 (by decide) ?_
  refine cq_puti (v := -1) (ci := 3) (k := 6) (f := 9) hX hC rfl in_X3 (by decide) wd_137 (fun _ h9 => h9) tyX3 tyX3_ok nmX3 rfl rfl rfl (fun _ _ => Nat.le_of_ble_eq_true rfl) (fun _ _ _ => rfl) dX3_finished_7 h.1 h.2 (fun S2 H locs hC h => ?_)
  refine lv_aload_n hx hb dX3_finished_10 rfl (lv_at hl 1 rfl) ?_
  refine lv_dup hx hb dX3_finished_11 rfl ?_
  refine cq_geti (ci := 3) (k := 7) (f := 10) hX hC rfl in_X3 (by decide) wd_138 (fun _ h9 => h9) (fun _ _ => rfl) dX3_finished_12 h (fun z3 h => ?_)
  refine lv_iconst (v := 1) hx hb dX3_finished_15 (by decide) ?_
  refine lq_iadd hx hb dX3_finished_16 h (fun z4 h => ?_)
  refine cq_puti (v := z4) (ci := 3) (k := 7) (f := 10) hX hC rfl in_X3 (by decide) wd_138 (fun _ h9 => h9) tyX3 tyX3_ok nmX3 rfl rfl rfl (fun _ _ => Nat.le_of_ble_eq_true rfl) (fun _ _ _ => rfl) dX3_finished_17 h.1 h.2 (fun S5 H locs hC h => ?_)
  refine lv_aload_n hx hb dX3_finished_20 rfl (lv_at hl 1 rfl) ?_
  refine cq_getr (ci := 3) (k := 2) (f := 16) hX hC rfl in_X3 (by decide) wd_133 (fun _ h9 => h9) (fun _ _ => rfl) dX3_finished_21 h (fun z6 h => ?_)
  obtain ⟨q7, e9, hh⟩ := h
  subst e9
  have h := hh
  clear hh
  refine cq_getr (ci := 7) (k := 5) (f := 47) hX hC rfl in_X7 (by decide) wd_355 (fun _ h9 => h9) (fun _ _ => rfl) dX3_finished_24 h (fun z8 h => ?_)
  refine lv_iload_n hx hb dX3_finished_27 rfl (lv_at hl 3 rfl) ?_
  refine lv_aload_n hx hb dX3_finished_28 rfl (lv_at hl 1 rfl) ?_
  refine cq_getr (ci := 3) (k := 1) (f := 15) hX hC rfl in_X3 (by decide) wd_132 (fun _ h9 => h9) (fun _ _ => rfl) dX3_finished_29 h (fun z9 h => ?_)
  obtain ⟨q10, e9, hh⟩ := h
  subst e9
  have h := hh
  clear hh
  refine cq_geti (ci := 5) (k := 0) (f := 17) hX hC rfl in_X5 (by decide) wd_398 (fun _ h9 => h9) (fun _ _ => rfl) dX3_finished_32 h (fun z11 h => ?_)
  obtain ⟨q12, e9, hh⟩ := h
  subst e9
  have h := hh
  clear hh
  refine cq_ist hX hC dX3_finished_35 h.1 h.2.1 h.2.2 (fun S13 H locs hC h => ?_)
  refine lv_aload_n hx hb dX3_finished_36 rfl (lv_at hl 1 rfl) ?_
  refine lv_iload_n hx hb dX3_finished_37 rfl (lv_at hl 2 rfl) ?_
  refine kv_callv [.int a0] (rest := []) (ci := 3) rfl hX hC h.1 (hr_X3_block t0 a0 S13 _ h.2 E _) (cw_X3_71 hts (by omega) (by omega)) rfl hl.1 (Nat.le_of_ble_eq_true rfl) ⟨Nat.zero_le _, Nat.zero_le _⟩ dX3_finished_38 (fun S14 H locs hC h => ?_)
  refine lv_aload_n hx hb dX3_finished_41 rfl (lv_at hl 1 rfl) ?_
  refine lv_bipush (v := 23) hx hb dX3_finished_42 (by decide) ?_
  refine lv_iload_n hx hb dX3_finished_44 rfl (lv_at hl 3 rfl) ?_
  refine kv_calli [.int 23, .int a1] (rest := []) (ci := 3) rfl hX hC h.1 (kt_X3_emit l S14 t0 23 a1 _ h.2 E _) (cw_X3_139 hts (by omega) (by omega)) rfl hl.1 (Nat.le_of_ble_eq_true rfl) ⟨Nat.zero_le _, Nat.zero_le _⟩ dX3_finished_45 (fun r15 S15 H locs hC h => ?_)
  refine lv_pop hx hb dX3_finished_48 rfl ?_
  refine lv_aload_n hx hb dX3_finished_49 rfl (lv_at hl 1 rfl) ?_
  refine lv_dup hx hb dX3_finished_50 rfl ?_
  refine cq_geti (ci := 3) (k := 7) (f := 10) hX hC rfl in_X3 (by decide) wd_138 (fun _ h9 => h9) (fun _ _ => rfl) dX3_finished_51 h (fun z16 h => ?_)
  refine lv_iconst (v := 1) hx hb dX3_finished_54 (by decide) ?_
  refine lq_isub hx hb dX3_finished_55 h (fun z17 h => ?_)
  refine cq_puti (v := z17) (ci := 3) (k := 7) (f := 10) hX hC rfl in_X3 (by decide) wd_138 (fun _ h9 => h9) tyX3 tyX3_ok nmX3 rfl rfl rfl (fun _ _ => Nat.le_of_ble_eq_true rfl) (fun _ _ _ => rfl) dX3_finished_56 h.1 h.2 (fun S18 H locs hC h => ?_)
  refine lv_aload_n hx hb dX3_finished_59 rfl (lv_at hl 1 rfl) ?_
  refine lv_iload_n hx hb dX3_finished_60 rfl (lv_at hl 0 rfl) ?_
  refine cq_puti (v := z1) (ci := 3) (k := 6) (f := 9) hX hC rfl in_X3 (by decide) wd_137 (fun _ h9 => h9) tyX3 tyX3_ok nmX3 rfl rfl rfl (fun _ _ => Nat.le_of_ble_eq_true rfl) (fun _ _ _ => rfl) dX3_finished_61 h.1 h.2 (fun S19 H locs hC h => ?_)
  exact hret _ _ _ _ _ hC h dX3_finished_64
