theorem wd_2 : (Jvm.Cond.initialized "Sleepers$Tokens") ∈ tb := tb_at 2 (by decide +kernel) (by decide +kernel)
theorem wd_9 : (Jvm.Cond.initialized "Sleepers$Hall") ∈ tb := tb_at 9 (by decide +kernel) (by decide +kernel)
theorem wd_13 : (Jvm.Cond.initialized "Sleepers$Program") ∈ tb := tb_at 13 (by decide +kernel) (by decide +kernel)
theorem wd_94 : (Jvm.Cond.fieldLink "Sleepers$Tokens" (9 : Nat) "Sleepers$Tokens" "kind" "[I") ∈ tb := tb_at 94 (by decide +kernel) (by decide +kernel)
theorem wd_96 : (Jvm.Cond.fieldLink "Sleepers$Tokens" (15 : Nat) "Sleepers$Tokens" "place" "[I") ∈ tb := tb_at 96 (by decide +kernel) (by decide +kernel)
theorem wd_98 : (Jvm.Cond.fieldLink "Sleepers$Tokens" (18 : Nat) "Sleepers$Tokens" "value" "[J") ∈ tb := tb_at 98 (by decide +kernel) (by decide +kernel)
theorem wd_100 : (Jvm.Cond.fieldLink "Sleepers$Tokens" (49 : Nat) "Sleepers$Tokens" "count" "I") ∈ tb := tb_at 100 (by decide +kernel) (by decide +kernel)
theorem wd_103 : (Jvm.Cond.fieldLink "Sleepers$Tokens" (45 : Nat) "Sleepers$Tokens" "signs" "I") ∈ tb := tb_at 103 (by decide +kernel) (by decide +kernel)
theorem wd_527 : (Jvm.Cond.methodLink "Sleepers$Tokens" (71 : Nat) ({ cls := "Sleepers$Tokens", name := "keep", desc := "(IIJ)V" } : Jvm.MethodName)) ∈ tb := tb_at 527 (by decide +kernel) (by decide +kernel)
theorem wd_529 : (Jvm.Cond.instanceMethod ({ cls := "Sleepers$Tokens", name := "keep", desc := "(IIJ)V" } : Jvm.MethodName)) ∈ tb := tb_at 529 (by decide +kernel) (by decide +kernel)
theorem wd_530 : (Jvm.Cond.code ({ cls := "Sleepers$Tokens", name := "keep", desc := "(IIJ)V" } : Jvm.MethodName) prog_12_method_8_code (5 : Nat) (Option.none : Option Jvm.ClassFile.FieldType)) ∈ tb := tb_at 530 (by decide +kernel) (by decide +kernel)
theorem wd_648 : (Jvm.Cond.methodLink "Sleepers$Program" (63 : Nat) ({ cls := "Sleepers$Program", name := "has", desc := "(I)Z" } : Jvm.MethodName)) ∈ tb := tb_at 648 (by decide +kernel) (by decide +kernel)
theorem wd_649 : (Jvm.Cond.instanceMethod ({ cls := "Sleepers$Program", name := "has", desc := "(I)Z" } : Jvm.MethodName)) ∈ tb := tb_at 649 (by decide +kernel) (by decide +kernel)
theorem wd_650 : (Jvm.Cond.selects "Sleepers$Program" ({ cls := "Sleepers$Program", name := "has", desc := "(I)Z" } : Jvm.MethodName) ({ cls := "Sleepers$Program", name := "has", desc := "(I)Z" } : Jvm.MethodName)) ∈ tb := tb_at 650 (by decide +kernel) (by decide +kernel)
theorem wd_651 : (Jvm.Cond.code ({ cls := "Sleepers$Program", name := "has", desc := "(I)Z" } : Jvm.MethodName) prog_7_method_3_code (2 : Nat) (Option.some Jvm.ClassFile.FieldType.boolean)) ∈ tb := tb_at 651 (by decide +kernel) (by decide +kernel)
theorem wd_965 : (Jvm.Cond.methodLink "Sleepers$Runner" (26 : Nat) ({ cls := "Sleepers$Hall", name := "leaveRow", desc := "(I)LSleepers$Task;" } : Jvm.MethodName)) ∈ tb := tb_at 965 (by decide +kernel) (by decide +kernel)
theorem wd_966 : (Jvm.Cond.instanceMethod ({ cls := "Sleepers$Hall", name := "leaveRow", desc := "(I)LSleepers$Task;" } : Jvm.MethodName)) ∈ tb := tb_at 966 (by decide +kernel) (by decide +kernel)
theorem wd_967 : (Jvm.Cond.selects "Sleepers$Hall" ({ cls := "Sleepers$Hall", name := "leaveRow", desc := "(I)LSleepers$Task;" } : Jvm.MethodName) ({ cls := "Sleepers$Hall", name := "leaveRow", desc := "(I)LSleepers$Task;" } : Jvm.MethodName)) ∈ tb := tb_at 967 (by decide +kernel) (by decide +kernel)
theorem wd_968 : (Jvm.Cond.code ({ cls := "Sleepers$Hall", name := "leaveRow", desc := "(I)LSleepers$Task;" } : Jvm.MethodName) prog_3_method_7_code (4 : Nat) (Option.some (Jvm.ClassFile.FieldType.object "Sleepers$Task"))) ∈ tb := tb_at 968 (by decide +kernel) (by decide +kernel)
theorem wd_1240 : (Jvm.Cond.methodLink "Sleepers$Hall" (194 : Nat) ({ cls := "Sleepers$Hall", name := "has", desc := "(I)Z" } : Jvm.MethodName)) ∈ tb := tb_at 1240 (by decide +kernel) (by decide +kernel)
theorem wd_1241 : (Jvm.Cond.instanceMethod ({ cls := "Sleepers$Hall", name := "has", desc := "(I)Z" } : Jvm.MethodName)) ∈ tb := tb_at 1241 (by decide +kernel) (by decide +kernel)
theorem wd_1242 : (Jvm.Cond.selects "Sleepers$Hall" ({ cls := "Sleepers$Hall", name := "has", desc := "(I)Z" } : Jvm.MethodName) ({ cls := "Sleepers$Hall", name := "has", desc := "(I)Z" } : Jvm.MethodName)) ∈ tb := tb_at 1242 (by decide +kernel) (by decide +kernel)
theorem wd_1243 : (Jvm.Cond.code ({ cls := "Sleepers$Hall", name := "has", desc := "(I)Z" } : Jvm.MethodName) prog_3_method_3_code (2 : Nat) (Option.some Jvm.ClassFile.FieldType.boolean)) ∈ tb := tb_at 1243 (by decide +kernel) (by decide +kernel)
theorem sl_X10_keep : Cond.selects RX10 yX10_keep yX10_keep ∈ tb := sl_of (y := ⟨"Sleepers$Tokens", "keep", "(IIJ)V"⟩) (n := 7) (by decide +kernel) (by decide +kernel)
theorem dX0_tell_0 : decode cX0_tell 0 = .ok (.iload_n 1, 1) := by decide +kernel
theorem dX0_tell_1 : decode cX0_tell 1 = .ok (.ifCond .lt 27, 3) := by decide +kernel
theorem dX0_tell_4 : decode cX0_tell 4 = .ok (.iload_n 1, 1) := by decide +kernel
theorem dX0_tell_5 : decode cX0_tell 5 = .ok (.aload_n 0, 1) := by decide +kernel
theorem dX0_tell_6 : decode cX0_tell 6 = .ok (.getfield 18, 3) := by decide +kernel
theorem dX0_tell_9 : decode cX0_tell 9 = .ok (.if_icmp .ge 19, 3) := by decide +kernel
theorem dX0_tell_12 : decode cX0_tell 12 = .ok (.iload_n 1, 1) := by decide +kernel
theorem dX0_tell_13 : decode cX0_tell 13 = .ok (.sipush 300, 3) := by decide +kernel
theorem dX0_tell_16 : decode cX0_tell 16 = .ok (.if_icmp .ge 12, 3) := by decide +kernel
theorem dX0_tell_19 : decode cX0_tell 19 = .ok (.iload_n 2, 1) := by decide +kernel
theorem dX0_tell_20 : decode cX0_tell 20 = .ok (.ifCond .lt 8, 3) := by decide +kernel
theorem dX0_tell_23 : decode cX0_tell 23 = .ok (.iload_n 2, 1) := by decide +kernel
theorem dX0_tell_24 : decode cX0_tell 24 = .ok (.iconst 1, 1) := by decide +kernel
theorem dX0_tell_25 : decode cX0_tell 25 = .ok (.if_icmp .le 5, 3) := by decide +kernel
theorem dX0_tell_28 : decode cX0_tell 28 = .ok (.iconst (-1), 1) := by decide +kernel
theorem dX0_tell_29 : decode cX0_tell 29 = .ok (.ireturn, 1) := by decide +kernel
theorem dX0_tell_30 : decode cX0_tell 30 = .ok (.iload_n 2, 1) := by decide +kernel
theorem dX0_tell_31 : decode cX0_tell 31 = .ok (.ifCond .ne 12, 3) := by decide +kernel
theorem dX0_tell_34 : decode cX0_tell 34 = .ok (.aload_n 0, 1) := by decide +kernel
theorem dX0_tell_35 : decode cX0_tell 35 = .ok (.getfield 9, 3) := by decide +kernel
theorem dX0_tell_38 : decode cX0_tell 38 = .ok (.iload_n 1, 1) := by decide +kernel
theorem dX0_tell_39 : decode cX0_tell 39 = .ok (.iaload, 1) := by decide +kernel
theorem dX0_tell_40 : decode cX0_tell 40 = .ok (.goto 9, 3) := by decide +kernel
theorem dX0_tell_43 : decode cX0_tell 43 = .ok (.aload_n 0, 1) := by decide +kernel
theorem dX0_tell_44 : decode cX0_tell 44 = .ok (.getfield 15, 3) := by decide +kernel
theorem dX0_tell_47 : decode cX0_tell 47 = .ok (.iload_n 1, 1) := by decide +kernel
theorem dX0_tell_48 : decode cX0_tell 48 = .ok (.iaload, 1) := by decide +kernel
theorem dX0_tell_49 : decode cX0_tell 49 = .ok (.ireturn, 1) := by decide +kernel
theorem dX10_keep_0 : decode cX10_keep 0 = .ok (.aload_n 0, 1) := by decide +kernel
theorem dX10_keep_1 : decode cX10_keep 1 = .ok (.getfield 49, 3) := by decide +kernel
theorem dX10_keep_4 : decode cX10_keep 4 = .ok (.sipush 4001, 3) := by decide +kernel
theorem dX10_keep_7 : decode cX10_keep 7 = .ok (.if_icmp .ge 43, 3) := by decide +kernel
theorem dX10_keep_10 : decode cX10_keep 10 = .ok (.aload_n 0, 1) := by decide +kernel
theorem dX10_keep_11 : decode cX10_keep 11 = .ok (.getfield 9, 3) := by decide +kernel
theorem dX10_keep_14 : decode cX10_keep 14 = .ok (.aload_n 0, 1) := by decide +kernel
theorem dX10_keep_15 : decode cX10_keep 15 = .ok (.getfield 49, 3) := by decide +kernel
theorem dX10_keep_18 : decode cX10_keep 18 = .ok (.iload_n 1, 1) := by decide +kernel
theorem dX10_keep_19 : decode cX10_keep 19 = .ok (.iastore, 1) := by decide +kernel
theorem dX10_keep_20 : decode cX10_keep 20 = .ok (.aload_n 0, 1) := by decide +kernel
theorem dX10_keep_21 : decode cX10_keep 21 = .ok (.getfield 15, 3) := by decide +kernel
theorem dX10_keep_24 : decode cX10_keep 24 = .ok (.aload_n 0, 1) := by decide +kernel
theorem dX10_keep_25 : decode cX10_keep 25 = .ok (.getfield 49, 3) := by decide +kernel
theorem dX10_keep_28 : decode cX10_keep 28 = .ok (.iload_n 2, 1) := by decide +kernel
theorem dX10_keep_29 : decode cX10_keep 29 = .ok (.iastore, 1) := by decide +kernel
theorem dX10_keep_30 : decode cX10_keep 30 = .ok (.aload_n 0, 1) := by decide +kernel
theorem dX10_keep_31 : decode cX10_keep 31 = .ok (.getfield 18, 3) := by decide +kernel
theorem dX10_keep_34 : decode cX10_keep 34 = .ok (.aload_n 0, 1) := by decide +kernel
theorem dX10_keep_35 : decode cX10_keep 35 = .ok (.getfield 49, 3) := by decide +kernel
theorem dX10_keep_38 : decode cX10_keep 38 = .ok (.lload_n 3, 1) := by decide +kernel
theorem dX10_keep_39 : decode cX10_keep 39 = .ok (.lastore, 1) := by decide +kernel
theorem dX10_keep_40 : decode cX10_keep 40 = .ok (.aload_n 0, 1) := by decide +kernel
theorem dX10_keep_41 : decode cX10_keep 41 = .ok (.dup, 1) := by decide +kernel
theorem dX10_keep_42 : decode cX10_keep 42 = .ok (.getfield 49, 3) := by decide +kernel
theorem dX10_keep_45 : decode cX10_keep 45 = .ok (.iconst 1, 1) := by decide +kernel
theorem dX10_keep_46 : decode cX10_keep 46 = .ok (.iadd, 1) := by decide +kernel
theorem dX10_keep_47 : decode cX10_keep 47 = .ok (.putfield 49, 3) := by decide +kernel
theorem dX10_keep_50 : decode cX10_keep 50 = .ok (.return_, 1) := by decide +kernel
theorem dX10_onlyWord_0 : decode cX10_onlyWord 0 = .ok (.aload_n 0, 1) := by decide +kernel
theorem dX10_onlyWord_1 : decode cX10_onlyWord 1 = .ok (.getfield 49, 3) := by decide +kernel
theorem dX10_onlyWord_4 : decode cX10_onlyWord 4 = .ok (.iconst 2, 1) := by decide +kernel
theorem dX10_onlyWord_5 : decode cX10_onlyWord 5 = .ok (.if_icmp .ne 22, 3) := by decide +kernel
theorem dX10_onlyWord_8 : decode cX10_onlyWord 8 = .ok (.aload_n 0, 1) := by decide +kernel
theorem dX10_onlyWord_9 : decode cX10_onlyWord 9 = .ok (.getfield 9, 3) := by decide +kernel
theorem dX10_onlyWord_12 : decode cX10_onlyWord 12 = .ok (.iconst 0, 1) := by decide +kernel
theorem dX10_onlyWord_13 : decode cX10_onlyWord 13 = .ok (.iaload, 1) := by decide +kernel
theorem dX10_onlyWord_14 : decode cX10_onlyWord 14 = .ok (.iconst 3, 1) := by decide +kernel
theorem dX10_onlyWord_15 : decode cX10_onlyWord 15 = .ok (.if_icmp .ne 12, 3) := by decide +kernel
theorem dX10_onlyWord_18 : decode cX10_onlyWord 18 = .ok (.aload_n 0, 1) := by decide +kernel
theorem dX10_onlyWord_19 : decode cX10_onlyWord 19 = .ok (.getfield 18, 3) := by decide +kernel
theorem dX10_onlyWord_22 : decode cX10_onlyWord 22 = .ok (.iconst 0, 1) := by decide +kernel
theorem dX10_onlyWord_23 : decode cX10_onlyWord 23 = .ok (.laload, 1) := by decide +kernel
theorem dX10_onlyWord_24 : decode cX10_onlyWord 24 = .ok (.goto 4, 3) := by decide +kernel
theorem dX10_onlyWord_27 : decode cX10_onlyWord 27 = .ok (.lconst 0, 1) := by decide +kernel
theorem dX10_onlyWord_28 : decode cX10_onlyWord 28 = .ok (.lreturn, 1) := by decide +kernel
theorem dX10_read_0 : decode cX10_read 0 = .ok (.aload_n 0, 1) := by decide +kernel
theorem dX10_read_1 : decode cX10_read 1 = .ok (.iconst 0, 1) := by decide +kernel
theorem dX10_read_2 : decode cX10_read 2 = .ok (.putfield 49, 3) := by decide +kernel
theorem dX10_read_5 : decode cX10_read 5 = .ok (.iconst 0, 1) := by decide +kernel
theorem dX10_read_6 : decode cX10_read 6 = .ok (.istore_n 1, 1) := by decide +kernel
theorem dX10_read_7 : decode cX10_read 7 = .ok (.iconst 0, 1) := by decide +kernel
theorem dX10_read_8 : decode cX10_read 8 = .ok (.istore_n 2, 1) := by decide +kernel
theorem dX10_read_9 : decode cX10_read 9 = .ok (.iload_n 2, 1) := by decide +kernel
theorem dX10_read_10 : decode cX10_read 10 = .ok (.sipush 4000, 3) := by decide +kernel
theorem dX10_read_13 : decode cX10_read 13 = .ok (.if_icmp .ge 91, 3) := by decide +kernel
theorem dX10_read_16 : decode cX10_read 16 = .ok (.iload_n 1, 1) := by decide +kernel
theorem dX10_read_17 : decode cX10_read 17 = .ok (.aload_n 0, 1) := by decide +kernel
theorem dX10_read_18 : decode cX10_read 18 = .ok (.getfield 45, 3) := by decide +kernel
theorem dX10_read_21 : decode cX10_read 21 = .ok (.if_icmp .ge 83, 3) := by decide +kernel
theorem dX10_read_24 : decode cX10_read 24 = .ok (.aload_n 0, 1) := by decide +kernel
theorem dX10_read_25 : decode cX10_read 25 = .ok (.getfield 22, 3) := by decide +kernel
theorem dX10_read_28 : decode cX10_read 28 = .ok (.iload_n 1, 1) := by decide +kernel
theorem dX10_read_29 : decode cX10_read 29 = .ok (.caload, 1) := by decide +kernel
theorem dX10_read_30 : decode cX10_read 30 = .ok (.istore_n 3, 1) := by decide +kernel
theorem dX10_read_31 : decode cX10_read 31 = .ok (.iload_n 3, 1) := by decide +kernel
theorem dX10_read_32 : decode cX10_read 32 = .ok (.invokestatic 52, 3) := by decide +kernel
theorem dX10_read_35 : decode cX10_read 35 = .ok (.ifCond .eq 12, 3) := by decide +kernel
theorem dX10_read_38 : decode cX10_read 38 = .ok (.aload_n 0, 1) := by decide +kernel
theorem dX10_read_39 : decode cX10_read 39 = .ok (.iload_n 1, 1) := by decide +kernel
theorem dX10_read_40 : decode cX10_read 40 = .ok (.invokevirtual 56, 3) := by decide +kernel
theorem dX10_read_43 : decode cX10_read 43 = .ok (.istore_n 1, 1) := by decide +kernel
theorem dX10_read_44 : decode cX10_read 44 = .ok (.goto 54, 3) := by decide +kernel
theorem dX10_read_47 : decode cX10_read 47 = .ok (.iload_n 3, 1) := by decide +kernel
theorem dX10_read_48 : decode cX10_read 48 = .ok (.invokestatic 60, 3) := by decide +kernel
theorem dX10_read_51 : decode cX10_read 51 = .ok (.ifCond .eq 12, 3) := by decide +kernel
theorem dX10_read_54 : decode cX10_read 54 = .ok (.aload_n 0, 1) := by decide +kernel
theorem dX10_read_55 : decode cX10_read 55 = .ok (.iload_n 1, 1) := by decide +kernel
theorem dX10_read_56 : decode cX10_read 56 = .ok (.invokevirtual 63, 3) := by decide +kernel
theorem dX10_read_59 : decode cX10_read 59 = .ok (.istore_n 1, 1) := by decide +kernel
theorem dX10_read_60 : decode cX10_read 60 = .ok (.goto 38, 3) := by decide +kernel
theorem dX10_read_63 : decode cX10_read 63 = .ok (.iload_n 3, 1) := by decide +kernel
theorem dX10_read_64 : decode cX10_read 64 = .ok (.bipush 32, 2) := by decide +kernel
theorem dX10_read_66 : decode cX10_read 66 = .ok (.if_icmp .eq 29, 3) := by decide +kernel
theorem dX10_read_69 : decode cX10_read 69 = .ok (.iload_n 3, 1) := by decide +kernel
theorem dX10_read_70 : decode cX10_read 70 = .ok (.bipush 10, 2) := by decide +kernel
theorem dX10_read_72 : decode cX10_read 72 = .ok (.if_icmp .eq 23, 3) := by decide +kernel
theorem dX10_read_75 : decode cX10_read 75 = .ok (.aload_n 0, 1) := by decide +kernel
theorem dX10_read_76 : decode cX10_read 76 = .ok (.ldc 66, 2) := by decide +kernel
theorem dX10_read_78 : decode cX10_read 78 = .ok (.iload_n 3, 1) := by decide +kernel
theorem dX10_read_79 : decode cX10_read 79 = .ok (.invokevirtual 68, 3) := by decide +kernel
theorem dX10_read_82 : decode cX10_read 82 = .ok (.ifCond .ge 7, 3) := by decide +kernel
theorem dX10_read_85 : decode cX10_read 85 = .ok (.iconst 1, 1) := by decide +kernel
theorem dX10_read_86 : decode cX10_read 86 = .ok (.goto 4, 3) := by decide +kernel
theorem dX10_read_89 : decode cX10_read 89 = .ok (.iload_n 3, 1) := by decide +kernel
theorem dX10_read_90 : decode cX10_read 90 = .ok (.iload_n 1, 1) := by decide +kernel
theorem dX10_read_91 : decode cX10_read 91 = .ok (.lconst 0, 1) := by decide +kernel
theorem dX10_read_92 : decode cX10_read 92 = .ok (.invokevirtual 71, 3) := by decide +kernel
theorem dX10_read_95 : decode cX10_read 95 = .ok (.iinc 1 1, 3) := by decide +kernel
theorem dX10_read_98 : decode cX10_read 98 = .ok (.iinc 2 1, 3) := by decide +kernel
theorem dX10_read_101 : decode cX10_read 101 = .ok (.goto (-92), 3) := by decide +kernel
theorem dX10_read_104 : decode cX10_read 104 = .ok (.aload_n 0, 1) := by decide +kernel
theorem dX10_read_105 : decode cX10_read 105 = .ok (.iconst 0, 1) := by decide +kernel
theorem dX10_read_106 : decode cX10_read 106 = .ok (.aload_n 0, 1) := by decide +kernel
theorem dX10_read_107 : decode cX10_read 107 = .ok (.getfield 45, 3) := by decide +kernel
theorem dX10_read_110 : decode cX10_read 110 = .ok (.lconst 0, 1) := by decide +kernel
theorem dX10_read_111 : decode cX10_read 111 = .ok (.invokevirtual 71, 3) := by decide +kernel
theorem dX10_read_114 : decode cX10_read 114 = .ok (.aload_n 0, 1) := by decide +kernel
theorem dX10_read_115 : decode cX10_read 115 = .ok (.iconst 0, 1) := by decide +kernel
theorem dX10_read_116 : decode cX10_read 116 = .ok (.putfield 45, 3) := by decide +kernel
theorem dX10_read_119 : decode cX10_read 119 = .ok (.return_, 1) := by decide +kernel
theorem dX1_callOff_0 : decode cX1_callOff 0 = .ok (.aload_n 0, 1) := by decide +kernel
theorem dX1_callOff_1 : decode cX1_callOff 1 = .ok (.iload_n 1, 1) := by decide +kernel
theorem dX1_callOff_2 : decode cX1_callOff 2 = .ok (.invokevirtual 194, 3) := by decide +kernel
theorem dX1_callOff_5 : decode cX1_callOff 5 = .ok (.ifCond .eq 28, 3) := by decide +kernel
theorem dX1_callOff_8 : decode cX1_callOff 8 = .ok (.aload_n 0, 1) := by decide +kernel
theorem dX1_callOff_9 : decode cX1_callOff 9 = .ok (.getfield 11, 3) := by decide +kernel
theorem dX1_callOff_12 : decode cX1_callOff 12 = .ok (.iload_n 1, 1) := by decide +kernel
theorem dX1_callOff_13 : decode cX1_callOff 13 = .ok (.aaload, 1) := by decide +kernel
theorem dX1_callOff_14 : decode cX1_callOff 14 = .ok (.getfield 128, 3) := by decide +kernel
theorem dX1_callOff_17 : decode cX1_callOff 17 = .ok (.iconst 3, 1) := by decide +kernel
theorem dX1_callOff_18 : decode cX1_callOff 18 = .ok (.if_icmp .eq 15, 3) := by decide +kernel
theorem dX1_callOff_21 : decode cX1_callOff 21 = .ok (.aload_n 0, 1) := by decide +kernel
theorem dX1_callOff_22 : decode cX1_callOff 22 = .ok (.getfield 11, 3) := by decide +kernel
theorem dX1_callOff_25 : decode cX1_callOff 25 = .ok (.iload_n 1, 1) := by decide +kernel
theorem dX1_callOff_26 : decode cX1_callOff 26 = .ok (.aaload, 1) := by decide +kernel
theorem dX1_callOff_27 : decode cX1_callOff 27 = .ok (.getfield 99, 3) := by decide +kernel
theorem dX1_callOff_30 : decode cX1_callOff 30 = .ok (.ifCond .eq 5, 3) := by decide +kernel
theorem dX1_callOff_33 : decode cX1_callOff 33 = .ok (.iconst 0, 1) := by decide +kernel
theorem dX1_callOff_34 : decode cX1_callOff 34 = .ok (.ireturn, 1) := by decide +kernel
theorem dX1_callOff_35 : decode cX1_callOff 35 = .ok (.aload_n 0, 1) := by decide +kernel
theorem dX1_callOff_36 : decode cX1_callOff 36 = .ok (.getfield 11, 3) := by decide +kernel
theorem dX1_callOff_39 : decode cX1_callOff 39 = .ok (.iload_n 1, 1) := by decide +kernel
theorem dX1_callOff_40 : decode cX1_callOff 40 = .ok (.aaload, 1) := by decide +kernel
theorem dX1_callOff_41 : decode cX1_callOff 41 = .ok (.astore_n 2, 1) := by decide +kernel
theorem dX1_callOff_42 : decode cX1_callOff 42 = .ok (.aload_n 0, 1) := by decide +kernel
theorem dX1_callOff_43 : decode cX1_callOff 43 = .ok (.iload_n 1, 1) := by decide +kernel
theorem dX1_callOff_44 : decode cX1_callOff 44 = .ok (.invokevirtual 198, 3) := by decide +kernel
theorem dX1_callOff_47 : decode cX1_callOff 47 = .ok (.aload_n 0, 1) := by decide +kernel
theorem dX1_callOff_48 : decode cX1_callOff 48 = .ok (.invokevirtual 190, 3) := by decide +kernel
theorem dX1_callOff_51 : decode cX1_callOff 51 = .ok (.aload_n 2, 1) := by decide +kernel
theorem dX1_callOff_52 : decode cX1_callOff 52 = .ok (.getfield 128, 3) := by decide +kernel
theorem dX1_callOff_55 : decode cX1_callOff 55 = .ok (.iconst 3, 1) := by decide +kernel
theorem dX1_callOff_56 : decode cX1_callOff 56 = .ok (.if_icmp .ne 12, 3) := by decide +kernel
theorem dX1_callOff_59 : decode cX1_callOff 59 = .ok (.aload_n 0, 1) := by decide +kernel
theorem dX1_callOff_60 : decode cX1_callOff 60 = .ok (.aload_n 2, 1) := by decide +kernel
theorem dX1_callOff_61 : decode cX1_callOff 61 = .ok (.invokevirtual 201, 3) := by decide +kernel
theorem dX1_callOff_64 : decode cX1_callOff 64 = .ok (.aload_n 0, 1) := by decide +kernel
theorem dX1_callOff_65 : decode cX1_callOff 65 = .ok (.invokevirtual 190, 3) := by decide +kernel
theorem dX1_callOff_68 : decode cX1_callOff 68 = .ok (.iconst 1, 1) := by decide +kernel
theorem dX1_callOff_69 : decode cX1_callOff 69 = .ok (.ireturn, 1) := by decide +kernel
theorem dX1_has_0 : decode cX1_has 0 = .ok (.iload_n 1, 1) := by decide +kernel
theorem dX1_has_1 : decode cX1_has 1 = .ok (.ifCond .lt 15, 3) := by decide +kernel
theorem dX1_has_4 : decode cX1_has 4 = .ok (.iload_n 1, 1) := by decide +kernel
theorem dX1_has_5 : decode cX1_has 5 = .ok (.aload_n 0, 1) := by decide +kernel
theorem dX1_has_6 : decode cX1_has 6 = .ok (.getfield 52, 3) := by decide +kernel
theorem dX1_has_9 : decode cX1_has 9 = .ok (.if_icmp .ge 7, 3) := by decide +kernel
theorem dX1_has_12 : decode cX1_has 12 = .ok (.iconst 1, 1) := by decide +kernel
theorem dX1_has_13 : decode cX1_has 13 = .ok (.goto 4, 3) := by decide +kernel
theorem dX1_has_16 : decode cX1_has 16 = .ok (.iconst 0, 1) := by decide +kernel
theorem dX1_has_17 : decode cX1_has 17 = .ok (.ireturn, 1) := by decide +kernel
theorem dX1_leaveRow_0 : decode cX1_leaveRow 0 = .ok (.iload_n 1, 1) := by decide +kernel
theorem dX1_leaveRow_1 : decode cX1_leaveRow 1 = .ok (.ifCond .lt 11, 3) := by decide +kernel
theorem dX1_leaveRow_4 : decode cX1_leaveRow 4 = .ok (.iload_n 1, 1) := by decide +kernel
theorem dX1_leaveRow_5 : decode cX1_leaveRow 5 = .ok (.aload_n 0, 1) := by decide +kernel
theorem dX1_leaveRow_6 : decode cX1_leaveRow 6 = .ok (.getfield 63, 3) := by decide +kernel
theorem dX1_leaveRow_9 : decode cX1_leaveRow 9 = .ok (.if_icmp .lt 5, 3) := by decide +kernel
theorem dX1_leaveRow_12 : decode cX1_leaveRow 12 = .ok (.aconst_null, 1) := by decide +kernel
theorem dX1_leaveRow_13 : decode cX1_leaveRow 13 = .ok (.areturn, 1) := by decide +kernel
theorem dX1_leaveRow_14 : decode cX1_leaveRow 14 = .ok (.aload_n 0, 1) := by decide +kernel
theorem dX1_leaveRow_15 : decode cX1_leaveRow 15 = .ok (.getfield 11, 3) := by decide +kernel
theorem dX1_leaveRow_18 : decode cX1_leaveRow 18 = .ok (.aload_n 0, 1) := by decide +kernel
theorem dX1_leaveRow_19 : decode cX1_leaveRow 19 = .ok (.getfield 17, 3) := by decide +kernel
theorem dX1_leaveRow_22 : decode cX1_leaveRow 22 = .ok (.iload_n 1, 1) := by decide +kernel
theorem dX1_leaveRow_23 : decode cX1_leaveRow 23 = .ok (.iaload, 1) := by decide +kernel
theorem dX1_leaveRow_24 : decode cX1_leaveRow 24 = .ok (.aaload, 1) := by decide +kernel
theorem dX1_leaveRow_25 : decode cX1_leaveRow 25 = .ok (.astore_n 2, 1) := by decide +kernel
theorem dX1_leaveRow_26 : decode cX1_leaveRow 26 = .ok (.aload_n 0, 1) := by decide +kernel
theorem dX1_leaveRow_27 : decode cX1_leaveRow 27 = .ok (.dup, 1) := by decide +kernel
theorem dX1_leaveRow_28 : decode cX1_leaveRow 28 = .ok (.getfield 63, 3) := by decide +kernel
theorem dX1_leaveRow_31 : decode cX1_leaveRow 31 = .ok (.iconst 1, 1) := by decide +kernel
theorem dX1_leaveRow_32 : decode cX1_leaveRow 32 = .ok (.isub, 1) := by decide +kernel
theorem dX1_leaveRow_33 : decode cX1_leaveRow 33 = .ok (.putfield 63, 3) := by decide +kernel
theorem dX1_leaveRow_36 : decode cX1_leaveRow 36 = .ok (.iload_n 1, 1) := by decide +kernel
theorem dX1_leaveRow_37 : decode cX1_leaveRow 37 = .ok (.istore_n 3, 1) := by decide +kernel
theorem dX1_leaveRow_38 : decode cX1_leaveRow 38 = .ok (.iload_n 3, 1) := by decide +kernel
theorem dX1_leaveRow_39 : decode cX1_leaveRow 39 = .ok (.aload_n 0, 1) := by decide +kernel
theorem dX1_leaveRow_40 : decode cX1_leaveRow 40 = .ok (.getfield 63, 3) := by decide +kernel
theorem dX1_leaveRow_43 : decode cX1_leaveRow 43 = .ok (.if_icmp .ge 23, 3) := by decide +kernel
theorem dX1_leaveRow_46 : decode cX1_leaveRow 46 = .ok (.aload_n 0, 1) := by decide +kernel
theorem dX1_leaveRow_47 : decode cX1_leaveRow 47 = .ok (.getfield 17, 3) := by decide +kernel
theorem dX1_leaveRow_50 : decode cX1_leaveRow 50 = .ok (.iload_n 3, 1) := by decide +kernel
theorem dX1_leaveRow_51 : decode cX1_leaveRow 51 = .ok (.aload_n 0, 1) := by decide +kernel
theorem dX1_leaveRow_52 : decode cX1_leaveRow 52 = .ok (.getfield 17, 3) := by decide +kernel
theorem dX1_leaveRow_55 : decode cX1_leaveRow 55 = .ok (.iload_n 3, 1) := by decide +kernel
theorem dX1_leaveRow_56 : decode cX1_leaveRow 56 = .ok (.iconst 1, 1) := by decide +kernel
theorem dX1_leaveRow_57 : decode cX1_leaveRow 57 = .ok (.iadd, 1) := by decide +kernel
theorem dX1_leaveRow_58 : decode cX1_leaveRow 58 = .ok (.iaload, 1) := by decide +kernel
theorem dX1_leaveRow_59 : decode cX1_leaveRow 59 = .ok (.iastore, 1) := by decide +kernel
theorem dX1_leaveRow_60 : decode cX1_leaveRow 60 = .ok (.iinc 3 1, 3) := by decide +kernel
theorem dX1_leaveRow_63 : decode cX1_leaveRow 63 = .ok (.goto (-25), 3) := by decide +kernel
theorem dX1_leaveRow_66 : decode cX1_leaveRow 66 = .ok (.aload_n 2, 1) := by decide +kernel
theorem dX1_leaveRow_67 : decode cX1_leaveRow 67 = .ok (.areturn, 1) := by decide +kernel
theorem dX1_lettersLying_0 : decode cX1_lettersLying 0 = .ok (.iconst 0, 1) := by decide +kernel
theorem dX1_lettersLying_1 : decode cX1_lettersLying 1 = .ok (.istore_n 1, 1) := by decide +kernel
theorem dX1_lettersLying_2 : decode cX1_lettersLying 2 = .ok (.iconst 0, 1) := by decide +kernel
theorem dX1_lettersLying_3 : decode cX1_lettersLying 3 = .ok (.istore_n 2, 1) := by decide +kernel
theorem dX1_lettersLying_4 : decode cX1_lettersLying 4 = .ok (.iload_n 2, 1) := by decide +kernel
theorem dX1_lettersLying_5 : decode cX1_lettersLying 5 = .ok (.bipush 8, 2) := by decide +kernel
theorem dX1_lettersLying_7 : decode cX1_lettersLying 7 = .ok (.if_icmp .ge 18, 3) := by decide +kernel
theorem dX1_lettersLying_10 : decode cX1_lettersLying 10 = .ok (.iload_n 1, 1) := by decide +kernel
theorem dX1_lettersLying_11 : decode cX1_lettersLying 11 = .ok (.aload_n 0, 1) := by decide +kernel
theorem dX1_lettersLying_12 : decode cX1_lettersLying 12 = .ok (.getfield 24, 3) := by decide +kernel
theorem dX1_lettersLying_15 : decode cX1_lettersLying 15 = .ok (.iload_n 2, 1) := by decide +kernel
theorem dX1_lettersLying_16 : decode cX1_lettersLying 16 = .ok (.iaload, 1) := by decide +kernel
theorem dX1_lettersLying_17 : decode cX1_lettersLying 17 = .ok (.iadd, 1) := by decide +kernel
theorem dX1_lettersLying_18 : decode cX1_lettersLying 18 = .ok (.istore_n 1, 1) := by decide +kernel
theorem dX1_lettersLying_19 : decode cX1_lettersLying 19 = .ok (.iinc 2 1, 3) := by decide +kernel
theorem dX1_lettersLying_22 : decode cX1_lettersLying 22 = .ok (.goto (-18), 3) := by decide +kernel
theorem dX1_lettersLying_25 : decode cX1_lettersLying 25 = .ok (.iload_n 1, 1) := by decide +kernel
theorem dX1_lettersLying_26 : decode cX1_lettersLying 26 = .ok (.ireturn, 1) := by decide +kernel
theorem dX2_taskAt_0 : decode cX2_taskAt 0 = .ok (.iload_n 1, 1) := by decide +kernel
theorem dX2_taskAt_1 : decode cX2_taskAt 1 = .ok (.ifCond .ge 7, 3) := by decide +kernel
theorem dX2_taskAt_4 : decode cX2_taskAt 4 = .ok (.aconst_null, 1) := by decide +kernel
theorem dX2_taskAt_5 : decode cX2_taskAt 5 = .ok (.goto 7, 3) := by decide +kernel
theorem dX2_taskAt_8 : decode cX2_taskAt 8 = .ok (.aload_n 0, 1) := by decide +kernel
theorem dX2_taskAt_9 : decode cX2_taskAt 9 = .ok (.getfield 24, 3) := by decide +kernel
theorem dX2_taskAt_12 : decode cX2_taskAt 12 = .ok (.astore_n 2, 1) := by decide +kernel
theorem dX2_taskAt_13 : decode cX2_taskAt 13 = .ok (.iconst 0, 1) := by decide +kernel
theorem dX2_taskAt_14 : decode cX2_taskAt 14 = .ok (.istore_n 3, 1) := by decide +kernel
theorem dX2_taskAt_15 : decode cX2_taskAt 15 = .ok (.iload_n 3, 1) := by decide +kernel
theorem dX2_taskAt_16 : decode cX2_taskAt 16 = .ok (.iload_n 1, 1) := by decide +kernel
theorem dX2_taskAt_17 : decode cX2_taskAt 17 = .ok (.if_icmp .ge 18, 3) := by decide +kernel
theorem dX2_taskAt_20 : decode cX2_taskAt 20 = .ok (.aload_n 2, 1) := by decide +kernel
theorem dX2_taskAt_21 : decode cX2_taskAt 21 = .ok (.ifnull 14, 3) := by decide +kernel
theorem dX2_taskAt_24 : decode cX2_taskAt 24 = .ok (.aload_n 2, 1) := by decide +kernel
theorem dX2_taskAt_25 : decode cX2_taskAt 25 = .ok (.getfield 27, 3) := by decide +kernel
theorem dX2_taskAt_28 : decode cX2_taskAt 28 = .ok (.astore_n 2, 1) := by decide +kernel
theorem dX2_taskAt_29 : decode cX2_taskAt 29 = .ok (.iinc 3 1, 3) := by decide +kernel
theorem dX2_taskAt_32 : decode cX2_taskAt 32 = .ok (.goto (-17), 3) := by decide +kernel
theorem dX2_taskAt_35 : decode cX2_taskAt 35 = .ok (.aload_n 2, 1) := by decide +kernel
theorem dX2_taskAt_36 : decode cX2_taskAt 36 = .ok (.ifnonnull 7, 3) := by decide +kernel
theorem dX2_taskAt_39 : decode cX2_taskAt 39 = .ok (.iconst (-1), 1) := by decide +kernel
theorem dX2_taskAt_40 : decode cX2_taskAt 40 = .ok (.goto 10, 3) := by decide +kernel
theorem dX2_taskAt_43 : decode cX2_taskAt 43 = .ok (.aload_n 2, 1) := by decide +kernel
theorem dX2_taskAt_44 : decode cX2_taskAt 44 = .ok (.getfield 34, 3) := by decide +kernel
theorem dX2_taskAt_47 : decode cX2_taskAt 47 = .ok (.getfield 38, 3) := by decide +kernel
theorem dX2_taskAt_50 : decode cX2_taskAt 50 = .ok (.ireturn, 1) := by decide +kernel
theorem dX5_has_0 : decode cX5_has 0 = .ok (.iload_n 1, 1) := by decide +kernel
theorem dX5_has_1 : decode cX5_has 1 = .ok (.ifCond .lt 15, 3) := by decide +kernel
theorem dX5_has_4 : decode cX5_has 4 = .ok (.iload_n 1, 1) := by decide +kernel
theorem dX5_has_5 : decode cX5_has 5 = .ok (.aload_n 0, 1) := by decide +kernel
theorem dX5_has_6 : decode cX5_has 6 = .ok (.getfield 57, 3) := by decide +kernel
theorem dX5_has_9 : decode cX5_has 9 = .ok (.if_icmp .ge 7, 3) := by decide +kernel
theorem dX5_has_12 : decode cX5_has 12 = .ok (.iconst 1, 1) := by decide +kernel
theorem dX5_has_13 : decode cX5_has 13 = .ok (.goto 4, 3) := by decide +kernel
theorem dX5_has_16 : decode cX5_has 16 = .ok (.iconst 0, 1) := by decide +kernel
theorem dX5_has_17 : decode cX5_has 17 = .ok (.ireturn, 1) := by decide +kernel
theorem dX5_hasState_0 : decode cX5_hasState 0 = .ok (.aload_n 0, 1) := by decide +kernel
theorem dX5_hasState_1 : decode cX5_hasState 1 = .ok (.iload_n 1, 1) := by decide +kernel
theorem dX5_hasState_2 : decode cX5_hasState 2 = .ok (.invokevirtual 63, 3) := by decide +kernel
theorem dX5_hasState_5 : decode cX5_hasState 5 = .ok (.ifCond .eq 21, 3) := by decide +kernel
theorem dX5_hasState_8 : decode cX5_hasState 8 = .ok (.iload_n 2, 1) := by decide +kernel
theorem dX5_hasState_9 : decode cX5_hasState 9 = .ok (.ifCond .lt 17, 3) := by decide +kernel
theorem dX5_hasState_12 : decode cX5_hasState 12 = .ok (.iload_n 2, 1) := by decide +kernel
theorem dX5_hasState_13 : decode cX5_hasState 13 = .ok (.aload_n 0, 1) := by decide +kernel
theorem dX5_hasState_14 : decode cX5_hasState 14 = .ok (.getfield 40, 3) := by decide +kernel
theorem dX5_hasState_17 : decode cX5_hasState 17 = .ok (.iload_n 1, 1) := by decide +kernel
theorem dX5_hasState_18 : decode cX5_hasState 18 = .ok (.iaload, 1) := by decide +kernel
theorem dX5_hasState_19 : decode cX5_hasState 19 = .ok (.if_icmp .gt 7, 3) := by decide +kernel
theorem dX5_hasState_22 : decode cX5_hasState 22 = .ok (.iconst 1, 1) := by decide +kernel
theorem dX5_hasState_23 : decode cX5_hasState 23 = .ok (.goto 4, 3) := by decide +kernel
theorem dX5_hasState_26 : decode cX5_hasState 26 = .ok (.iconst 0, 1) := by decide +kernel
theorem dX5_hasState_27 : decode cX5_hasState 27 = .ok (.ireturn, 1) := by decide +kernel
theorem dX6_takeTurn_0 : decode cX6_takeTurn 0 = .ok (.aload_n 0, 1) := by decide +kernel
theorem dX6_takeTurn_1 : decode cX6_takeTurn 1 = .ok (.getfield 22, 3) := by decide +kernel
theorem dX6_takeTurn_4 : decode cX6_takeTurn 4 = .ok (.iload_n 1, 1) := by decide +kernel
theorem dX6_takeTurn_5 : decode cX6_takeTurn 5 = .ok (.invokevirtual 26, 3) := by decide +kernel
theorem dX6_takeTurn_8 : decode cX6_takeTurn 8 = .ok (.astore_n 2, 1) := by decide +kernel
theorem dX6_takeTurn_9 : decode cX6_takeTurn 9 = .ok (.aload_n 2, 1) := by decide +kernel
theorem dX6_takeTurn_10 : decode cX6_takeTurn 10 = .ok (.ifnonnull 5, 3) := by decide +kernel
theorem dX6_takeTurn_13 : decode cX6_takeTurn 13 = .ok (.iconst (-1), 1) := by decide +kernel
theorem dX6_takeTurn_14 : decode cX6_takeTurn 14 = .ok (.ireturn, 1) := by decide +kernel
theorem dX6_takeTurn_15 : decode cX6_takeTurn 15 = .ok (.aload_n 0, 1) := by decide +kernel
theorem dX6_takeTurn_16 : decode cX6_takeTurn 16 = .ok (.iconst 0, 1) := by decide +kernel
theorem dX6_takeTurn_17 : decode cX6_takeTurn 17 = .ok (.putfield 32, 3) := by decide +kernel
theorem dX6_takeTurn_20 : decode cX6_takeTurn 20 = .ok (.aload_n 0, 1) := by decide +kernel
theorem dX6_takeTurn_21 : decode cX6_takeTurn 21 = .ok (.iconst 0, 1) := by decide +kernel
theorem dX6_takeTurn_22 : decode cX6_takeTurn 22 = .ok (.putfield 36, 3) := by decide +kernel
theorem dX6_takeTurn_25 : decode cX6_takeTurn 25 = .ok (.aload_n 0, 1) := by decide +kernel
theorem dX6_takeTurn_26 : decode cX6_takeTurn 26 = .ok (.iconst 0, 1) := by decide +kernel
theorem dX6_takeTurn_27 : decode cX6_takeTurn 27 = .ok (.putfield 39, 3) := by decide +kernel
theorem dX6_takeTurn_30 : decode cX6_takeTurn 30 = .ok (.aload_n 0, 1) := by decide +kernel
theorem dX6_takeTurn_31 : decode cX6_takeTurn 31 = .ok (.aload_n 2, 1) := by decide +kernel
theorem dX6_takeTurn_32 : decode cX6_takeTurn 32 = .ok (.invokevirtual 42, 3) := by decide +kernel
theorem dX6_takeTurn_35 : decode cX6_takeTurn 35 = .ok (.iconst 0, 1) := by decide +kernel
theorem dX6_takeTurn_36 : decode cX6_takeTurn 36 = .ok (.istore_n 3, 1) := by decide +kernel
theorem dX6_takeTurn_37 : decode cX6_takeTurn 37 = .ok (.iload_n 3, 1) := by decide +kernel
theorem dX6_takeTurn_38 : decode cX6_takeTurn 38 = .ok (.ldc 46, 2) := by decide +kernel
theorem dX6_takeTurn_40 : decode cX6_takeTurn 40 = .ok (.if_icmp .ge 21, 3) := by decide +kernel
theorem dX6_takeTurn_43 : decode cX6_takeTurn 43 = .ok (.aload_n 0, 1) := by decide +kernel
theorem dX6_takeTurn_44 : decode cX6_takeTurn 44 = .ok (.getfield 39, 3) := by decide +kernel
theorem dX6_takeTurn_47 : decode cX6_takeTurn 47 = .ok (.ifCond .ne 14, 3) := by decide +kernel
theorem dX6_takeTurn_50 : decode cX6_takeTurn 50 = .ok (.aload_n 0, 1) := by decide +kernel
theorem dX6_takeTurn_51 : decode cX6_takeTurn 51 = .ok (.aload_n 2, 1) := by decide +kernel
theorem dX6_takeTurn_52 : decode cX6_takeTurn 52 = .ok (.invokevirtual 47, 3) := by decide +kernel
theorem dX6_takeTurn_55 : decode cX6_takeTurn 55 = .ok (.iinc 3 1, 3) := by decide +kernel
theorem dX6_takeTurn_58 : decode cX6_takeTurn 58 = .ok (.goto (-21), 3) := by decide +kernel
theorem dX6_takeTurn_61 : decode cX6_takeTurn 61 = .ok (.aload_n 0, 1) := by decide +kernel
theorem dX6_takeTurn_62 : decode cX6_takeTurn 62 = .ok (.getfield 39, 3) := by decide +kernel
theorem dX6_takeTurn_65 : decode cX6_takeTurn 65 = .ok (.iconst 1, 1) := by decide +kernel
theorem dX6_takeTurn_66 : decode cX6_takeTurn 66 = .ok (.if_icmp .ne 14, 3) := by decide +kernel
theorem dX6_takeTurn_69 : decode cX6_takeTurn 69 = .ok (.aload_n 0, 1) := by decide +kernel
theorem dX6_takeTurn_70 : decode cX6_takeTurn 70 = .ok (.getfield 22, 3) := by decide +kernel
theorem dX6_takeTurn_73 : decode cX6_takeTurn 73 = .ok (.aload_n 2, 1) := by decide +kernel
theorem dX6_takeTurn_74 : decode cX6_takeTurn 74 = .ok (.invokevirtual 50, 3) := by decide +kernel
theorem dX6_takeTurn_77 : decode cX6_takeTurn 77 = .ok (.goto 34, 3) := by decide +kernel
theorem dX6_takeTurn_80 : decode cX6_takeTurn 80 = .ok (.aload_n 0, 1) := by decide +kernel
theorem dX6_takeTurn_81 : decode cX6_takeTurn 81 = .ok (.getfield 39, 3) := by decide +kernel
theorem dX6_takeTurn_84 : decode cX6_takeTurn 84 = .ok (.iconst 2, 1) := by decide +kernel
theorem dX6_takeTurn_85 : decode cX6_takeTurn 85 = .ok (.if_icmp .ne 18, 3) := by decide +kernel
theorem dX6_takeTurn_88 : decode cX6_takeTurn 88 = .ok (.aload_n 0, 1) := by decide +kernel
theorem dX6_takeTurn_89 : decode cX6_takeTurn 89 = .ok (.getfield 22, 3) := by decide +kernel
theorem dX6_takeTurn_92 : decode cX6_takeTurn 92 = .ok (.aload_n 2, 1) := by decide +kernel
theorem dX6_takeTurn_93 : decode cX6_takeTurn 93 = .ok (.aload_n 0, 1) := by decide +kernel
theorem dX6_takeTurn_94 : decode cX6_takeTurn 94 = .ok (.getfield 53, 3) := by decide +kernel
theorem dX6_takeTurn_97 : decode cX6_takeTurn 97 = .ok (.invokevirtual 56, 3) := by decide +kernel
theorem dX6_takeTurn_100 : decode cX6_takeTurn 100 = .ok (.goto 11, 3) := by decide +kernel
theorem dX6_takeTurn_103 : decode cX6_takeTurn 103 = .ok (.aload_n 0, 1) := by decide +kernel
theorem dX6_takeTurn_104 : decode cX6_takeTurn 104 = .ok (.getfield 22, 3) := by decide +kernel
theorem dX6_takeTurn_107 : decode cX6_takeTurn 107 = .ok (.aload_n 2, 1) := by decide +kernel
theorem dX6_takeTurn_108 : decode cX6_takeTurn 108 = .ok (.invokevirtual 60, 3) := by decide +kernel
theorem dX6_takeTurn_111 : decode cX6_takeTurn 111 = .ok (.aload_n 2, 1) := by decide +kernel
theorem dX6_takeTurn_112 : decode cX6_takeTurn 112 = .ok (.getfield 63, 3) := by decide +kernel
theorem dX6_takeTurn_115 : decode cX6_takeTurn 115 = .ok (.ireturn, 1) := by decide +kernel
set_option maxHeartbeats 4000000 in
set_option maxRecDepth 100000 in
theorem ct_X10_keep (l : Launch) (dC : Nat → ClassId) (dI : Nat → Nat → Nat) (h0 : Nat) (kd : Nat) (pl : Nat) (va : Nat) (tp : Nat) (rs : Nat) (kkd : ClassId) (kpl : ClassId) (kva : ClassId) (sz : Nat) : Met l yX10_keep (.code yX10_keep cX10_keep 5 none :: tb) ({ frames := 0, cells := 0, slots := 0, locals := 0 }) (va_Pc [.ref h0, .int 0, .int 0, .long 0] (fun U => U.heap.size = sz ∧ va_P (dC, dI) vwCl [(h0, .inr (10, [.ref kd, .ref pl, .ref va, .int 0, .int 0, .ref tp, .ref rs])), (kd, .inl (kkd, 4002, .inl (upd (fun _ => 0) (4001 : Int32).toNatClampNeg 4))), (pl, .inl (kpl, 4002, .inl (fun _ => 0))), (va, .inl (kva, 4002, .inr (.inl (fun _ => 0))))] U.heap ∧ va_K (dC, dI) vwCl [(kkd, .int), (kpl, .int), (kva, .long)] U ∧ va_D (fun _ => True) [(h0, .inr (10, [.ref kd, .ref pl, .ref va, .int 0, .int 0, .ref tp, .ref rs])), (kd, .inl (kkd, 4002, .inl (upd (fun _ => 0) (4001 : Int32).toNatClampNeg 4))), (pl, .inl (kpl, 4002, .inl (fun _ => 0))), (va, .inl (kva, 4002, .inr (.inl (fun _ => 0))))])) (va_Qv (fun (_ : Unit) => True) (fun (_ : Unit) t => va_P (dC, dI) vwCl [(h0, .inr (10, [.ref kd, .ref pl, .ref va, .int 1, .int 0, .ref tp, .ref rs])), (kd, .inl (kkd, 4002, .inl (upd (upd (fun _ => 0) (4001 : Int32).toNatClampNeg 4) (0 : Int32).toNatClampNeg 0))), (pl, .inl (kpl, 4002, .inl (fun _ => 0))), (va, .inl (kva, 4002, .inr (.inl (fun _ => 0))))] t.heap ∧ va_K (dC, dI) vwCl [] t ∧ va_D (va_A [(h0, .inr (10, [.ref kd, .ref pl, .ref va, .int 0, .int 0, .ref tp, .ref rs])), (kd, .inl (kkd, 4002, .inl (upd (fun _ => 0) (4001 : Int32).toNatClampNeg 4))), (pl, .inl (kpl, 4002, .inl (fun _ => 0))), (va, .inl (kva, 4002, .inr (.inl (fun _ => 0))))] sz) [(h0, .inr (10, [.ref kd, .ref pl, .ref va, .int 1, .int 0, .ref tp, .ref rs])), (kd, .inl (kkd, 4002, .inl (upd (upd (fun _ => 0) (4001 : Int32).toNatClampNeg 4) (0 : Int32).toNatClampNeg 0))), (pl, .inl (kpl, 4002, .inl (fun _ => 0))), (va, .inl (kva, 4002, .inr (.inl (fun _ => 0))))]) (va_A [(h0, .inr (10, [.ref kd, .ref pl, .ref va, .int 0, .int 0, .ref tp, .ref rs])), (kd, .inl (kkd, 4002, .inl (upd (fun _ => 0) (4001 : Int32).toNatClampNeg 4))), (pl, .inl (kpl, 4002, .inl (fun _ => 0))), (va, .inl (kva, 4002, .inr (.inl (fun _ => 0))))] sz)) 0 0 (va_A [(h0, .inr (10, [.ref kd, .ref pl, .ref va, .int 0, .int 0, .ref tp, .ref rs])), (kd, .inl (kkd, 4002, .inl (upd (fun _ => 0) (4001 : Int32).toNatClampNeg 4))), (pl, .inl (kpl, 4002, .inl (fun _ => 0))), (va, .inl (kva, 4002, .inr (.inl (fun _ => 0))))] sz) := by
  refine Met.ofW (cc := cX10_keep) (maxL := 5) (ret := none) (by decide) rfl ?_
  intro p e s m args below meth c s₁ B hml hv
  obtain ⟨rfl, hsz, hP, hK, hD0⟩ := hv
  have hx := B.exec
  have hb := B.bytes
  have hr := B.returns
  have hts : ∀ w ∈ tb, w.before _ s = true := fun w h => atoms_spec (ws := (.code yX10_keep cX10_keep 5 none :: tb)) B.pre w (List.mem_cons_of_mem _ h)
  have hown : s.vm.findClass RX10 = some m.cls := findClass_of_methodNamed B.named
  have hlocks := B.notSynchronized
  subst hsz
  have hD := hD0.self (sz := s.heap.size)
  generalize hAe : va_A [(h0, .inr (10, [.ref kd, .ref pl, .ref va, .int 0, .int 0, .ref tp, .ref rs])), (kd, .inl (kkd, 4002, .inl (upd (fun _ => 0) (4001 : Int32).toNatClampNeg 4))), (pl, .inl (kpl, 4002, .inl (fun _ => 0))), (va, .inl (kva, 4002, .inr (.inl (fun _ => 0))))] s.heap.size = A at hD ⊢
  have hA : ∀ q : Nat, s.heap.size ≤ q → A q := fun q h => by rw [← hAe]; exact Or.inr h
  have hS : va_S A s.heap s.heap [] := va_S.rf
  have hP : va_P (dC, dI) vwCl [(h0, .inr (10, [.ref kd, .ref pl, .ref va, .int 0, .int 0, .ref tp, .ref rs])), (kd, .inl (kkd, 4002, .inl (upd (fun _ => 0) (4001 : Int32).toNatClampNeg 4))), (pl, .inl (kpl, 4002, .inl (fun _ => 0))), (va, .inl (kva, 4002, .inr (.inl (fun _ => 0))))] s.heap := hP
  have hl := lv_entry ([.ref h0, .int 0, .int 0, .long 0]) (n := 5) (Nat.le_of_ble_eq_true rfl)
  rw [lg_entry_eq]
  generalize (lg_sl ([.ref h0, .int 0, .int 0, .long 0]) ++ List.replicate (5 - (lg_sl ([.ref h0, .int 0, .int 0, .long 0])).length) Slot.unset).toArray = ls at hl ⊢
  have hl : lv_has ls 5 [(0, .ref h0), (1, .int 0), (2, .int 0), (3, .long 0)] := hl
  refine lv_aload_n hx hb dX10_keep_0 rfl (lv_at hl 0 rfl) ?_
  refine va_get (D := (dC, dI)) (ci := 10) (v := .int 0) (C := RX10) (T := TX10) (N := 7) hx hb hts in_X10 hown hK hP 0 rfl rfl 3 (by decide) (hts _ wd_100) (fun _ h9 => h9) rfl dX10_keep_1 ?_
  refine lv_sipush (v := 4001) hx hb dX10_keep_4 (by decide) ?_
  refine lv_icmp_ge (tgt := 50) hx hb dX10_keep_7 (by decide) (fun h => absurd h (by decide)) (fun _ => ?_)
  refine lv_aload_n hx hb dX10_keep_10 rfl (lv_at hl 0 rfl) ?_
  refine va_get (D := (dC, dI)) (ci := 10) (v := .ref kd) (C := RX10) (T := TX10) (N := 7) hx hb hts in_X10 hown hK hP 0 rfl rfl 0 (by decide) (hts _ wd_94) (fun _ h9 => h9) rfl dX10_keep_11 ?_
  refine lv_aload_n hx hb dX10_keep_14 rfl (lv_at hl 0 rfl) ?_
  refine va_get (D := (dC, dI)) (ci := 10) (v := .int 0) (C := RX10) (T := TX10) (N := 7) hx hb hts in_X10 hown hK hP 0 rfl rfl 3 (by decide) (hts _ wd_100) (fun _ h9 => h9) rfl dX10_keep_15 ?_
  refine lv_iload_n hx hb dX10_keep_18 rfl (lv_at hl 1 rfl) ?_
  refine va_iast hx hb hK hP hD hS 1 0 rfl rfl (px_in 0 4002 (by decide +kernel)) dX10_keep_19 (fun H locs hP hD hS => ?_)
  have hP : va_P (dC, dI) vwCl [(h0, .inr (10, [.ref kd, .ref pl, .ref va, .int 0, .int 0, .ref tp, .ref rs])), (kd, .inl (kkd, 4002, .inl (upd (upd (fun _ => 0) (4001 : Int32).toNatClampNeg 4) (0 : Int32).toNatClampNeg 0))), (pl, .inl (kpl, 4002, .inl (fun _ => 0))), (va, .inl (kva, 4002, .inr (.inl (fun _ => 0))))] H := hP
  have hD : va_D A [(h0, .inr (10, [.ref kd, .ref pl, .ref va, .int 0, .int 0, .ref tp, .ref rs])), (kd, .inl (kkd, 4002, .inl (upd (upd (fun _ => 0) (4001 : Int32).toNatClampNeg 4) (0 : Int32).toNatClampNeg 0))), (pl, .inl (kpl, 4002, .inl (fun _ => 0))), (va, .inl (kva, 4002, .inr (.inl (fun _ => 0))))] := hD
  refine lv_aload_n hx hb dX10_keep_20 rfl (lv_at hl 0 rfl) ?_
  refine va_get (D := (dC, dI)) (ci := 10) (v := .ref pl) (C := RX10) (T := TX10) (N := 7) hx hb hts in_X10 hown hK hP 0 rfl rfl 1 (by decide) (hts _ wd_96) (fun _ h9 => h9) rfl dX10_keep_21 ?_
  refine lv_aload_n hx hb dX10_keep_24 rfl (lv_at hl 0 rfl) ?_
  refine va_get (D := (dC, dI)) (ci := 10) (v := .int 0) (C := RX10) (T := TX10) (N := 7) hx hb hts in_X10 hown hK hP 0 rfl rfl 3 (by decide) (hts _ wd_100) (fun _ h9 => h9) rfl dX10_keep_25 ?_
  refine lv_iload_n hx hb dX10_keep_28 rfl (lv_at hl 2 rfl) ?_
  refine va_iast hx hb hK hP hD hS 2 1 rfl rfl (px_in 0 4002 (by decide +kernel)) dX10_keep_29 (fun H locs hP hD hS => ?_)
  have hP : va_P (dC, dI) vwCl [(h0, .inr (10, [.ref kd, .ref pl, .ref va, .int 0, .int 0, .ref tp, .ref rs])), (kd, .inl (kkd, 4002, .inl (upd (upd (fun _ => 0) (4001 : Int32).toNatClampNeg 4) (0 : Int32).toNatClampNeg 0))), (pl, .inl (kpl, 4002, .inl (upd (fun _ => 0) (0 : Int32).toNatClampNeg 0))), (va, .inl (kva, 4002, .inr (.inl (fun _ => 0))))] H := hP
  have hD : va_D A [(h0, .inr (10, [.ref kd, .ref pl, .ref va, .int 0, .int 0, .ref tp, .ref rs])), (kd, .inl (kkd, 4002, .inl (upd (upd (fun _ => 0) (4001 : Int32).toNatClampNeg 4) (0 : Int32).toNatClampNeg 0))), (pl, .inl (kpl, 4002, .inl (upd (fun _ => 0) (0 : Int32).toNatClampNeg 0))), (va, .inl (kva, 4002, .inr (.inl (fun _ => 0))))] := hD
  rw [up_z] at hP hD
  have hP : va_P (dC, dI) vwCl [(h0, .inr (10, [.ref kd, .ref pl, .ref va, .int 0, .int 0, .ref tp, .ref rs])), (kd, .inl (kkd, 4002, .inl (upd (upd (fun _ => 0) (4001 : Int32).toNatClampNeg 4) (0 : Int32).toNatClampNeg 0))), (pl, .inl (kpl, 4002, .inl (fun _ => 0))), (va, .inl (kva, 4002, .inr (.inl (fun _ => 0))))] H := hP
  have hD : va_D A [(h0, .inr (10, [.ref kd, .ref pl, .ref va, .int 0, .int 0, .ref tp, .ref rs])), (kd, .inl (kkd, 4002, .inl (upd (upd (fun _ => 0) (4001 : Int32).toNatClampNeg 4) (0 : Int32).toNatClampNeg 0))), (pl, .inl (kpl, 4002, .inl (fun _ => 0))), (va, .inl (kva, 4002, .inr (.inl (fun _ => 0))))] := hD
  refine lv_aload_n hx hb dX10_keep_30 rfl (lv_at hl 0 rfl) ?_
  refine va_get (D := (dC, dI)) (ci := 10) (v := .ref va) (C := RX10) (T := TX10) (N := 7) hx hb hts in_X10 hown hK hP 0 rfl rfl 2 (by decide) (hts _ wd_98) (fun _ h9 => h9) rfl dX10_keep_31 ?_
  refine lv_aload_n hx hb dX10_keep_34 rfl (lv_at hl 0 rfl) ?_
  refine va_get (D := (dC, dI)) (ci := 10) (v := .int 0) (C := RX10) (T := TX10) (N := 7) hx hb hts in_X10 hown hK hP 0 rfl rfl 3 (by decide) (hts _ wd_100) (fun _ h9 => h9) rfl dX10_keep_35 ?_
  refine lv_lload_n hx hb dX10_keep_38 rfl (lv_at hl 3 rfl) ?_
  refine va_last hx hb hK hP hD hS 3 2 rfl rfl (px_in 0 4002 (by decide +kernel)) dX10_keep_39 (fun H locs hP hD hS => ?_)
  have hP : va_P (dC, dI) vwCl [(h0, .inr (10, [.ref kd, .ref pl, .ref va, .int 0, .int 0, .ref tp, .ref rs])), (kd, .inl (kkd, 4002, .inl (upd (upd (fun _ => 0) (4001 : Int32).toNatClampNeg 4) (0 : Int32).toNatClampNeg 0))), (pl, .inl (kpl, 4002, .inl (fun _ => 0))), (va, .inl (kva, 4002, .inr (.inl (vp_updL (fun _ => 0) (0 : Int32).toNatClampNeg 0))))] H := hP
  have hD : va_D A [(h0, .inr (10, [.ref kd, .ref pl, .ref va, .int 0, .int 0, .ref tp, .ref rs])), (kd, .inl (kkd, 4002, .inl (upd (upd (fun _ => 0) (4001 : Int32).toNatClampNeg 4) (0 : Int32).toNatClampNeg 0))), (pl, .inl (kpl, 4002, .inl (fun _ => 0))), (va, .inl (kva, 4002, .inr (.inl (vp_updL (fun _ => 0) (0 : Int32).toNatClampNeg 0))))] := hD
  rw [up_zL] at hP hD
  have hP : va_P (dC, dI) vwCl [(h0, .inr (10, [.ref kd, .ref pl, .ref va, .int 0, .int 0, .ref tp, .ref rs])), (kd, .inl (kkd, 4002, .inl (upd (upd (fun _ => 0) (4001 : Int32).toNatClampNeg 4) (0 : Int32).toNatClampNeg 0))), (pl, .inl (kpl, 4002, .inl (fun _ => 0))), (va, .inl (kva, 4002, .inr (.inl (fun _ => 0))))] H := hP
  have hD : va_D A [(h0, .inr (10, [.ref kd, .ref pl, .ref va, .int 0, .int 0, .ref tp, .ref rs])), (kd, .inl (kkd, 4002, .inl (upd (upd (fun _ => 0) (4001 : Int32).toNatClampNeg 4) (0 : Int32).toNatClampNeg 0))), (pl, .inl (kpl, 4002, .inl (fun _ => 0))), (va, .inl (kva, 4002, .inr (.inl (fun _ => 0))))] := hD
  refine lv_aload_n hx hb dX10_keep_40 rfl (lv_at hl 0 rfl) ?_
  refine lv_dup hx hb dX10_keep_41 rfl ?_
  refine va_get (D := (dC, dI)) (ci := 10) (v := .int 0) (C := RX10) (T := TX10) (N := 7) hx hb hts in_X10 hown hK hP 0 rfl rfl 3 (by decide) (hts _ wd_100) (fun _ h9 => h9) rfl dX10_keep_42 ?_
  refine lv_iconst (v := 1) hx hb dX10_keep_45 (by decide) ?_
  refine lv_iadd hx hb dX10_keep_46 ?_
  refine lv_topi (fun z1 ez1 => ?_)
  obtain rfl : z1 = 1 := ez1.trans (by decide)
  refine va_put (D := (dC, dI)) (ci := 10) (v := .int 1) (ty := (tyX10 3)) (C := RX10) (T := TX10) (N := 7) hx hb hts in_X10 tyX10 tyX10_ok nmX10 hown hK hP hD hS 0 rfl rfl 3 (by decide) (hts _ wd_100) (fun _ h9 => h9) rfl (tyX10_ok 3 (by decide)) rfl rfl (Nat.le_of_ble_eq_true rfl) dX10_keep_47 (fun H locs hP hD hS => ?_)
  have hP : va_P (dC, dI) vwCl [(h0, .inr (10, [.ref kd, .ref pl, .ref va, .int 1, .int 0, .ref tp, .ref rs])), (kd, .inl (kkd, 4002, .inl (upd (upd (fun _ => 0) (4001 : Int32).toNatClampNeg 4) (0 : Int32).toNatClampNeg 0))), (pl, .inl (kpl, 4002, .inl (fun _ => 0))), (va, .inl (kva, 4002, .inr (.inl (fun _ => 0))))] H := hP
  have hD : va_D A [(h0, .inr (10, [.ref kd, .ref pl, .ref va, .int 1, .int 0, .ref tp, .ref rs])), (kd, .inl (kkd, 4002, .inl (upd (upd (fun _ => 0) (4001 : Int32).toNatClampNeg 4) (0 : Int32).toNatClampNeg 0))), (pl, .inl (kpl, 4002, .inl (fun _ => 0))), (va, .inl (kva, 4002, .inr (.inl (fun _ => 0))))] := hD
  have hP9 := hP.sub (ws' := [(h0, .inr (10, [.ref kd, .ref pl, .ref va, .int 1, .int 0, .ref tp, .ref rs])), (kd, .inl (kkd, 4002, .inl (upd (upd (fun _ => 0) (4001 : Int32).toNatClampNeg 4) (0 : Int32).toNatClampNeg 0))), (pl, .inl (kpl, 4002, .inl (fun _ => 0))), (va, .inl (kva, 4002, .inr (.inl (fun _ => 0))))]) [0, 1, 2, 3] rfl
  have hD9 := hD.sub (ws' := [(h0, .inr (10, [.ref kd, .ref pl, .ref va, .int 1, .int 0, .ref tp, .ref rs])), (kd, .inl (kkd, 4002, .inl (upd (upd (fun _ => 0) (4001 : Int32).toNatClampNeg 4) (0 : Int32).toNatClampNeg 0))), (pl, .inl (kpl, 4002, .inl (fun _ => 0))), (va, .inl (kva, 4002, .inr (.inl (fun _ => 0))))]) [0, 1, 2, 3] (by decide) rfl
  have hK9 := hK.sub (tys' := []) [] rfl
  refine W.widen (k := 0) (n := 0) (Nat.le_of_ble_eq_true rfl) (Nat.le_of_ble_eq_true rfl) ?_
  exact W.vret hx hb hr (fun t ht hW => ⟨⟨(), rfl, trivial, by rw [ht]; exact hP9, va_K.moved hW.alike hK9, hD9⟩, hS.F ht⟩) hS.2.2 dX10_keep_50
set_option maxHeartbeats 4000000 in
set_option maxRecDepth 100000 in
theorem ct_X10_read (l : Launch) (dC : Nat → ClassId) (dI : Nat → Nat → Nat) (h0 : Nat) (kd : Nat) (pl : Nat) (va : Nat) (tp : Nat) (rs : Nat) (kkd : ClassId) (kpl : ClassId) (kva : ClassId) (sz : Nat) : Met l yX10_read (.code yX10_read cX10_read 4 none :: tb) ({ frames := 1, cells := 0, slots := 0, locals := 24 }) (va_Pc [.ref h0] (fun U => U.heap.size = sz ∧ va_P (dC, dI) vwCl [(h0, .inr (10, [.ref kd, .ref pl, .ref va, .int 0, .int 0, .ref tp, .ref rs])), (kd, .inl (kkd, 4002, .inl (upd (fun _ => 0) (4001 : Int32).toNatClampNeg 4))), (pl, .inl (kpl, 4002, .inl (fun _ => 0))), (va, .inl (kva, 4002, .inr (.inl (fun _ => 0))))] U.heap ∧ va_K (dC, dI) vwCl [(kkd, .int), (kpl, .int), (kva, .long)] U ∧ va_D (fun _ => True) [(h0, .inr (10, [.ref kd, .ref pl, .ref va, .int 0, .int 0, .ref tp, .ref rs])), (kd, .inl (kkd, 4002, .inl (upd (fun _ => 0) (4001 : Int32).toNatClampNeg 4))), (pl, .inl (kpl, 4002, .inl (fun _ => 0))), (va, .inl (kva, 4002, .inr (.inl (fun _ => 0))))])) (va_Qv (fun (_ : Unit) => True) (fun (_ : Unit) t => va_P (dC, dI) vwCl [(h0, .inr (10, [.ref kd, .ref pl, .ref va, .int 1, .int 0, .ref tp, .ref rs])), (kd, .inl (kkd, 4002, .inl (upd (upd (fun _ => 0) (4001 : Int32).toNatClampNeg 4) (0 : Int32).toNatClampNeg 0))), (pl, .inl (kpl, 4002, .inl (fun _ => 0))), (va, .inl (kva, 4002, .inr (.inl (fun _ => 0))))] t.heap ∧ va_K (dC, dI) vwCl [] t ∧ va_D (va_A [(h0, .inr (10, [.ref kd, .ref pl, .ref va, .int 0, .int 0, .ref tp, .ref rs])), (kd, .inl (kkd, 4002, .inl (upd (fun _ => 0) (4001 : Int32).toNatClampNeg 4))), (pl, .inl (kpl, 4002, .inl (fun _ => 0))), (va, .inl (kva, 4002, .inr (.inl (fun _ => 0))))] sz) [(h0, .inr (10, [.ref kd, .ref pl, .ref va, .int 1, .int 0, .ref tp, .ref rs])), (kd, .inl (kkd, 4002, .inl (upd (upd (fun _ => 0) (4001 : Int32).toNatClampNeg 4) (0 : Int32).toNatClampNeg 0))), (pl, .inl (kpl, 4002, .inl (fun _ => 0))), (va, .inl (kva, 4002, .inr (.inl (fun _ => 0))))]) (va_A [(h0, .inr (10, [.ref kd, .ref pl, .ref va, .int 0, .int 0, .ref tp, .ref rs])), (kd, .inl (kkd, 4002, .inl (upd (fun _ => 0) (4001 : Int32).toNatClampNeg 4))), (pl, .inl (kpl, 4002, .inl (fun _ => 0))), (va, .inl (kva, 4002, .inr (.inl (fun _ => 0))))] sz)) 0 0 (va_A [(h0, .inr (10, [.ref kd, .ref pl, .ref va, .int 0, .int 0, .ref tp, .ref rs])), (kd, .inl (kkd, 4002, .inl (upd (fun _ => 0) (4001 : Int32).toNatClampNeg 4))), (pl, .inl (kpl, 4002, .inl (fun _ => 0))), (va, .inl (kva, 4002, .inr (.inl (fun _ => 0))))] sz) := by
  refine Met.ofW (cc := cX10_read) (maxL := 4) (ret := none) (by decide) rfl ?_
  intro p e s m args below meth c s₁ B hml hv
  obtain ⟨rfl, hsz, hP, hK, hD0⟩ := hv
  have hx := B.exec
  have hb := B.bytes
  have hr := B.returns
  have hts : ∀ w ∈ tb, w.before _ s = true := fun w h => atoms_spec (ws := (.code yX10_read cX10_read 4 none :: tb)) B.pre w (List.mem_cons_of_mem _ h)
  have hown : s.vm.findClass RX10 = some m.cls := findClass_of_methodNamed B.named
  have hlocks := B.notSynchronized
  subst hsz
  have hD := hD0.self (sz := s.heap.size)
  generalize hAe : va_A [(h0, .inr (10, [.ref kd, .ref pl, .ref va, .int 0, .int 0, .ref tp, .ref rs])), (kd, .inl (kkd, 4002, .inl (upd (fun _ => 0) (4001 : Int32).toNatClampNeg 4))), (pl, .inl (kpl, 4002, .inl (fun _ => 0))), (va, .inl (kva, 4002, .inr (.inl (fun _ => 0))))] s.heap.size = A at hD ⊢
  have hA : ∀ q : Nat, s.heap.size ≤ q → A q := fun q h => by rw [← hAe]; exact Or.inr h
  have hS : va_S A s.heap s.heap [] := va_S.rf
  have hP : va_P (dC, dI) vwCl [(h0, .inr (10, [.ref kd, .ref pl, .ref va, .int 0, .int 0, .ref tp, .ref rs])), (kd, .inl (kkd, 4002, .inl (upd (fun _ => 0) (4001 : Int32).toNatClampNeg 4))), (pl, .inl (kpl, 4002, .inl (fun _ => 0))), (va, .inl (kva, 4002, .inr (.inl (fun _ => 0))))] s.heap := hP
  have hl := lv_entry ([.ref h0]) (n := 4) (Nat.le_of_ble_eq_true rfl)
  rw [lg_entry_eq]
  generalize (lg_sl ([.ref h0]) ++ List.replicate (4 - (lg_sl ([.ref h0])).length) Slot.unset).toArray = ls at hl ⊢
  have hl : lv_has ls 4 [(0, .ref h0)] := hl
  refine lv_aload_n hx hb dX10_read_0 rfl (lv_at hl 0 rfl) ?_
  refine lv_iconst (v := 0) hx hb dX10_read_1 (by decide) ?_
  refine va_put (D := (dC, dI)) (ci := 10) (v := .int 0) (ty := (tyX10 3)) (C := RX10) (T := TX10) (N := 7) hx hb hts in_X10 tyX10 tyX10_ok nmX10 hown hK hP hD hS 0 rfl rfl 3 (by decide) (hts _ wd_100) (fun _ h9 => h9) rfl (tyX10_ok 3 (by decide)) rfl rfl (Nat.le_of_ble_eq_true rfl) dX10_read_2 (fun H locs hP hD hS => ?_)
  have hP : va_P (dC, dI) vwCl [(h0, .inr (10, [.ref kd, .ref pl, .ref va, .int 0, .int 0, .ref tp, .ref rs])), (kd, .inl (kkd, 4002, .inl (upd (fun _ => 0) (4001 : Int32).toNatClampNeg 4))), (pl, .inl (kpl, 4002, .inl (fun _ => 0))), (va, .inl (kva, 4002, .inr (.inl (fun _ => 0))))] H := hP
  have hD : va_D A [(h0, .inr (10, [.ref kd, .ref pl, .ref va, .int 0, .int 0, .ref tp, .ref rs])), (kd, .inl (kkd, 4002, .inl (upd (fun _ => 0) (4001 : Int32).toNatClampNeg 4))), (pl, .inl (kpl, 4002, .inl (fun _ => 0))), (va, .inl (kva, 4002, .inr (.inl (fun _ => 0))))] := hD
  refine lv_iconst (v := 0) hx hb dX10_read_5 (by decide) ?_
  refine lv_istore_n (lv' := [(1, .int 0), (0, .ref h0)]) hx hb dX10_read_6 rfl hl (by decide) rfl (fun ls hl => ?_)
  refine lv_iconst (v := 0) hx hb dX10_read_7 (by decide) ?_
  refine lv_istore_n (lv' := [(2, .int 0), (1, .int 0), (0, .ref h0)]) hx hb dX10_read_8 rfl hl (by decide) rfl (fun ls hl => ?_)
  refine lv_iload_n hx hb dX10_read_9 rfl (lv_at hl 0 rfl) ?_
  refine lv_sipush (v := 4000) hx hb dX10_read_10 (by decide) ?_
  refine lv_icmp_ge (tgt := 104) hx hb dX10_read_13 (by decide) (fun h => absurd h (by decide)) (fun _ => ?_)
  refine lv_iload_n hx hb dX10_read_16 rfl (lv_at hl 1 rfl) ?_
  refine lv_aload_n hx hb dX10_read_17 rfl (lv_at hl 2 rfl) ?_
  refine va_get (D := (dC, dI)) (ci := 10) (v := .int 0) (C := RX10) (T := TX10) (N := 7) hx hb hts in_X10 hown hK hP 0 rfl rfl 4 (by decide) (hts _ wd_103) (fun _ h9 => h9) rfl dX10_read_18 ?_
  refine lv_icmp_ge (tgt := 104) hx hb dX10_read_21 (by decide) (fun _ => ?_) (fun h => absurd (by decide) h)
  refine lv_aload_n hx hb dX10_read_104 rfl (lv_at hl 2 rfl) ?_
  refine lv_iconst (v := 0) hx hb dX10_read_105 (by decide) ?_
  refine lv_aload_n hx hb dX10_read_106 rfl (lv_at hl 2 rfl) ?_
  refine va_get (D := (dC, dI)) (ci := 10) (v := .int 0) (C := RX10) (T := TX10) (N := 7) hx hb hts in_X10 hown hK hP 0 rfl rfl 4 (by decide) (hts _ wd_103) (fun _ h9 => h9) rfl dX10_read_107 ?_
  refine lv_lconst (v := 0) hx hb dX10_read_110 (by decide) ?_
  have hPc := hP.sub (ws' := [(h0, .inr (10, [.ref kd, .ref pl, .ref va, .int 0, .int 0, .ref tp, .ref rs])), (kd, .inl (kkd, 4002, .inl (upd (fun _ => 0) (4001 : Int32).toNatClampNeg 4))), (pl, .inl (kpl, 4002, .inl (fun _ => 0))), (va, .inl (kva, 4002, .inr (.inl (fun _ => 0))))]) [0, 1, 2, 3] rfl
  have hDc := hD.sub (ws' := [(h0, .inr (10, [.ref kd, .ref pl, .ref va, .int 0, .int 0, .ref tp, .ref rs])), (kd, .inl (kkd, 4002, .inl (upd (fun _ => 0) (4001 : Int32).toNatClampNeg 4))), (pl, .inl (kpl, 4002, .inl (fun _ => 0))), (va, .inl (kva, 4002, .inr (.inl (fun _ => 0))))]) [0, 1, 2, 3] (by decide) rfl
  have hKc := hK.sub (tys' := [(kkd, .int), (kpl, .int), (kva, .long)]) [0, 1, 2] rfl
  have hFc := va_free (wc := [(h0, .inr (10, [.ref kd, .ref pl, .ref va, .int 0, .int 0, .ref tp, .ref rs])), (kd, .inl (kkd, 4002, .inl (upd (fun _ => 0) (4001 : Int32).toNatClampNeg 4))), (pl, .inl (kpl, 4002, .inl (fun _ => 0))), (va, .inl (kva, 4002, .inr (.inl (fun _ => 0))))]) hD hS hA [0, 1, 2, 3] rfl
  refine va_callv (va_runV (As := [.int 0, .int 0, .long 0]) (rest := []) ⟨hx, hb, hml, hown, hts⟩ (ct_X10_keep l dC dI h0 kd pl va tp rs kkd kpl kva H.size) (cwV 3 hts (gd_V wd_527 wd_529 sl_X10_keep wd_2 wd_530) rfl rfl rfl (by decide +kernel) ⟨Nat.le_of_ble_eq_true rfl, Nat.le_of_ble_eq_true rfl⟩) ⟨fun a U g mk q => by obtain ⟨q0, q1, qP, qK, qD⟩ := q; exact ⟨q0, q1, qP, va_K.moved (u := U) (U := U.calling g mk a) (Vm.Alike.refl U.vm) qK, qD⟩, va_recv hKc hPc (ci := 10) (q0 := 0) rfl rfl, fun U hU hW => ⟨rfl, by rw [hU], by rw [hU]; exact hPc, va_K.moved hW.alike hKc, hDc.weaken (fun _ _ _ _ => trivial)⟩⟩ rfl rfl hl.1 rfl (lv_room (Nat.le_of_ble_eq_true rfl)) dX10_read_111 ⟨Nat.le_of_ble_eq_true rfl, Nat.le_of_ble_eq_true rfl⟩) hS (fun q _ h => hFc q h) hFc (fun u t H1 locs ht hvm hw hB hz1 hk1 hS => ?_)
  obtain ⟨hP1, hK1, hD1⟩ := hB
  rw [ht] at hP1
  have hK1 := va_K.moved hvm.symm hK1
  obtain ⟨hP, hD⟩ := va_join (wr := []) (w1 := [(h0, .inr (10, [.ref kd, .ref pl, .ref va, .int 1, .int 0, .ref tp, .ref rs])), (kd, .inl (kkd, 4002, .inl (upd (upd (fun _ => 0) (4001 : Int32).toNatClampNeg 4) (0 : Int32).toNatClampNeg 0))), (pl, .inl (kpl, 4002, .inl (fun _ => 0))), (va, .inl (kva, 4002, .inr (.inl (fun _ => 0))))]) hP hD [0, 1, 2, 3] [] rfl rfl (by decide) (by decide) hk1 hFc hP1 hD1
  have hK := (hK.sub (tys' := [(kkd, .int), (kpl, .int), (kva, .long)]) [0, 1, 2] rfl).app (hK1.sub (tys' := []) [] rfl)
  generalize H1 = H at hP hS ⊢
  have hP : va_P (dC, dI) vwCl [(h0, .inr (10, [.ref kd, .ref pl, .ref va, .int 1, .int 0, .ref tp, .ref rs])), (kd, .inl (kkd, 4002, .inl (upd (upd (fun _ => 0) (4001 : Int32).toNatClampNeg 4) (0 : Int32).toNatClampNeg 0))), (pl, .inl (kpl, 4002, .inl (fun _ => 0))), (va, .inl (kva, 4002, .inr (.inl (fun _ => 0))))] H := hP
  have hD : va_D A [(h0, .inr (10, [.ref kd, .ref pl, .ref va, .int 1, .int 0, .ref tp, .ref rs])), (kd, .inl (kkd, 4002, .inl (upd (upd (fun _ => 0) (4001 : Int32).toNatClampNeg 4) (0 : Int32).toNatClampNeg 0))), (pl, .inl (kpl, 4002, .inl (fun _ => 0))), (va, .inl (kva, 4002, .inr (.inl (fun _ => 0))))] := hD
  have hK : va_K (dC, dI) vwCl [(kkd, .int), (kpl, .int), (kva, .long)] s := hK
  refine lv_aload_n hx hb dX10_read_114 rfl (lv_at hl 2 rfl) ?_
  refine lv_iconst (v := 0) hx hb dX10_read_115 (by decide) ?_
  refine va_put (D := (dC, dI)) (ci := 10) (v := .int 0) (ty := (tyX10 4)) (C := RX10) (T := TX10) (N := 7) hx hb hts in_X10 tyX10 tyX10_ok nmX10 hown hK hP hD hS 0 rfl rfl 4 (by decide) (hts _ wd_103) (fun _ h9 => h9) rfl (tyX10_ok 4 (by decide)) rfl rfl (Nat.le_of_ble_eq_true rfl) dX10_read_116 (fun H locs hP hD hS => ?_)
  have hP : va_P (dC, dI) vwCl [(h0, .inr (10, [.ref kd, .ref pl, .ref va, .int 1, .int 0, .ref tp, .ref rs])), (kd, .inl (kkd, 4002, .inl (upd (upd (fun _ => 0) (4001 : Int32).toNatClampNeg 4) (0 : Int32).toNatClampNeg 0))), (pl, .inl (kpl, 4002, .inl (fun _ => 0))), (va, .inl (kva, 4002, .inr (.inl (fun _ => 0))))] H := hP
  have hD : va_D A [(h0, .inr (10, [.ref kd, .ref pl, .ref va, .int 1, .int 0, .ref tp, .ref rs])), (kd, .inl (kkd, 4002, .inl (upd (upd (fun _ => 0) (4001 : Int32).toNatClampNeg 4) (0 : Int32).toNatClampNeg 0))), (pl, .inl (kpl, 4002, .inl (fun _ => 0))), (va, .inl (kva, 4002, .inr (.inl (fun _ => 0))))] := hD
  have hP9 := hP.sub (ws' := [(h0, .inr (10, [.ref kd, .ref pl, .ref va, .int 1, .int 0, .ref tp, .ref rs])), (kd, .inl (kkd, 4002, .inl (upd (upd (fun _ => 0) (4001 : Int32).toNatClampNeg 4) (0 : Int32).toNatClampNeg 0))), (pl, .inl (kpl, 4002, .inl (fun _ => 0))), (va, .inl (kva, 4002, .inr (.inl (fun _ => 0))))]) [0, 1, 2, 3] rfl
  have hD9 := hD.sub (ws' := [(h0, .inr (10, [.ref kd, .ref pl, .ref va, .int 1, .int 0, .ref tp, .ref rs])), (kd, .inl (kkd, 4002, .inl (upd (upd (fun _ => 0) (4001 : Int32).toNatClampNeg 4) (0 : Int32).toNatClampNeg 0))), (pl, .inl (kpl, 4002, .inl (fun _ => 0))), (va, .inl (kva, 4002, .inr (.inl (fun _ => 0))))]) [0, 1, 2, 3] (by decide) rfl
  have hK9 := hK.sub (tys' := []) [] rfl
  refine W.widen (k := 0) (n := 0) (Nat.le_of_ble_eq_true rfl) (Nat.le_of_ble_eq_true rfl) ?_
  exact W.vret hx hb hr (fun t ht hW => ⟨⟨(), rfl, trivial, by rw [ht]; exact hP9, va_K.moved hW.alike hK9, hD9⟩, hS.F ht⟩) hS.2.2 dX10_read_119
set_option maxHeartbeats 4000000 in
set_option maxRecDepth 100000 in
theorem ct_X10_onlyWord (l : Launch) (dC : Nat → ClassId) (dI : Nat → Nat → Nat) (h0 : Nat) (kd : Nat) (pl : Nat) (va : Nat) (tp : Nat) (rs : Nat) (sz : Nat) : Met l yX10_onlyWord (.code yX10_onlyWord cX10_onlyWord 1 (some .long) :: tb) ({ frames := 0, cells := 0, slots := 0, locals := 0 }) (va_Pc [.ref h0] (fun U => U.heap.size = sz ∧ va_P (dC, dI) vwCl [(h0, .inr (10, [.ref kd, .ref pl, .ref va, .int 1, .int 0, .ref tp, .ref rs]))] U.heap ∧ va_K (dC, dI) vwCl [] U ∧ va_D (fun _ => True) [(h0, .inr (10, [.ref kd, .ref pl, .ref va, .int 1, .int 0, .ref tp, .ref rs]))])) (va_Ql (fun (r : Int64) (_ : Unit) => r = 0) (fun (_ : Unit) t => va_P (dC, dI) vwCl [] t.heap ∧ va_K (dC, dI) vwCl [] t ∧ va_D (va_A [(h0, .inr (10, [.ref kd, .ref pl, .ref va, .int 1, .int 0, .ref tp, .ref rs]))] sz) []) (va_A [(h0, .inr (10, [.ref kd, .ref pl, .ref va, .int 1, .int 0, .ref tp, .ref rs]))] sz)) 0 0 (va_A [(h0, .inr (10, [.ref kd, .ref pl, .ref va, .int 1, .int 0, .ref tp, .ref rs]))] sz) := by
  refine Met.ofW (cc := cX10_onlyWord) (maxL := 1) (ret := (some .long)) (by decide) rfl ?_
  intro p e s m args below meth c s₁ B hml hv
  obtain ⟨rfl, hsz, hP, hK, hD0⟩ := hv
  have hx := B.exec
  have hb := B.bytes
  have hr := B.returns
  have hts : ∀ w ∈ tb, w.before _ s = true := fun w h => atoms_spec (ws := (.code yX10_onlyWord cX10_onlyWord 1 (some .long) :: tb)) B.pre w (List.mem_cons_of_mem _ h)
  have hown : s.vm.findClass RX10 = some m.cls := findClass_of_methodNamed B.named
  have hlocks := B.notSynchronized
  subst hsz
  have hD := hD0.self (sz := s.heap.size)
  generalize hAe : va_A [(h0, .inr (10, [.ref kd, .ref pl, .ref va, .int 1, .int 0, .ref tp, .ref rs]))] s.heap.size = A at hD ⊢
  have hA : ∀ q : Nat, s.heap.size ≤ q → A q := fun q h => by rw [← hAe]; exact Or.inr h
  have hS : va_S A s.heap s.heap [] := va_S.rf
  have hP : va_P (dC, dI) vwCl [(h0, .inr (10, [.ref kd, .ref pl, .ref va, .int 1, .int 0, .ref tp, .ref rs]))] s.heap := hP
  have hl := lv_entry ([.ref h0]) (n := 1) (Nat.le_of_ble_eq_true rfl)
  rw [lg_entry_eq]
  generalize (lg_sl ([.ref h0]) ++ List.replicate (1 - (lg_sl ([.ref h0])).length) Slot.unset).toArray = ls at hl ⊢
  have hl : lv_has ls 1 [(0, .ref h0)] := hl
  refine lv_aload_n hx hb dX10_onlyWord_0 rfl (lv_at hl 0 rfl) ?_
  refine va_get (D := (dC, dI)) (ci := 10) (v := .int 1) (C := RX10) (T := TX10) (N := 7) hx hb hts in_X10 hown hK hP 0 rfl rfl 3 (by decide) (hts _ wd_100) (fun _ h9 => h9) rfl dX10_onlyWord_1 ?_
  refine lv_iconst (v := 2) hx hb dX10_onlyWord_4 (by decide) ?_
  refine lv_icmp_ne (tgt := 27) hx hb dX10_onlyWord_5 (by decide) (fun _ => ?_) (fun h => absurd h (by decide))
  refine lv_lconst (v := 0) hx hb dX10_onlyWord_27 (by decide) ?_
  have hP9 := hP.sub (ws' := []) [] rfl
  have hD9 := hD.sub (ws' := []) [] (by decide) rfl
  have hK9 := hK.sub (tys' := []) [] rfl
  refine W.widen (k := 0) (n := 0) (Nat.le_of_ble_eq_true rfl) (Nat.le_of_ble_eq_true rfl) ?_
  exact W.lret (v := 0) hx hb hr (fun t ht hW => ⟨⟨0, (), rfl, rfl, by rw [ht]; exact hP9, va_K.moved hW.alike hK9, hD9⟩, hS.F ht⟩) hS.2.2 dX10_onlyWord_28
set_option maxHeartbeats 4000000 in
set_option maxRecDepth 100000 in
theorem ct_X5_has (l : Launch) (dC : Nat → ClassId) (dI : Nat → Nat → Nat) (h0 : Nat) (q : Nat → Nat) (sc : Nat) (k : Int32) (sz : Nat) : Met l yX5_has (.code yX5_has cX5_has 2 (some .boolean) :: tb) ({ frames := 0, cells := 0, slots := 0, locals := 0 }) (va_Pc [.ref h0, .int k] (fun U => U.heap.size = sz ∧ va_P (dC, dI) vwCl [(h0, .inr (5, [.int 0, .ref (q 0), .ref (q 1), .ref (q 2), .ref sc, .int 0, .ref (q 3), .ref (q 4), .ref (q 5), .ref (q 6), .ref (q 7), .ref (q 8), .ref (q 9), .ref (q 10)]))] U.heap ∧ va_K (dC, dI) vwCl [] U ∧ va_D (fun _ => True) [(h0, .inr (5, [.int 0, .ref (q 0), .ref (q 1), .ref (q 2), .ref sc, .int 0, .ref (q 3), .ref (q 4), .ref (q 5), .ref (q 6), .ref (q 7), .ref (q 8), .ref (q 9), .ref (q 10)]))])) (va_Qi (fun (r : Int32) (_ : Unit) => r = 0) (fun (_ : Unit) t => va_P (dC, dI) vwCl [] t.heap ∧ va_K (dC, dI) vwCl [] t ∧ va_D (va_A [(h0, .inr (5, [.int 0, .ref (q 0), .ref (q 1), .ref (q 2), .ref sc, .int 0, .ref (q 3), .ref (q 4), .ref (q 5), .ref (q 6), .ref (q 7), .ref (q 8), .ref (q 9), .ref (q 10)]))] sz) []) (va_A [(h0, .inr (5, [.int 0, .ref (q 0), .ref (q 1), .ref (q 2), .ref sc, .int 0, .ref (q 3), .ref (q 4), .ref (q 5), .ref (q 6), .ref (q 7), .ref (q 8), .ref (q 9), .ref (q 10)]))] sz)) 0 0 (va_A [(h0, .inr (5, [.int 0, .ref (q 0), .ref (q 1), .ref (q 2), .ref sc, .int 0, .ref (q 3), .ref (q 4), .ref (q 5), .ref (q 6), .ref (q 7), .ref (q 8), .ref (q 9), .ref (q 10)]))] sz) := by
  refine Met.ofW (cc := cX5_has) (maxL := 2) (ret := (some .boolean)) (by decide) rfl ?_
  intro p e s m args below meth c s₁ B hml hv
  obtain ⟨rfl, hsz, hP, hK, hD0⟩ := hv
  have hx := B.exec
  have hb := B.bytes
  have hr := B.returns
  have hts : ∀ w ∈ tb, w.before _ s = true := fun w h => atoms_spec (ws := (.code yX5_has cX5_has 2 (some .boolean) :: tb)) B.pre w (List.mem_cons_of_mem _ h)
  have hown : s.vm.findClass RX5 = some m.cls := findClass_of_methodNamed B.named
  have hlocks := B.notSynchronized
  subst hsz
  have hD := hD0.self (sz := s.heap.size)
  generalize hAe : va_A [(h0, .inr (5, [.int 0, .ref (q 0), .ref (q 1), .ref (q 2), .ref sc, .int 0, .ref (q 3), .ref (q 4), .ref (q 5), .ref (q 6), .ref (q 7), .ref (q 8), .ref (q 9), .ref (q 10)]))] s.heap.size = A at hD ⊢
  have hA : ∀ q : Nat, s.heap.size ≤ q → A q := fun q h => by rw [← hAe]; exact Or.inr h
  have hS : va_S A s.heap s.heap [] := va_S.rf
  have hP : va_P (dC, dI) vwCl [(h0, .inr (5, [.int 0, .ref (q 0), .ref (q 1), .ref (q 2), .ref sc, .int 0, .ref (q 3), .ref (q 4), .ref (q 5), .ref (q 6), .ref (q 7), .ref (q 8), .ref (q 9), .ref (q 10)]))] s.heap := hP
  have hl := lv_entry ([.ref h0, .int k]) (n := 2) (Nat.le_of_ble_eq_true rfl)
  rw [lg_entry_eq]
  generalize (lg_sl ([.ref h0, .int k]) ++ List.replicate (2 - (lg_sl ([.ref h0, .int k])).length) Slot.unset).toArray = ls at hl ⊢
  have hl : lv_has ls 2 [(0, .ref h0), (1, .int k)] := hl
  refine lv_iload_n hx hb dX5_has_0 rfl (lv_at hl 1 rfl) ?_
  refine lv_if_lt (tgt := 16) hx hb dX5_has_1 (by decide) (fun c1 => ?_) (fun c1 => ?_)
  · refine lv_iconst (v := 0) hx hb dX5_has_16 (by decide) ?_
    have hP9 := hP.sub (ws' := []) [] rfl
    have hD9 := hD.sub (ws' := []) [] (by decide) rfl
    have hK9 := hK.sub (tys' := []) [] rfl
    refine W.widen (k := 0) (n := 0) (Nat.le_of_ble_eq_true rfl) (Nat.le_of_ble_eq_true rfl) ?_
    exact W.zret (v := 0) hx hb hr rfl (fun t ht hW => ⟨⟨0, (), rfl, rfl, by rw [ht]; exact hP9, va_K.moved hW.alike hK9, hD9⟩, hS.F ht⟩) hS.2.2 dX5_has_17
  · refine lv_iload_n hx hb dX5_has_4 rfl (lv_at hl 1 rfl) ?_
    refine lv_aload_n hx hb dX5_has_5 rfl (lv_at hl 0 rfl) ?_
    refine va_get (D := (dC, dI)) (ci := 5) (v := .int 0) (C := RX5) (T := TX5) (N := 14) hx hb hts in_X5 hown hK hP 0 rfl rfl 5 (by decide) (hts _ wd_413) (fun _ h9 => h9) rfl dX5_has_6 ?_
    refine lv_icmp_ge (tgt := 16) hx hb dX5_has_9 (by decide) (fun c2 => ?_) (fun c2 => ?_)
    · refine lv_iconst (v := 0) hx hb dX5_has_16 (by decide) ?_
      have hP9 := hP.sub (ws' := []) [] rfl
      have hD9 := hD.sub (ws' := []) [] (by decide) rfl
      have hK9 := hK.sub (tys' := []) [] rfl
      refine W.widen (k := 0) (n := 0) (Nat.le_of_ble_eq_true rfl) (Nat.le_of_ble_eq_true rfl) ?_
      exact W.zret (v := 0) hx hb hr rfl (fun t ht hW => ⟨⟨0, (), rfl, rfl, by rw [ht]; exact hP9, va_K.moved hW.alike hK9, hD9⟩, hS.F ht⟩) hS.2.2 dX5_has_17
    · exact px_dead (by first | exact absurd c2 c1 | exact absurd c1 c2 | exact absurd (Int32.not_lt.mp c1) c2 | exact absurd (Int32.not_le.mp c1) c2 | exact absurd c2 (Int32.not_lt.mpr c1) | exact absurd c2 (Int32.not_le.mpr c1))
set_option maxHeartbeats 4000000 in
set_option maxRecDepth 100000 in
theorem ct_X5_hasState (l : Launch) (dC : Nat → ClassId) (dI : Nat → Nat → Nat) (h0 : Nat) (q : Nat → Nat) (sc : Nat) (k : Int32) (st : Int32) (sz : Nat) : Met l yX5_hasState (.code yX5_hasState cX5_hasState 3 (some .boolean) :: tb) ({ frames := 1, cells := 0, slots := 0, locals := 21 }) (va_Pc [.ref h0, .int k, .int st] (fun U => U.heap.size = sz ∧ va_P (dC, dI) vwCl [(h0, .inr (5, [.int 0, .ref (q 0), .ref (q 1), .ref (q 2), .ref sc, .int 0, .ref (q 3), .ref (q 4), .ref (q 5), .ref (q 6), .ref (q 7), .ref (q 8), .ref (q 9), .ref (q 10)]))] U.heap ∧ va_K (dC, dI) vwCl [] U ∧ va_D (fun _ => True) [(h0, .inr (5, [.int 0, .ref (q 0), .ref (q 1), .ref (q 2), .ref sc, .int 0, .ref (q 3), .ref (q 4), .ref (q 5), .ref (q 6), .ref (q 7), .ref (q 8), .ref (q 9), .ref (q 10)]))])) (va_Qi (fun (r : Int32) (_ : Unit) => r = 0) (fun (_ : Unit) t => va_P (dC, dI) vwCl [] t.heap ∧ va_K (dC, dI) vwCl [] t ∧ va_D (va_A [(h0, .inr (5, [.int 0, .ref (q 0), .ref (q 1), .ref (q 2), .ref sc, .int 0, .ref (q 3), .ref (q 4), .ref (q 5), .ref (q 6), .ref (q 7), .ref (q 8), .ref (q 9), .ref (q 10)]))] sz) []) (va_A [(h0, .inr (5, [.int 0, .ref (q 0), .ref (q 1), .ref (q 2), .ref sc, .int 0, .ref (q 3), .ref (q 4), .ref (q 5), .ref (q 6), .ref (q 7), .ref (q 8), .ref (q 9), .ref (q 10)]))] sz)) 0 0 (va_A [(h0, .inr (5, [.int 0, .ref (q 0), .ref (q 1), .ref (q 2), .ref sc, .int 0, .ref (q 3), .ref (q 4), .ref (q 5), .ref (q 6), .ref (q 7), .ref (q 8), .ref (q 9), .ref (q 10)]))] sz) := by
  refine Met.ofW (cc := cX5_hasState) (maxL := 3) (ret := (some .boolean)) (by decide) rfl ?_
  intro p e s m args below meth c s₁ B hml hv
  obtain ⟨rfl, hsz, hP, hK, hD0⟩ := hv
  have hx := B.exec
  have hb := B.bytes
  have hr := B.returns
  have hts : ∀ w ∈ tb, w.before _ s = true := fun w h => atoms_spec (ws := (.code yX5_hasState cX5_hasState 3 (some .boolean) :: tb)) B.pre w (List.mem_cons_of_mem _ h)
  have hown : s.vm.findClass RX5 = some m.cls := findClass_of_methodNamed B.named
  have hlocks := B.notSynchronized
  subst hsz
  have hD := hD0.self (sz := s.heap.size)
  generalize hAe : va_A [(h0, .inr (5, [.int 0, .ref (q 0), .ref (q 1), .ref (q 2), .ref sc, .int 0, .ref (q 3), .ref (q 4), .ref (q 5), .ref (q 6), .ref (q 7), .ref (q 8), .ref (q 9), .ref (q 10)]))] s.heap.size = A at hD ⊢
  have hA : ∀ q : Nat, s.heap.size ≤ q → A q := fun q h => by rw [← hAe]; exact Or.inr h
  have hS : va_S A s.heap s.heap [] := va_S.rf
  have hP : va_P (dC, dI) vwCl [(h0, .inr (5, [.int 0, .ref (q 0), .ref (q 1), .ref (q 2), .ref sc, .int 0, .ref (q 3), .ref (q 4), .ref (q 5), .ref (q 6), .ref (q 7), .ref (q 8), .ref (q 9), .ref (q 10)]))] s.heap := hP
  have hl := lv_entry ([.ref h0, .int k, .int st]) (n := 3) (Nat.le_of_ble_eq_true rfl)
  rw [lg_entry_eq]
  generalize (lg_sl ([.ref h0, .int k, .int st]) ++ List.replicate (3 - (lg_sl ([.ref h0, .int k, .int st])).length) Slot.unset).toArray = ls at hl ⊢
  have hl : lv_has ls 3 [(0, .ref h0), (1, .int k), (2, .int st)] := hl
  refine lv_aload_n hx hb dX5_hasState_0 rfl (lv_at hl 0 rfl) ?_
  refine lv_iload_n hx hb dX5_hasState_1 rfl (lv_at hl 1 rfl) ?_
  have hPc := hP.sub (ws' := [(h0, .inr (5, [.int 0, .ref (q 0), .ref (q 1), .ref (q 2), .ref sc, .int 0, .ref (q 3), .ref (q 4), .ref (q 5), .ref (q 6), .ref (q 7), .ref (q 8), .ref (q 9), .ref (q 10)]))]) [0] rfl
  have hDc := hD.sub (ws' := [(h0, .inr (5, [.int 0, .ref (q 0), .ref (q 1), .ref (q 2), .ref sc, .int 0, .ref (q 3), .ref (q 4), .ref (q 5), .ref (q 6), .ref (q 7), .ref (q 8), .ref (q 9), .ref (q 10)]))]) [0] (by decide) rfl
  have hKc := hK.sub (tys' := []) [] rfl
  have hFc := va_free (wc := [(h0, .inr (5, [.int 0, .ref (q 0), .ref (q 1), .ref (q 2), .ref sc, .int 0, .ref (q 3), .ref (q 4), .ref (q 5), .ref (q 6), .ref (q 7), .ref (q 8), .ref (q 9), .ref (q 10)]))]) hD hS hA [0] rfl
  refine va_calli (va_runV (As := [.int k]) (rest := []) ⟨hx, hb, hml, hown, hts⟩ (ct_X5_has l dC dI h0 q sc k s.heap.size) (cwV 1 hts (gd_V wd_648 wd_649 wd_650 wd_13 wd_651) rfl rfl rfl (by decide +kernel) ⟨Nat.le_of_ble_eq_true rfl, Nat.le_of_ble_eq_true rfl⟩) ⟨fun a U g mk q => by obtain ⟨q0, q1, qP, qK, qD⟩ := q; exact ⟨q0, q1, qP, va_K.moved (u := U) (U := U.calling g mk a) (Vm.Alike.refl U.vm) qK, qD⟩, va_recv hKc hPc (ci := 5) (q0 := 0) rfl rfl, fun U hU hW => ⟨rfl, by rw [hU], by rw [hU]; exact hPc, va_K.moved hW.alike hKc, hDc.weaken (fun _ _ _ _ => trivial)⟩⟩ rfl rfl hl.1 rfl (lv_room (Nat.le_of_ble_eq_true rfl)) dX5_hasState_2 ⟨Nat.le_of_ble_eq_true rfl, Nat.le_of_ble_eq_true rfl⟩) hS (fun q _ h => hFc q h) hFc (fun r1 u t H1 locs ht hvm hw hB hz1 hk1 hS => ?_)
  obtain ⟨hP1, hK1, hD1⟩ := hB
  rw [ht] at hP1
  have hK1 := va_K.moved hvm.symm hK1
  obtain ⟨hP, hD⟩ := va_join (wr := []) (w1 := []) hP hD [0] [] rfl rfl (by decide) (by decide) hk1 hFc hP1 hD1
  have hK := (hK.sub (tys' := []) [] rfl).app (hK1.sub (tys' := []) [] rfl)
  generalize H1 = H at hP hS ⊢
  have hP : va_P (dC, dI) vwCl [] H := hP
  have hD : va_D A [] := hD
  have hK : va_K (dC, dI) vwCl [] s := hK
  obtain rfl := hw
  refine lv_if_eq (tgt := 26) hx hb dX5_hasState_5 (by decide) (fun _ => ?_) (fun h => absurd (by decide) h)
  refine lv_iconst (v := 0) hx hb dX5_hasState_26 (by decide) ?_
  have hP9 := hP.sub (ws' := []) [] rfl
  have hD9 := hD.sub (ws' := []) [] (by decide) rfl
  have hK9 := hK.sub (tys' := []) [] rfl
  refine W.widen (k := 0) (n := 0) (Nat.le_of_ble_eq_true rfl) (Nat.le_of_ble_eq_true rfl) ?_
  exact W.zret (v := 0) hx hb hr rfl (fun t ht hW => ⟨⟨0, (), rfl, rfl, by rw [ht]; exact hP9, va_K.moved hW.alike hK9, hD9⟩, hS.F ht⟩) hS.2.2 dX5_hasState_27
set_option maxHeartbeats 4000000 in
set_option maxRecDepth 100000 in
theorem ct_X1_has (l : Launch) (dC : Nat → ClassId) (dI : Nat → Nat → Nat) (h0 : Nat) (pv : Value) (xt : Nat) (xr : Nat) (le : Nat) (lc : Nat) (ln : Nat) (al : Nat) (lo : Nat) (xg : Nat) (k : Int32) (sz : Nat) : Met l yX1_has (.code yX1_has cX1_has 2 (some .boolean) :: tb) ({ frames := 0, cells := 0, slots := 0, locals := 0 }) (va_Pc [.ref h0, .int k] (fun U => U.heap.size = sz ∧ va_P (dC, dI) vwCl [(h0, .inr (1, [pv, .ref xt, .int 0, .int 0, .ref xr, .int 0, .int 0, .ref le, .ref lc, .ref ln, .ref al, .ref lo, .ref xg, .int 0, .null]))] U.heap ∧ va_K (dC, dI) vwCl [] U ∧ va_D (fun _ => True) [(h0, .inr (1, [pv, .ref xt, .int 0, .int 0, .ref xr, .int 0, .int 0, .ref le, .ref lc, .ref ln, .ref al, .ref lo, .ref xg, .int 0, .null]))])) (va_Qi (fun (r : Int32) (_ : Unit) => r = 0) (fun (_ : Unit) t => va_P (dC, dI) vwCl [] t.heap ∧ va_K (dC, dI) vwCl [] t ∧ va_D (va_A [(h0, .inr (1, [pv, .ref xt, .int 0, .int 0, .ref xr, .int 0, .int 0, .ref le, .ref lc, .ref ln, .ref al, .ref lo, .ref xg, .int 0, .null]))] sz) []) (va_A [(h0, .inr (1, [pv, .ref xt, .int 0, .int 0, .ref xr, .int 0, .int 0, .ref le, .ref lc, .ref ln, .ref al, .ref lo, .ref xg, .int 0, .null]))] sz)) 0 0 (va_A [(h0, .inr (1, [pv, .ref xt, .int 0, .int 0, .ref xr, .int 0, .int 0, .ref le, .ref lc, .ref ln, .ref al, .ref lo, .ref xg, .int 0, .null]))] sz) := by
  refine Met.ofW (cc := cX1_has) (maxL := 2) (ret := (some .boolean)) (by decide) rfl ?_
  intro p e s m args below meth c s₁ B hml hv
  obtain ⟨rfl, hsz, hP, hK, hD0⟩ := hv
  have hx := B.exec
  have hb := B.bytes
  have hr := B.returns
  have hts : ∀ w ∈ tb, w.before _ s = true := fun w h => atoms_spec (ws := (.code yX1_has cX1_has 2 (some .boolean) :: tb)) B.pre w (List.mem_cons_of_mem _ h)
  have hown : s.vm.findClass RX1 = some m.cls := findClass_of_methodNamed B.named
  have hlocks := B.notSynchronized
  subst hsz
  have hD := hD0.self (sz := s.heap.size)
  generalize hAe : va_A [(h0, .inr (1, [pv, .ref xt, .int 0, .int 0, .ref xr, .int 0, .int 0, .ref le, .ref lc, .ref ln, .ref al, .ref lo, .ref xg, .int 0, .null]))] s.heap.size = A at hD ⊢
  have hA : ∀ q : Nat, s.heap.size ≤ q → A q := fun q h => by rw [← hAe]; exact Or.inr h
  have hS : va_S A s.heap s.heap [] := va_S.rf
  have hP : va_P (dC, dI) vwCl [(h0, .inr (1, [pv, .ref xt, .int 0, .int 0, .ref xr, .int 0, .int 0, .ref le, .ref lc, .ref ln, .ref al, .ref lo, .ref xg, .int 0, .null]))] s.heap := hP
  have hl := lv_entry ([.ref h0, .int k]) (n := 2) (Nat.le_of_ble_eq_true rfl)
  rw [lg_entry_eq]
  generalize (lg_sl ([.ref h0, .int k]) ++ List.replicate (2 - (lg_sl ([.ref h0, .int k])).length) Slot.unset).toArray = ls at hl ⊢
  have hl : lv_has ls 2 [(0, .ref h0), (1, .int k)] := hl
  refine lv_iload_n hx hb dX1_has_0 rfl (lv_at hl 1 rfl) ?_
  refine lv_if_lt (tgt := 16) hx hb dX1_has_1 (by decide) (fun c1 => ?_) (fun c1 => ?_)
  · refine lv_iconst (v := 0) hx hb dX1_has_16 (by decide) ?_
    have hP9 := hP.sub (ws' := []) [] rfl
    have hD9 := hD.sub (ws' := []) [] (by decide) rfl
    have hK9 := hK.sub (tys' := []) [] rfl
    refine W.widen (k := 0) (n := 0) (Nat.le_of_ble_eq_true rfl) (Nat.le_of_ble_eq_true rfl) ?_
    exact W.zret (v := 0) hx hb hr rfl (fun t ht hW => ⟨⟨0, (), rfl, rfl, by rw [ht]; exact hP9, va_K.moved hW.alike hK9, hD9⟩, hS.F ht⟩) hS.2.2 dX1_has_17
  · refine lv_iload_n hx hb dX1_has_4 rfl (lv_at hl 1 rfl) ?_
    refine lv_aload_n hx hb dX1_has_5 rfl (lv_at hl 0 rfl) ?_
    refine va_get (D := (dC, dI)) (ci := 1) (v := .int 0) (C := RX1) (T := TX1) (N := 15) hx hb hts in_X1 hown hK hP 0 rfl rfl 2 (by decide) (hts _ wd_237) (fun _ h9 => h9) rfl dX1_has_6 ?_
    refine lv_icmp_ge (tgt := 16) hx hb dX1_has_9 (by decide) (fun c2 => ?_) (fun c2 => ?_)
    · refine lv_iconst (v := 0) hx hb dX1_has_16 (by decide) ?_
      have hP9 := hP.sub (ws' := []) [] rfl
      have hD9 := hD.sub (ws' := []) [] (by decide) rfl
      have hK9 := hK.sub (tys' := []) [] rfl
      refine W.widen (k := 0) (n := 0) (Nat.le_of_ble_eq_true rfl) (Nat.le_of_ble_eq_true rfl) ?_
      exact W.zret (v := 0) hx hb hr rfl (fun t ht hW => ⟨⟨0, (), rfl, rfl, by rw [ht]; exact hP9, va_K.moved hW.alike hK9, hD9⟩, hS.F ht⟩) hS.2.2 dX1_has_17
    · exact px_dead (by first | exact absurd c2 c1 | exact absurd c1 c2 | exact absurd (Int32.not_lt.mp c1) c2 | exact absurd (Int32.not_le.mp c1) c2 | exact absurd c2 (Int32.not_lt.mpr c1) | exact absurd c2 (Int32.not_le.mpr c1))
set_option maxHeartbeats 4000000 in
set_option maxRecDepth 100000 in
theorem ct_X1_leaveRow (l : Launch) (dC : Nat → ClassId) (dI : Nat → Nat → Nat) (h0 : Nat) (pv : Value) (xt : Nat) (xr : Nat) (le : Nat) (lc : Nat) (ln : Nat) (al : Nat) (lo : Nat) (xg : Nat) (k : Int32) (sz : Nat) : Met l yX1_leaveRow (.code yX1_leaveRow cX1_leaveRow 4 (some (.object "Sleepers$Task")) :: tb) ({ frames := 0, cells := 0, slots := 0, locals := 0 }) (va_Pc [.ref h0, .int k] (fun U => U.heap.size = sz ∧ va_P (dC, dI) vwCl [(h0, .inr (1, [pv, .ref xt, .int 0, .int 0, .ref xr, .int 0, .int 0, .ref le, .ref lc, .ref ln, .ref al, .ref lo, .ref xg, .int 0, .null]))] U.heap ∧ va_K (dC, dI) vwCl [] U ∧ va_D (fun _ => True) [(h0, .inr (1, [pv, .ref xt, .int 0, .int 0, .ref xr, .int 0, .int 0, .ref le, .ref lc, .ref ln, .ref al, .ref lo, .ref xg, .int 0, .null]))])) (qn_Q (fun (_ : Unit) t => va_P (dC, dI) vwCl [] t.heap ∧ va_K (dC, dI) vwCl [] t ∧ va_D (va_A [(h0, .inr (1, [pv, .ref xt, .int 0, .int 0, .ref xr, .int 0, .int 0, .ref le, .ref lc, .ref ln, .ref al, .ref lo, .ref xg, .int 0, .null]))] sz) []) (va_A [(h0, .inr (1, [pv, .ref xt, .int 0, .int 0, .ref xr, .int 0, .int 0, .ref le, .ref lc, .ref ln, .ref al, .ref lo, .ref xg, .int 0, .null]))] sz)) 0 0 (va_A [(h0, .inr (1, [pv, .ref xt, .int 0, .int 0, .ref xr, .int 0, .int 0, .ref le, .ref lc, .ref ln, .ref al, .ref lo, .ref xg, .int 0, .null]))] sz) := by
  refine Met.ofW (cc := cX1_leaveRow) (maxL := 4) (ret := (some (.object "Sleepers$Task"))) (by decide) rfl ?_
  intro p e s m args below meth c s₁ B hml hv
  obtain ⟨rfl, hsz, hP, hK, hD0⟩ := hv
  have hx := B.exec
  have hb := B.bytes
  have hr := B.returns
  have hts : ∀ w ∈ tb, w.before _ s = true := fun w h => atoms_spec (ws := (.code yX1_leaveRow cX1_leaveRow 4 (some (.object "Sleepers$Task")) :: tb)) B.pre w (List.mem_cons_of_mem _ h)
  have hown : s.vm.findClass RX1 = some m.cls := findClass_of_methodNamed B.named
  have hlocks := B.notSynchronized
  subst hsz
  have hD := hD0.self (sz := s.heap.size)
  generalize hAe : va_A [(h0, .inr (1, [pv, .ref xt, .int 0, .int 0, .ref xr, .int 0, .int 0, .ref le, .ref lc, .ref ln, .ref al, .ref lo, .ref xg, .int 0, .null]))] s.heap.size = A at hD ⊢
  have hA : ∀ q : Nat, s.heap.size ≤ q → A q := fun q h => by rw [← hAe]; exact Or.inr h
  have hS : va_S A s.heap s.heap [] := va_S.rf
  have hP : va_P (dC, dI) vwCl [(h0, .inr (1, [pv, .ref xt, .int 0, .int 0, .ref xr, .int 0, .int 0, .ref le, .ref lc, .ref ln, .ref al, .ref lo, .ref xg, .int 0, .null]))] s.heap := hP
  have hl := lv_entry ([.ref h0, .int k]) (n := 4) (Nat.le_of_ble_eq_true rfl)
  rw [lg_entry_eq]
  generalize (lg_sl ([.ref h0, .int k]) ++ List.replicate (4 - (lg_sl ([.ref h0, .int k])).length) Slot.unset).toArray = ls at hl ⊢
  have hl : lv_has ls 4 [(0, .ref h0), (1, .int k)] := hl
  refine lv_iload_n hx hb dX1_leaveRow_0 rfl (lv_at hl 1 rfl) ?_
  refine lv_if_lt (tgt := 12) hx hb dX1_leaveRow_1 (by decide) (fun c1 => ?_) (fun c1 => ?_)
  · refine lv_null hx hb dX1_leaveRow_12 ?_
    have hP9 := hP.sub (ws' := []) [] rfl
    have hD9 := hD.sub (ws' := []) [] (by decide) rfl
    have hK9 := hK.sub (tys' := []) [] rfl
    refine W.widen (k := 0) (n := 0) (Nat.le_of_ble_eq_true rfl) (Nat.le_of_ble_eq_true rfl) ?_
    exact W.aret (v := .null) hx hb hr (Or.inl ⟨_, rfl⟩) (Or.inl rfl) (fun t ht hW => ⟨⟨rfl, by rw [ht]; exact hP9, va_K.moved hW.alike hK9, hD9⟩, hS.F ht⟩) hS.2.2 dX1_leaveRow_13
  · refine lv_iload_n hx hb dX1_leaveRow_4 rfl (lv_at hl 1 rfl) ?_
    refine lv_aload_n hx hb dX1_leaveRow_5 rfl (lv_at hl 0 rfl) ?_
    refine va_get (D := (dC, dI)) (ci := 1) (v := .int 0) (C := RX1) (T := TX1) (N := 15) hx hb hts in_X1 hown hK hP 0 rfl rfl 5 (by decide) (hts _ wd_243) (fun _ h9 => h9) rfl dX1_leaveRow_6 ?_
    refine lv_icmp_lt (tgt := 14) hx hb dX1_leaveRow_9 (by decide) (fun c2 => ?_) (fun c2 => ?_)
    · exact px_dead (by first | exact absurd c2 c1 | exact absurd c1 c2 | exact absurd (Int32.not_lt.mp c1) c2 | exact absurd (Int32.not_le.mp c1) c2 | exact absurd c2 (Int32.not_lt.mpr c1) | exact absurd c2 (Int32.not_le.mpr c1))
    · refine lv_null hx hb dX1_leaveRow_12 ?_
      have hP9 := hP.sub (ws' := []) [] rfl
      have hD9 := hD.sub (ws' := []) [] (by decide) rfl
      have hK9 := hK.sub (tys' := []) [] rfl
      refine W.widen (k := 0) (n := 0) (Nat.le_of_ble_eq_true rfl) (Nat.le_of_ble_eq_true rfl) ?_
      exact W.aret (v := .null) hx hb hr (Or.inl ⟨_, rfl⟩) (Or.inl rfl) (fun t ht hW => ⟨⟨rfl, by rw [ht]; exact hP9, va_K.moved hW.alike hK9, hD9⟩, hS.F ht⟩) hS.2.2 dX1_leaveRow_13
set_option maxHeartbeats 4000000 in
set_option maxRecDepth 100000 in
theorem ct_X1_callOff (l : Launch) (dC : Nat → ClassId) (dI : Nat → Nat → Nat) (h0 : Nat) (pv : Value) (xt : Nat) (xr : Nat) (le : Nat) (lc : Nat) (ln : Nat) (al : Nat) (lo : Nat) (xg : Nat) (k : Int32) (sz : Nat) : Met l yX1_callOff (.code yX1_callOff cX1_callOff 3 (some .boolean) :: tb) ({ frames := 1, cells := 0, slots := 0, locals := 21 }) (va_Pc [.ref h0, .int k] (fun U => U.heap.size = sz ∧ va_P (dC, dI) vwCl [(h0, .inr (1, [pv, .ref xt, .int 0, .int 0, .ref xr, .int 0, .int 0, .ref le, .ref lc, .ref ln, .ref al, .ref lo, .ref xg, .int 0, .null]))] U.heap ∧ va_K (dC, dI) vwCl [] U ∧ va_D (fun _ => True) [(h0, .inr (1, [pv, .ref xt, .int 0, .int 0, .ref xr, .int 0, .int 0, .ref le, .ref lc, .ref ln, .ref al, .ref lo, .ref xg, .int 0, .null]))])) (va_Qi (fun (r : Int32) (_ : Unit) => r = 0) (fun (_ : Unit) t => va_P (dC, dI) vwCl [] t.heap ∧ va_K (dC, dI) vwCl [] t ∧ va_D (va_A [(h0, .inr (1, [pv, .ref xt, .int 0, .int 0, .ref xr, .int 0, .int 0, .ref le, .ref lc, .ref ln, .ref al, .ref lo, .ref xg, .int 0, .null]))] sz) []) (va_A [(h0, .inr (1, [pv, .ref xt, .int 0, .int 0, .ref xr, .int 0, .int 0, .ref le, .ref lc, .ref ln, .ref al, .ref lo, .ref xg, .int 0, .null]))] sz)) 0 0 (va_A [(h0, .inr (1, [pv, .ref xt, .int 0, .int 0, .ref xr, .int 0, .int 0, .ref le, .ref lc, .ref ln, .ref al, .ref lo, .ref xg, .int 0, .null]))] sz) := by
  refine Met.ofW (cc := cX1_callOff) (maxL := 3) (ret := (some .boolean)) (by decide) rfl ?_
  intro p e s m args below meth c s₁ B hml hv
  obtain ⟨rfl, hsz, hP, hK, hD0⟩ := hv
  have hx := B.exec
  have hb := B.bytes
  have hr := B.returns
  have hts : ∀ w ∈ tb, w.before _ s = true := fun w h => atoms_spec (ws := (.code yX1_callOff cX1_callOff 3 (some .boolean) :: tb)) B.pre w (List.mem_cons_of_mem _ h)
  have hown : s.vm.findClass RX1 = some m.cls := findClass_of_methodNamed B.named
  have hlocks := B.notSynchronized
  subst hsz
  have hD := hD0.self (sz := s.heap.size)
  generalize hAe : va_A [(h0, .inr (1, [pv, .ref xt, .int 0, .int 0, .ref xr, .int 0, .int 0, .ref le, .ref lc, .ref ln, .ref al, .ref lo, .ref xg, .int 0, .null]))] s.heap.size = A at hD ⊢
  have hA : ∀ q : Nat, s.heap.size ≤ q → A q := fun q h => by rw [← hAe]; exact Or.inr h
  have hS : va_S A s.heap s.heap [] := va_S.rf
  have hP : va_P (dC, dI) vwCl [(h0, .inr (1, [pv, .ref xt, .int 0, .int 0, .ref xr, .int 0, .int 0, .ref le, .ref lc, .ref ln, .ref al, .ref lo, .ref xg, .int 0, .null]))] s.heap := hP
  have hl := lv_entry ([.ref h0, .int k]) (n := 3) (Nat.le_of_ble_eq_true rfl)
  rw [lg_entry_eq]
  generalize (lg_sl ([.ref h0, .int k]) ++ List.replicate (3 - (lg_sl ([.ref h0, .int k])).length) Slot.unset).toArray = ls at hl ⊢
  have hl : lv_has ls 3 [(0, .ref h0), (1, .int k)] := hl
  refine lv_aload_n hx hb dX1_callOff_0 rfl (lv_at hl 0 rfl) ?_
  refine lv_iload_n hx hb dX1_callOff_1 rfl (lv_at hl 1 rfl) ?_
  have hPc := hP.sub (ws' := [(h0, .inr (1, [(pv : Value), .ref xt, .int 0, .int 0, .ref xr, .int 0, .int 0, .ref le, .ref lc, .ref ln, .ref al, .ref lo, .ref xg, .int 0, .null]))]) [0] rfl
  have hDc := hD.sub (ws' := [(h0, .inr (1, [(pv : Value), .ref xt, .int 0, .int 0, .ref xr, .int 0, .int 0, .ref le, .ref lc, .ref ln, .ref al, .ref lo, .ref xg, .int 0, .null]))]) [0] (by decide) rfl
  have hKc := hK.sub (tys' := []) [] rfl
  have hFc := va_free (wc := [(h0, .inr (1, [(pv : Value), .ref xt, .int 0, .int 0, .ref xr, .int 0, .int 0, .ref le, .ref lc, .ref ln, .ref al, .ref lo, .ref xg, .int 0, .null]))]) hD hS hA [0] rfl
  refine va_calli (va_runV (As := [.int k]) (rest := []) ⟨hx, hb, hml, hown, hts⟩ (ct_X1_has l dC dI h0 (pv : Value) xt xr le lc ln al lo xg k s.heap.size) (cwV 1 hts (gd_V wd_1240 wd_1241 wd_1242 wd_9 wd_1243) rfl rfl rfl (by decide +kernel) ⟨Nat.le_of_ble_eq_true rfl, Nat.le_of_ble_eq_true rfl⟩) ⟨fun a U g mk q => by obtain ⟨q0, q1, qP, qK, qD⟩ := q; exact ⟨q0, q1, qP, va_K.moved (u := U) (U := U.calling g mk a) (Vm.Alike.refl U.vm) qK, qD⟩, va_recv hKc hPc (ci := 1) (q0 := 0) rfl rfl, fun U hU hW => ⟨rfl, by rw [hU], by rw [hU]; exact hPc, va_K.moved hW.alike hKc, hDc.weaken (fun _ _ _ _ => trivial)⟩⟩ rfl rfl hl.1 rfl (lv_room (Nat.le_of_ble_eq_true rfl)) dX1_callOff_2 ⟨Nat.le_of_ble_eq_true rfl, Nat.le_of_ble_eq_true rfl⟩) hS (fun q _ h => hFc q h) hFc (fun r1 u t H1 locs ht hvm hw hB hz1 hk1 hS => ?_)
  obtain ⟨hP1, hK1, hD1⟩ := hB
  rw [ht] at hP1
  have hK1 := va_K.moved hvm.symm hK1
  obtain ⟨hP, hD⟩ := va_join (wr := []) (w1 := []) hP hD [0] [] rfl rfl (by decide) (by decide) hk1 hFc hP1 hD1
  have hK := (hK.sub (tys' := []) [] rfl).app (hK1.sub (tys' := []) [] rfl)
  generalize H1 = H at hP hS ⊢
  have hP : va_P (dC, dI) vwCl [] H := hP
  have hD : va_D A [] := hD
  have hK : va_K (dC, dI) vwCl [] s := hK
  obtain rfl := hw
  refine lv_if_eq (tgt := 33) hx hb dX1_callOff_5 (by decide) (fun _ => ?_) (fun h => absurd (by decide) h)
  refine lv_iconst (v := 0) hx hb dX1_callOff_33 (by decide) ?_
  have hP9 := hP.sub (ws' := []) [] rfl
  have hD9 := hD.sub (ws' := []) [] (by decide) rfl
  have hK9 := hK.sub (tys' := []) [] rfl
  refine W.widen (k := 0) (n := 0) (Nat.le_of_ble_eq_true rfl) (Nat.le_of_ble_eq_true rfl) ?_
  exact W.zret (v := 0) hx hb hr rfl (fun t ht hW => ⟨⟨0, (), rfl, rfl, by rw [ht]; exact hP9, va_K.moved hW.alike hK9, hD9⟩, hS.F ht⟩) hS.2.2 dX1_callOff_34
set_option maxHeartbeats 4000000 in
set_option maxRecDepth 100000 in
theorem ct_X1_lettersLying (l : Launch) (dC : Nat → ClassId) (dI : Nat → Nat → Nat) (h0 : Nat) (pv : Value) (xt : Nat) (xr : Nat) (le : Nat) (lc : Nat) (ln : Nat) (al : Nat) (lo : Nat) (xg : Nat) (klc : ClassId) (sz : Nat) : Met l yX1_lettersLying (.code yX1_lettersLying cX1_lettersLying 3 (some .int) :: tb) ({ frames := 0, cells := 0, slots := 0, locals := 0 }) (va_Pc [.ref h0] (fun U => U.heap.size = sz ∧ va_P (dC, dI) vwCl [(h0, .inr (1, [pv, .ref xt, .int 0, .int 0, .ref xr, .int 0, .int 0, .ref le, .ref lc, .ref ln, .ref al, .ref lo, .ref xg, .int 0, .null])), (lc, .inl (klc, 8, .inl (fun _ => 0)))] U.heap ∧ va_K (dC, dI) vwCl [(klc, .int)] U ∧ va_D (fun _ => True) [(h0, .inr (1, [pv, .ref xt, .int 0, .int 0, .ref xr, .int 0, .int 0, .ref le, .ref lc, .ref ln, .ref al, .ref lo, .ref xg, .int 0, .null])), (lc, .inl (klc, 8, .inl (fun _ => 0)))])) (va_Qi (fun (r : Int32) (_ : Unit) => r = 0) (fun (_ : Unit) t => va_P (dC, dI) vwCl [] t.heap ∧ va_K (dC, dI) vwCl [] t ∧ va_D (va_A [(h0, .inr (1, [pv, .ref xt, .int 0, .int 0, .ref xr, .int 0, .int 0, .ref le, .ref lc, .ref ln, .ref al, .ref lo, .ref xg, .int 0, .null])), (lc, .inl (klc, 8, .inl (fun _ => 0)))] sz) []) (va_A [(h0, .inr (1, [pv, .ref xt, .int 0, .int 0, .ref xr, .int 0, .int 0, .ref le, .ref lc, .ref ln, .ref al, .ref lo, .ref xg, .int 0, .null])), (lc, .inl (klc, 8, .inl (fun _ => 0)))] sz)) 0 0 (va_A [(h0, .inr (1, [pv, .ref xt, .int 0, .int 0, .ref xr, .int 0, .int 0, .ref le, .ref lc, .ref ln, .ref al, .ref lo, .ref xg, .int 0, .null])), (lc, .inl (klc, 8, .inl (fun _ => 0)))] sz) := by
  refine Met.ofW (cc := cX1_lettersLying) (maxL := 3) (ret := (some .int)) (by decide) rfl ?_
  intro p e s m args below meth c s₁ B hml hv
  obtain ⟨rfl, hsz, hP, hK, hD0⟩ := hv
  have hx := B.exec
  have hb := B.bytes
  have hr := B.returns
  have hts : ∀ w ∈ tb, w.before _ s = true := fun w h => atoms_spec (ws := (.code yX1_lettersLying cX1_lettersLying 3 (some .int) :: tb)) B.pre w (List.mem_cons_of_mem _ h)
  have hown : s.vm.findClass RX1 = some m.cls := findClass_of_methodNamed B.named
  have hlocks := B.notSynchronized
  subst hsz
  have hD := hD0.self (sz := s.heap.size)
  generalize hAe : va_A [(h0, .inr (1, [pv, .ref xt, .int 0, .int 0, .ref xr, .int 0, .int 0, .ref le, .ref lc, .ref ln, .ref al, .ref lo, .ref xg, .int 0, .null])), (lc, .inl (klc, 8, .inl (fun _ => 0)))] s.heap.size = A at hD ⊢
  have hA : ∀ q : Nat, s.heap.size ≤ q → A q := fun q h => by rw [← hAe]; exact Or.inr h
  have hS : va_S A s.heap s.heap [] := va_S.rf
  have hP : va_P (dC, dI) vwCl [(h0, .inr (1, [pv, .ref xt, .int 0, .int 0, .ref xr, .int 0, .int 0, .ref le, .ref lc, .ref ln, .ref al, .ref lo, .ref xg, .int 0, .null])), (lc, .inl (klc, 8, .inl (fun _ => 0)))] s.heap := hP
  have hl := lv_entry ([.ref h0]) (n := 3) (Nat.le_of_ble_eq_true rfl)
  rw [lg_entry_eq]
  generalize (lg_sl ([.ref h0]) ++ List.replicate (3 - (lg_sl ([.ref h0])).length) Slot.unset).toArray = ls at hl ⊢
  have hl : lv_has ls 3 [(0, .ref h0)] := hl
  refine lv_iconst (v := 0) hx hb dX1_lettersLying_0 (by decide) ?_
  refine lv_istore_n (lv' := [(1, .int 0), (0, .ref h0)]) hx hb dX1_lettersLying_1 rfl hl (by decide) rfl (fun ls hl => ?_)
  refine lv_iconst (v := 0) hx hb dX1_lettersLying_2 (by decide) ?_
  refine lv_istore_n (lv' := [(2, .int 0), (1, .int 0), (0, .ref h0)]) hx hb dX1_lettersLying_3 rfl hl (by decide) rfl (fun ls hl => ?_)
  refine lv_iload_n hx hb dX1_lettersLying_4 rfl (lv_at hl 0 rfl) ?_
  refine lv_bipush (v := 8) hx hb dX1_lettersLying_5 (by decide) ?_
  refine lv_icmp_ge (tgt := 25) hx hb dX1_lettersLying_7 (by decide) (fun h => absurd h (by decide)) (fun _ => ?_)
  refine lv_iload_n hx hb dX1_lettersLying_10 rfl (lv_at hl 1 rfl) ?_
  refine lv_aload_n hx hb dX1_lettersLying_11 rfl (lv_at hl 2 rfl) ?_
  refine va_get (D := (dC, dI)) (ci := 1) (v := .ref lc) (C := RX1) (T := TX1) (N := 15) hx hb hts in_X1 hown hK hP 0 rfl rfl 8 (by decide) (hts _ wd_250) (fun _ h9 => h9) rfl dX1_lettersLying_12 ?_
  refine lv_iload_n hx hb dX1_lettersLying_15 rfl (lv_at hl 0 rfl) ?_
  refine va_iald hx hb hK hP 1 0 rfl rfl (px_in 0 8 (by decide +kernel)) dX1_lettersLying_16 ?_
  refine lv_topi (fun z1 ez1 => ?_)
  obtain rfl : z1 = 0 := ez1.trans (by first | rfl | decide)
  refine lv_iadd hx hb dX1_lettersLying_17 ?_
  refine lv_topi (fun z2 ez2 => ?_)
  obtain rfl : z2 = 0 := ez2.trans (by decide)
  refine lv_istore_n (lv' := [(1, .int 0), (2, .int 0), (0, .ref h0)]) hx hb dX1_lettersLying_18 rfl hl (by decide) rfl (fun ls hl => ?_)
  refine lv_iinc (v := 1) (lv' := [(2, .int 1), (1, .int 0), (0, .ref h0)]) hx hb dX1_lettersLying_19 hl (k := 1) rfl (by decide) (by decide) rfl (fun ls hl => ?_)
  refine lv_goto (tgt := 4) hx hb dX1_lettersLying_22 (by decide) ?_
  refine lv_iload_n hx hb dX1_lettersLying_4 rfl (lv_at hl 0 rfl) ?_
  refine lv_bipush (v := 8) hx hb dX1_lettersLying_5 (by decide) ?_
  refine lv_icmp_ge (tgt := 25) hx hb dX1_lettersLying_7 (by decide) (fun h => absurd h (by decide)) (fun _ => ?_)
  refine lv_iload_n hx hb dX1_lettersLying_10 rfl (lv_at hl 1 rfl) ?_
  refine lv_aload_n hx hb dX1_lettersLying_11 rfl (lv_at hl 2 rfl) ?_
  refine va_get (D := (dC, dI)) (ci := 1) (v := .ref lc) (C := RX1) (T := TX1) (N := 15) hx hb hts in_X1 hown hK hP 0 rfl rfl 8 (by decide) (hts _ wd_250) (fun _ h9 => h9) rfl dX1_lettersLying_12 ?_
  refine lv_iload_n hx hb dX1_lettersLying_15 rfl (lv_at hl 0 rfl) ?_
  refine va_iald hx hb hK hP 1 0 rfl rfl (px_in 1 8 (by decide +kernel)) dX1_lettersLying_16 ?_
  refine lv_topi (fun z3 ez3 => ?_)
  obtain rfl : z3 = 0 := ez3.trans (by first | rfl | decide)
  refine lv_iadd hx hb dX1_lettersLying_17 ?_
  refine lv_topi (fun z4 ez4 => ?_)
  obtain rfl : z4 = 0 := ez4.trans (by decide)
  refine lv_istore_n (lv' := [(1, .int 0), (2, .int 1), (0, .ref h0)]) hx hb dX1_lettersLying_18 rfl hl (by decide) rfl (fun ls hl => ?_)
  refine lv_iinc (v := 2) (lv' := [(2, .int 2), (1, .int 0), (0, .ref h0)]) hx hb dX1_lettersLying_19 hl (k := 1) rfl (by decide) (by decide) rfl (fun ls hl => ?_)
  refine lv_goto (tgt := 4) hx hb dX1_lettersLying_22 (by decide) ?_
  refine lv_iload_n hx hb dX1_lettersLying_4 rfl (lv_at hl 0 rfl) ?_
  refine lv_bipush (v := 8) hx hb dX1_lettersLying_5 (by decide) ?_
  refine lv_icmp_ge (tgt := 25) hx hb dX1_lettersLying_7 (by decide) (fun h => absurd h (by decide)) (fun _ => ?_)
  refine lv_iload_n hx hb dX1_lettersLying_10 rfl (lv_at hl 1 rfl) ?_
  refine lv_aload_n hx hb dX1_lettersLying_11 rfl (lv_at hl 2 rfl) ?_
  refine va_get (D := (dC, dI)) (ci := 1) (v := .ref lc) (C := RX1) (T := TX1) (N := 15) hx hb hts in_X1 hown hK hP 0 rfl rfl 8 (by decide) (hts _ wd_250) (fun _ h9 => h9) rfl dX1_lettersLying_12 ?_
  refine lv_iload_n hx hb dX1_lettersLying_15 rfl (lv_at hl 0 rfl) ?_
  refine va_iald hx hb hK hP 1 0 rfl rfl (px_in 2 8 (by decide +kernel)) dX1_lettersLying_16 ?_
  refine lv_topi (fun z5 ez5 => ?_)
  obtain rfl : z5 = 0 := ez5.trans (by first | rfl | decide)
  refine lv_iadd hx hb dX1_lettersLying_17 ?_
  refine lv_topi (fun z6 ez6 => ?_)
  obtain rfl : z6 = 0 := ez6.trans (by decide)
  refine lv_istore_n (lv' := [(1, .int 0), (2, .int 2), (0, .ref h0)]) hx hb dX1_lettersLying_18 rfl hl (by decide) rfl (fun ls hl => ?_)
  refine lv_iinc (v := 3) (lv' := [(2, .int 3), (1, .int 0), (0, .ref h0)]) hx hb dX1_lettersLying_19 hl (k := 1) rfl (by decide) (by decide) rfl (fun ls hl => ?_)
  refine lv_goto (tgt := 4) hx hb dX1_lettersLying_22 (by decide) ?_
  refine lv_iload_n hx hb dX1_lettersLying_4 rfl (lv_at hl 0 rfl) ?_
  refine lv_bipush (v := 8) hx hb dX1_lettersLying_5 (by decide) ?_
  refine lv_icmp_ge (tgt := 25) hx hb dX1_lettersLying_7 (by decide) (fun h => absurd h (by decide)) (fun _ => ?_)
  refine lv_iload_n hx hb dX1_lettersLying_10 rfl (lv_at hl 1 rfl) ?_
  refine lv_aload_n hx hb dX1_lettersLying_11 rfl (lv_at hl 2 rfl) ?_
  refine va_get (D := (dC, dI)) (ci := 1) (v := .ref lc) (C := RX1) (T := TX1) (N := 15) hx hb hts in_X1 hown hK hP 0 rfl rfl 8 (by decide) (hts _ wd_250) (fun _ h9 => h9) rfl dX1_lettersLying_12 ?_
  refine lv_iload_n hx hb dX1_lettersLying_15 rfl (lv_at hl 0 rfl) ?_
  refine va_iald hx hb hK hP 1 0 rfl rfl (px_in 3 8 (by decide +kernel)) dX1_lettersLying_16 ?_
  refine lv_topi (fun z7 ez7 => ?_)
  obtain rfl : z7 = 0 := ez7.trans (by first | rfl | decide)
  refine lv_iadd hx hb dX1_lettersLying_17 ?_
  refine lv_topi (fun z8 ez8 => ?_)
  obtain rfl : z8 = 0 := ez8.trans (by decide)
  refine lv_istore_n (lv' := [(1, .int 0), (2, .int 3), (0, .ref h0)]) hx hb dX1_lettersLying_18 rfl hl (by decide) rfl (fun ls hl => ?_)
  refine lv_iinc (v := 4) (lv' := [(2, .int 4), (1, .int 0), (0, .ref h0)]) hx hb dX1_lettersLying_19 hl (k := 1) rfl (by decide) (by decide) rfl (fun ls hl => ?_)
  refine lv_goto (tgt := 4) hx hb dX1_lettersLying_22 (by decide) ?_
  refine lv_iload_n hx hb dX1_lettersLying_4 rfl (lv_at hl 0 rfl) ?_
  refine lv_bipush (v := 8) hx hb dX1_lettersLying_5 (by decide) ?_
  refine lv_icmp_ge (tgt := 25) hx hb dX1_lettersLying_7 (by decide) (fun h => absurd h (by decide)) (fun _ => ?_)
  refine lv_iload_n hx hb dX1_lettersLying_10 rfl (lv_at hl 1 rfl) ?_
  refine lv_aload_n hx hb dX1_lettersLying_11 rfl (lv_at hl 2 rfl) ?_
  refine va_get (D := (dC, dI)) (ci := 1) (v := .ref lc) (C := RX1) (T := TX1) (N := 15) hx hb hts in_X1 hown hK hP 0 rfl rfl 8 (by decide) (hts _ wd_250) (fun _ h9 => h9) rfl dX1_lettersLying_12 ?_
  refine lv_iload_n hx hb dX1_lettersLying_15 rfl (lv_at hl 0 rfl) ?_
  refine va_iald hx hb hK hP 1 0 rfl rfl (px_in 4 8 (by decide +kernel)) dX1_lettersLying_16 ?_
  refine lv_topi (fun z9 ez9 => ?_)
  obtain rfl : z9 = 0 := ez9.trans (by first | rfl | decide)
  refine lv_iadd hx hb dX1_lettersLying_17 ?_
  refine lv_topi (fun z10 ez10 => ?_)
  obtain rfl : z10 = 0 := ez10.trans (by decide)
  refine lv_istore_n (lv' := [(1, .int 0), (2, .int 4), (0, .ref h0)]) hx hb dX1_lettersLying_18 rfl hl (by decide) rfl (fun ls hl => ?_)
  refine lv_iinc (v := 5) (lv' := [(2, .int 5), (1, .int 0), (0, .ref h0)]) hx hb dX1_lettersLying_19 hl (k := 1) rfl (by decide) (by decide) rfl (fun ls hl => ?_)
  refine lv_goto (tgt := 4) hx hb dX1_lettersLying_22 (by decide) ?_
  refine lv_iload_n hx hb dX1_lettersLying_4 rfl (lv_at hl 0 rfl) ?_
  refine lv_bipush (v := 8) hx hb dX1_lettersLying_5 (by decide) ?_
  refine lv_icmp_ge (tgt := 25) hx hb dX1_lettersLying_7 (by decide) (fun h => absurd h (by decide)) (fun _ => ?_)
  refine lv_iload_n hx hb dX1_lettersLying_10 rfl (lv_at hl 1 rfl) ?_
  refine lv_aload_n hx hb dX1_lettersLying_11 rfl (lv_at hl 2 rfl) ?_
  refine va_get (D := (dC, dI)) (ci := 1) (v := .ref lc) (C := RX1) (T := TX1) (N := 15) hx hb hts in_X1 hown hK hP 0 rfl rfl 8 (by decide) (hts _ wd_250) (fun _ h9 => h9) rfl dX1_lettersLying_12 ?_
  refine lv_iload_n hx hb dX1_lettersLying_15 rfl (lv_at hl 0 rfl) ?_
  refine va_iald hx hb hK hP 1 0 rfl rfl (px_in 5 8 (by decide +kernel)) dX1_lettersLying_16 ?_
  refine lv_topi (fun z11 ez11 => ?_)
  obtain rfl : z11 = 0 := ez11.trans (by first | rfl | decide)
  refine lv_iadd hx hb dX1_lettersLying_17 ?_
  refine lv_topi (fun z12 ez12 => ?_)
  obtain rfl : z12 = 0 := ez12.trans (by decide)
  refine lv_istore_n (lv' := [(1, .int 0), (2, .int 5), (0, .ref h0)]) hx hb dX1_lettersLying_18 rfl hl (by decide) rfl (fun ls hl => ?_)
  refine lv_iinc (v := 6) (lv' := [(2, .int 6), (1, .int 0), (0, .ref h0)]) hx hb dX1_lettersLying_19 hl (k := 1) rfl (by decide) (by decide) rfl (fun ls hl => ?_)
  refine lv_goto (tgt := 4) hx hb dX1_lettersLying_22 (by decide) ?_
  refine lv_iload_n hx hb dX1_lettersLying_4 rfl (lv_at hl 0 rfl) ?_
  refine lv_bipush (v := 8) hx hb dX1_lettersLying_5 (by decide) ?_
  refine lv_icmp_ge (tgt := 25) hx hb dX1_lettersLying_7 (by decide) (fun h => absurd h (by decide)) (fun _ => ?_)
  refine lv_iload_n hx hb dX1_lettersLying_10 rfl (lv_at hl 1 rfl) ?_
  refine lv_aload_n hx hb dX1_lettersLying_11 rfl (lv_at hl 2 rfl) ?_
  refine va_get (D := (dC, dI)) (ci := 1) (v := .ref lc) (C := RX1) (T := TX1) (N := 15) hx hb hts in_X1 hown hK hP 0 rfl rfl 8 (by decide) (hts _ wd_250) (fun _ h9 => h9) rfl dX1_lettersLying_12 ?_
  refine lv_iload_n hx hb dX1_lettersLying_15 rfl (lv_at hl 0 rfl) ?_
  refine va_iald hx hb hK hP 1 0 rfl rfl (px_in 6 8 (by decide +kernel)) dX1_lettersLying_16 ?_
  refine lv_topi (fun z13 ez13 => ?_)
  obtain rfl : z13 = 0 := ez13.trans (by first | rfl | decide)
  refine lv_iadd hx hb dX1_lettersLying_17 ?_
  refine lv_topi (fun z14 ez14 => ?_)
  obtain rfl : z14 = 0 := ez14.trans (by decide)
  refine lv_istore_n (lv' := [(1, .int 0), (2, .int 6), (0, .ref h0)]) hx hb dX1_lettersLying_18 rfl hl (by decide) rfl (fun ls hl => ?_)
  refine lv_iinc (v := 7) (lv' := [(2, .int 7), (1, .int 0), (0, .ref h0)]) hx hb dX1_lettersLying_19 hl (k := 1) rfl (by decide) (by decide) rfl (fun ls hl => ?_)
  refine lv_goto (tgt := 4) hx hb dX1_lettersLying_22 (by decide) ?_
  refine lv_iload_n hx hb dX1_lettersLying_4 rfl (lv_at hl 0 rfl) ?_
  refine lv_bipush (v := 8) hx hb dX1_lettersLying_5 (by decide) ?_
  refine lv_icmp_ge (tgt := 25) hx hb dX1_lettersLying_7 (by decide) (fun h => absurd h (by decide)) (fun _ => ?_)
  refine lv_iload_n hx hb dX1_lettersLying_10 rfl (lv_at hl 1 rfl) ?_
  refine lv_aload_n hx hb dX1_lettersLying_11 rfl (lv_at hl 2 rfl) ?_
  refine va_get (D := (dC, dI)) (ci := 1) (v := .ref lc) (C := RX1) (T := TX1) (N := 15) hx hb hts in_X1 hown hK hP 0 rfl rfl 8 (by decide) (hts _ wd_250) (fun _ h9 => h9) rfl dX1_lettersLying_12 ?_
  refine lv_iload_n hx hb dX1_lettersLying_15 rfl (lv_at hl 0 rfl) ?_
  refine va_iald hx hb hK hP 1 0 rfl rfl (px_in 7 8 (by decide +kernel)) dX1_lettersLying_16 ?_
  refine lv_topi (fun z15 ez15 => ?_)
  obtain rfl : z15 = 0 := ez15.trans (by first | rfl | decide)
  refine lv_iadd hx hb dX1_lettersLying_17 ?_
  refine lv_topi (fun z16 ez16 => ?_)
  obtain rfl : z16 = 0 := ez16.trans (by decide)
  refine lv_istore_n (lv' := [(1, .int 0), (2, .int 7), (0, .ref h0)]) hx hb dX1_lettersLying_18 rfl hl (by decide) rfl (fun ls hl => ?_)
  refine lv_iinc (v := 8) (lv' := [(2, .int 8), (1, .int 0), (0, .ref h0)]) hx hb dX1_lettersLying_19 hl (k := 1) rfl (by decide) (by decide) rfl (fun ls hl => ?_)
  refine lv_goto (tgt := 4) hx hb dX1_lettersLying_22 (by decide) ?_
  refine lv_iload_n hx hb dX1_lettersLying_4 rfl (lv_at hl 0 rfl) ?_
  refine lv_bipush (v := 8) hx hb dX1_lettersLying_5 (by decide) ?_
  refine lv_icmp_ge (tgt := 25) hx hb dX1_lettersLying_7 (by decide) (fun _ => ?_) (fun h => absurd (by decide) h)
  refine lv_iload_n hx hb dX1_lettersLying_25 rfl (lv_at hl 1 rfl) ?_
  have hP9 := hP.sub (ws' := []) [] rfl
  have hD9 := hD.sub (ws' := []) [] (by decide) rfl
  have hK9 := hK.sub (tys' := []) [] rfl
  refine W.widen (k := 0) (n := 0) (Nat.le_of_ble_eq_true rfl) (Nat.le_of_ble_eq_true rfl) ?_
  exact W.iret (v := 0) hx hb hr (fun t ht hW => ⟨⟨0, (), rfl, rfl, by rw [ht]; exact hP9, va_K.moved hW.alike hK9, hD9⟩, hS.F ht⟩) hS.2.2 dX1_lettersLying_26
set_option maxHeartbeats 4000000 in
set_option maxRecDepth 100000 in
theorem ct_X0_tell (l : Launch) (dC : Nat → ClassId) (dI : Nat → Nat → Nat) (h0 : Nat) (q : Nat → Nat) (i : Int32) (w : Int32) (sz : Nat) : Met l yX0_tell (.code yX0_tell cX0_tell 3 (some .int) :: tb) ({ frames := 0, cells := 0, slots := 0, locals := 0 }) (va_Pc [.ref h0, .int i, .int w] (fun U => U.heap.size = sz ∧ va_P (dC, dI) vwCl [(h0, .inr (0, [.int 0, .ref (q 0), .ref (q 1)]))] U.heap ∧ va_K (dC, dI) vwCl [] U ∧ va_D (fun _ => True) [(h0, .inr (0, [.int 0, .ref (q 0), .ref (q 1)]))])) (va_Qi (fun (r : Int32) (_ : Unit) => r = -1) (fun (_ : Unit) t => va_P (dC, dI) vwCl [] t.heap ∧ va_K (dC, dI) vwCl [] t ∧ va_D (va_A [(h0, .inr (0, [.int 0, .ref (q 0), .ref (q 1)]))] sz) []) (va_A [(h0, .inr (0, [.int 0, .ref (q 0), .ref (q 1)]))] sz)) 0 0 (va_A [(h0, .inr (0, [.int 0, .ref (q 0), .ref (q 1)]))] sz) := by
  refine Met.ofW (cc := cX0_tell) (maxL := 3) (ret := (some .int)) (by decide) rfl ?_
  intro p e s m args below meth c s₁ B hml hv
  obtain ⟨rfl, hsz, hP, hK, hD0⟩ := hv
  have hx := B.exec
  have hb := B.bytes
  have hr := B.returns
  have hts : ∀ w ∈ tb, w.before _ s = true := fun w h => atoms_spec (ws := (.code yX0_tell cX0_tell 3 (some .int) :: tb)) B.pre w (List.mem_cons_of_mem _ h)
  have hown : s.vm.findClass RX0 = some m.cls := findClass_of_methodNamed B.named
  have hlocks := B.notSynchronized
  subst hsz
  have hD := hD0.self (sz := s.heap.size)
  generalize hAe : va_A [(h0, .inr (0, [.int 0, .ref (q 0), .ref (q 1)]))] s.heap.size = A at hD ⊢
  have hA : ∀ q : Nat, s.heap.size ≤ q → A q := fun q h => by rw [← hAe]; exact Or.inr h
  have hS : va_S A s.heap s.heap [] := va_S.rf
  have hP : va_P (dC, dI) vwCl [(h0, .inr (0, [.int 0, .ref (q 0), .ref (q 1)]))] s.heap := hP
  have hl := lv_entry ([.ref h0, .int i, .int w]) (n := 3) (Nat.le_of_ble_eq_true rfl)
  rw [lg_entry_eq]
  generalize (lg_sl ([.ref h0, .int i, .int w]) ++ List.replicate (3 - (lg_sl ([.ref h0, .int i, .int w])).length) Slot.unset).toArray = ls at hl ⊢
  have hl : lv_has ls 3 [(0, .ref h0), (1, .int i), (2, .int w)] := hl
  refine lv_iload_n hx hb dX0_tell_0 rfl (lv_at hl 1 rfl) ?_
  refine lv_if_lt (tgt := 28) hx hb dX0_tell_1 (by decide) (fun c1 => ?_) (fun c1 => ?_)
  · refine lv_iconst (v := -1) hx hb dX0_tell_28 (by decide) ?_
    have hP9 := hP.sub (ws' := []) [] rfl
    have hD9 := hD.sub (ws' := []) [] (by decide) rfl
    have hK9 := hK.sub (tys' := []) [] rfl
    refine W.widen (k := 0) (n := 0) (Nat.le_of_ble_eq_true rfl) (Nat.le_of_ble_eq_true rfl) ?_
    exact W.iret (v := -1) hx hb hr (fun t ht hW => ⟨⟨-1, (), rfl, rfl, by rw [ht]; exact hP9, va_K.moved hW.alike hK9, hD9⟩, hS.F ht⟩) hS.2.2 dX0_tell_29
  · refine lv_iload_n hx hb dX0_tell_4 rfl (lv_at hl 1 rfl) ?_
    refine lv_aload_n hx hb dX0_tell_5 rfl (lv_at hl 0 rfl) ?_
    refine va_get (D := (dC, dI)) (ci := 0) (v := .int 0) (C := RX0) (T := TX0) (N := 3) hx hb hts in_X0 hown hK hP 0 rfl rfl 0 (by decide) (hts _ wd_222) (fun _ h9 => h9) rfl dX0_tell_6 ?_
    refine lv_icmp_ge (tgt := 28) hx hb dX0_tell_9 (by decide) (fun c2 => ?_) (fun c2 => ?_)
    · refine lv_iconst (v := -1) hx hb dX0_tell_28 (by decide) ?_
      have hP9 := hP.sub (ws' := []) [] rfl
      have hD9 := hD.sub (ws' := []) [] (by decide) rfl
      have hK9 := hK.sub (tys' := []) [] rfl
      refine W.widen (k := 0) (n := 0) (Nat.le_of_ble_eq_true rfl) (Nat.le_of_ble_eq_true rfl) ?_
      exact W.iret (v := -1) hx hb hr (fun t ht hW => ⟨⟨-1, (), rfl, rfl, by rw [ht]; exact hP9, va_K.moved hW.alike hK9, hD9⟩, hS.F ht⟩) hS.2.2 dX0_tell_29
    · exact px_dead (by first | exact absurd c2 c1 | exact absurd c1 c2 | exact absurd (Int32.not_lt.mp c1) c2 | exact absurd (Int32.not_le.mp c1) c2 | exact absurd c2 (Int32.not_lt.mpr c1) | exact absurd c2 (Int32.not_le.mpr c1))
set_option maxHeartbeats 4000000 in
set_option maxRecDepth 100000 in
theorem ct_X2_taskAt (l : Launch) (dC : Nat → ClassId) (dI : Nat → Nat → Nat) (h0 : Nat) (k : Int32) (sz : Nat) : Met l yX2_taskAt (.code yX2_taskAt cX2_taskAt 4 (some .int) :: tb) ({ frames := 0, cells := 0, slots := 0, locals := 0 }) (va_Pc [.ref h0, .int k] (fun U => U.heap.size = sz ∧ va_P (dC, dI) vwCl [(h0, .inr (2, [.null, .null]))] U.heap ∧ va_K (dC, dI) vwCl [] U ∧ va_D (fun _ => True) [(h0, .inr (2, [.null, .null]))])) (va_Qi (fun (r : Int32) (_ : Unit) => r = -1) (fun (_ : Unit) t => va_P (dC, dI) vwCl [] t.heap ∧ va_K (dC, dI) vwCl [] t ∧ va_D (va_A [(h0, .inr (2, [.null, .null]))] sz) []) (va_A [(h0, .inr (2, [.null, .null]))] sz)) 0 0 (va_A [(h0, .inr (2, [.null, .null]))] sz) := by
  refine Met.ofW (cc := cX2_taskAt) (maxL := 4) (ret := (some .int)) (by decide) rfl ?_
  intro p e s m args below meth c s₁ B hml hv
  obtain ⟨rfl, hsz, hP, hK, hD0⟩ := hv
  have hx := B.exec
  have hb := B.bytes
  have hr := B.returns
  have hts : ∀ w ∈ tb, w.before _ s = true := fun w h => atoms_spec (ws := (.code yX2_taskAt cX2_taskAt 4 (some .int) :: tb)) B.pre w (List.mem_cons_of_mem _ h)
  have hown : s.vm.findClass RX2 = some m.cls := findClass_of_methodNamed B.named
  have hlocks := B.notSynchronized
  subst hsz
  have hD := hD0.self (sz := s.heap.size)
  generalize hAe : va_A [(h0, .inr (2, [.null, .null]))] s.heap.size = A at hD ⊢
  have hA : ∀ q : Nat, s.heap.size ≤ q → A q := fun q h => by rw [← hAe]; exact Or.inr h
  have hS : va_S A s.heap s.heap [] := va_S.rf
  have hP : va_P (dC, dI) vwCl [(h0, .inr (2, [.null, .null]))] s.heap := hP
  have hl := lv_entry ([.ref h0, .int k]) (n := 4) (Nat.le_of_ble_eq_true rfl)
  rw [lg_entry_eq]
  generalize (lg_sl ([.ref h0, .int k]) ++ List.replicate (4 - (lg_sl ([.ref h0, .int k])).length) Slot.unset).toArray = ls at hl ⊢
  have hl : lv_has ls 4 [(0, .ref h0), (1, .int k)] := hl
  refine lv_iload_n hx hb dX2_taskAt_0 rfl (lv_at hl 1 rfl) ?_
  refine lv_if_ge (tgt := 8) hx hb dX2_taskAt_1 (by decide) (fun c1 => ?_) (fun c1 => ?_)
  · refine lv_aload_n hx hb dX2_taskAt_8 rfl (lv_at hl 0 rfl) ?_
    refine va_get (D := (dC, dI)) (ci := 2) (v := .null) (C := RX2) (T := TX2) (N := 2) hx hb hts in_X2 hown hK hP 0 rfl rfl 0 (by decide) (hts _ wd_208) (fun _ h9 => h9) rfl dX2_taskAt_9 ?_
    refine lv_astore_nN (lv' := [(2, .null), (0, .ref h0), (1, .int k)]) hx hb dX2_taskAt_12 rfl hl (by decide) rfl (fun ls hl => ?_)
    refine lv_iconst (v := 0) hx hb dX2_taskAt_13 (by decide) ?_
    refine lv_istore_n (lv' := [(3, .int 0), (2, .null), (0, .ref h0), (1, .int k)]) hx hb dX2_taskAt_14 rfl hl (by decide) rfl (fun ls hl => ?_)
    refine lv_iload_n hx hb dX2_taskAt_15 rfl (lv_at hl 0 rfl) ?_
    refine lv_iload_n hx hb dX2_taskAt_16 rfl (lv_at hl 3 rfl) ?_
    refine lv_icmp_ge (tgt := 35) hx hb dX2_taskAt_17 (by decide) (fun c2 => ?_) (fun c2 => ?_)
    · refine lv_aload_nN hx hb dX2_taskAt_35 rfl (lv_at hl 1 rfl) ?_
      refine lv_ifnonnullN hx hb dX2_taskAt_36 ?_
      refine lv_iconst (v := -1) hx hb dX2_taskAt_39 (by decide) ?_
      refine lv_goto (tgt := 50) hx hb dX2_taskAt_40 (by decide) ?_
      have hP9 := hP.sub (ws' := []) [] rfl
      have hD9 := hD.sub (ws' := []) [] (by decide) rfl
      have hK9 := hK.sub (tys' := []) [] rfl
      refine W.widen (k := 0) (n := 0) (Nat.le_of_ble_eq_true rfl) (Nat.le_of_ble_eq_true rfl) ?_
      exact W.iret (v := -1) hx hb hr (fun t ht hW => ⟨⟨-1, (), rfl, rfl, by rw [ht]; exact hP9, va_K.moved hW.alike hK9, hD9⟩, hS.F ht⟩) hS.2.2 dX2_taskAt_50
    · refine lv_aload_nN hx hb dX2_taskAt_20 rfl (lv_at hl 1 rfl) ?_
      refine lv_ifnullN (tgt := 35) hx hb dX2_taskAt_21 (by decide) ?_
      refine lv_aload_nN hx hb dX2_taskAt_35 rfl (lv_at hl 1 rfl) ?_
      refine lv_ifnonnullN hx hb dX2_taskAt_36 ?_
      refine lv_iconst (v := -1) hx hb dX2_taskAt_39 (by decide) ?_
      refine lv_goto (tgt := 50) hx hb dX2_taskAt_40 (by decide) ?_
      have hP9 := hP.sub (ws' := []) [] rfl
      have hD9 := hD.sub (ws' := []) [] (by decide) rfl
      have hK9 := hK.sub (tys' := []) [] rfl
      refine W.widen (k := 0) (n := 0) (Nat.le_of_ble_eq_true rfl) (Nat.le_of_ble_eq_true rfl) ?_
      exact W.iret (v := -1) hx hb hr (fun t ht hW => ⟨⟨-1, (), rfl, rfl, by rw [ht]; exact hP9, va_K.moved hW.alike hK9, hD9⟩, hS.F ht⟩) hS.2.2 dX2_taskAt_50
  · refine lv_null hx hb dX2_taskAt_4 ?_
    refine lv_goto (tgt := 12) hx hb dX2_taskAt_5 (by decide) ?_
    refine lv_astore_nN (lv' := [(2, .null), (0, .ref h0), (1, .int k)]) hx hb dX2_taskAt_12 rfl hl (by decide) rfl (fun ls hl => ?_)
    refine lv_iconst (v := 0) hx hb dX2_taskAt_13 (by decide) ?_
    refine lv_istore_n (lv' := [(3, .int 0), (2, .null), (0, .ref h0), (1, .int k)]) hx hb dX2_taskAt_14 rfl hl (by decide) rfl (fun ls hl => ?_)
    refine lv_iload_n hx hb dX2_taskAt_15 rfl (lv_at hl 0 rfl) ?_
    refine lv_iload_n hx hb dX2_taskAt_16 rfl (lv_at hl 3 rfl) ?_
    refine lv_icmp_ge (tgt := 35) hx hb dX2_taskAt_17 (by decide) (fun c3 => ?_) (fun c3 => ?_)
    · refine lv_aload_nN hx hb dX2_taskAt_35 rfl (lv_at hl 1 rfl) ?_
      refine lv_ifnonnullN hx hb dX2_taskAt_36 ?_
      refine lv_iconst (v := -1) hx hb dX2_taskAt_39 (by decide) ?_
      refine lv_goto (tgt := 50) hx hb dX2_taskAt_40 (by decide) ?_
      have hP9 := hP.sub (ws' := []) [] rfl
      have hD9 := hD.sub (ws' := []) [] (by decide) rfl
      have hK9 := hK.sub (tys' := []) [] rfl
      refine W.widen (k := 0) (n := 0) (Nat.le_of_ble_eq_true rfl) (Nat.le_of_ble_eq_true rfl) ?_
      exact W.iret (v := -1) hx hb hr (fun t ht hW => ⟨⟨-1, (), rfl, rfl, by rw [ht]; exact hP9, va_K.moved hW.alike hK9, hD9⟩, hS.F ht⟩) hS.2.2 dX2_taskAt_50
    · refine lv_aload_nN hx hb dX2_taskAt_20 rfl (lv_at hl 1 rfl) ?_
      refine lv_ifnullN (tgt := 35) hx hb dX2_taskAt_21 (by decide) ?_
      refine lv_aload_nN hx hb dX2_taskAt_35 rfl (lv_at hl 1 rfl) ?_
      refine lv_ifnonnullN hx hb dX2_taskAt_36 ?_
      refine lv_iconst (v := -1) hx hb dX2_taskAt_39 (by decide) ?_
      refine lv_goto (tgt := 50) hx hb dX2_taskAt_40 (by decide) ?_
      have hP9 := hP.sub (ws' := []) [] rfl
      have hD9 := hD.sub (ws' := []) [] (by decide) rfl
      have hK9 := hK.sub (tys' := []) [] rfl
      refine W.widen (k := 0) (n := 0) (Nat.le_of_ble_eq_true rfl) (Nat.le_of_ble_eq_true rfl) ?_
      exact W.iret (v := -1) hx hb hr (fun t ht hW => ⟨⟨-1, (), rfl, rfl, by rw [ht]; exact hP9, va_K.moved hW.alike hK9, hD9⟩, hS.F ht⟩) hS.2.2 dX2_taskAt_50
set_option maxHeartbeats 4000000 in
set_option maxRecDepth 100000 in
theorem ct_X6_takeTurn (l : Launch) (dC : Nat → ClassId) (dI : Nat → Nat → Nat) (h0 : Nat) (pu : Nat) (ha : Nat) (nu : Nat) (pv : Value) (xt : Nat) (xr : Nat) (le : Nat) (lc : Nat) (ln : Nat) (al : Nat) (lo : Nat) (xg : Nat) (k : Int32) (sz : Nat) : Met l yX6_takeTurn (.code yX6_takeTurn cX6_takeTurn 4 (some .int) :: tb) ({ frames := 1, cells := 0, slots := 0, locals := 23 }) (va_Pc [.ref h0, .int k] (fun U => U.heap.size = sz ∧ va_P (dC, dI) vwCl [(h0, .inr (6, [.int 0, .int 0, .ref pu, .ref ha, .ref nu, .int 0, .int 0, .int 0])), (ha, .inr (1, [pv, .ref xt, .int 0, .int 0, .ref xr, .int 0, .int 0, .ref le, .ref lc, .ref ln, .ref al, .ref lo, .ref xg, .int 0, .null]))] U.heap ∧ va_K (dC, dI) vwCl [] U ∧ va_D (fun _ => True) [(h0, .inr (6, [.int 0, .int 0, .ref pu, .ref ha, .ref nu, .int 0, .int 0, .int 0])), (ha, .inr (1, [pv, .ref xt, .int 0, .int 0, .ref xr, .int 0, .int 0, .ref le, .ref lc, .ref ln, .ref al, .ref lo, .ref xg, .int 0, .null]))])) (va_Qi (fun (r : Int32) (_ : Unit) => r = -1) (fun (_ : Unit) t => va_P (dC, dI) vwCl [] t.heap ∧ va_K (dC, dI) vwCl [] t ∧ va_D (va_A [(h0, .inr (6, [.int 0, .int 0, .ref pu, .ref ha, .ref nu, .int 0, .int 0, .int 0])), (ha, .inr (1, [pv, .ref xt, .int 0, .int 0, .ref xr, .int 0, .int 0, .ref le, .ref lc, .ref ln, .ref al, .ref lo, .ref xg, .int 0, .null]))] sz) []) (va_A [(h0, .inr (6, [.int 0, .int 0, .ref pu, .ref ha, .ref nu, .int 0, .int 0, .int 0])), (ha, .inr (1, [pv, .ref xt, .int 0, .int 0, .ref xr, .int 0, .int 0, .ref le, .ref lc, .ref ln, .ref al, .ref lo, .ref xg, .int 0, .null]))] sz)) 0 0 (va_A [(h0, .inr (6, [.int 0, .int 0, .ref pu, .ref ha, .ref nu, .int 0, .int 0, .int 0])), (ha, .inr (1, [pv, .ref xt, .int 0, .int 0, .ref xr, .int 0, .int 0, .ref le, .ref lc, .ref ln, .ref al, .ref lo, .ref xg, .int 0, .null]))] sz) := by
  refine Met.ofW (cc := cX6_takeTurn) (maxL := 4) (ret := (some .int)) (by decide) rfl ?_
  intro p e s m args below meth c s₁ B hml hv
  obtain ⟨rfl, hsz, hP, hK, hD0⟩ := hv
  have hx := B.exec
  have hb := B.bytes
  have hr := B.returns
  have hts : ∀ w ∈ tb, w.before _ s = true := fun w h => atoms_spec (ws := (.code yX6_takeTurn cX6_takeTurn 4 (some .int) :: tb)) B.pre w (List.mem_cons_of_mem _ h)
  have hown : s.vm.findClass RX6 = some m.cls := findClass_of_methodNamed B.named
  have hlocks := B.notSynchronized
  subst hsz
  have hD := hD0.self (sz := s.heap.size)
  generalize hAe : va_A [(h0, .inr (6, [.int 0, .int 0, .ref pu, .ref ha, .ref nu, .int 0, .int 0, .int 0])), (ha, .inr (1, [pv, .ref xt, .int 0, .int 0, .ref xr, .int 0, .int 0, .ref le, .ref lc, .ref ln, .ref al, .ref lo, .ref xg, .int 0, .null]))] s.heap.size = A at hD ⊢
  have hA : ∀ q : Nat, s.heap.size ≤ q → A q := fun q h => by rw [← hAe]; exact Or.inr h
  have hS : va_S A s.heap s.heap [] := va_S.rf
  have hP : va_P (dC, dI) vwCl [(h0, .inr (6, [.int 0, .int 0, .ref pu, .ref ha, .ref nu, .int 0, .int 0, .int 0])), (ha, .inr (1, [pv, .ref xt, .int 0, .int 0, .ref xr, .int 0, .int 0, .ref le, .ref lc, .ref ln, .ref al, .ref lo, .ref xg, .int 0, .null]))] s.heap := hP
  have hl := lv_entry ([.ref h0, .int k]) (n := 4) (Nat.le_of_ble_eq_true rfl)
  rw [lg_entry_eq]
  generalize (lg_sl ([.ref h0, .int k]) ++ List.replicate (4 - (lg_sl ([.ref h0, .int k])).length) Slot.unset).toArray = ls at hl ⊢
  have hl : lv_has ls 4 [(0, .ref h0), (1, .int k)] := hl
  refine lv_aload_n hx hb dX6_takeTurn_0 rfl (lv_at hl 0 rfl) ?_
  refine va_get (D := (dC, dI)) (ci := 6) (v := .ref ha) (C := RX6) (T := TX6) (N := 8) hx hb hts in_X6 hown hK hP 0 rfl rfl 3 (by decide) (hts _ wd_307) (fun _ h9 => h9) rfl dX6_takeTurn_1 ?_
  refine lv_iload_n hx hb dX6_takeTurn_4 rfl (lv_at hl 1 rfl) ?_
  have hPc := hP.sub (ws' := [(ha, .inr (1, [(pv : Value), .ref xt, .int 0, .int 0, .ref xr, .int 0, .int 0, .ref le, .ref lc, .ref ln, .ref al, .ref lo, .ref xg, .int 0, .null]))]) [1] rfl
  have hDc := hD.sub (ws' := [(ha, .inr (1, [(pv : Value), .ref xt, .int 0, .int 0, .ref xr, .int 0, .int 0, .ref le, .ref lc, .ref ln, .ref al, .ref lo, .ref xg, .int 0, .null]))]) [1] (by decide) rfl
  have hKc := hK.sub (tys' := []) [] rfl
  have hFc := va_free (wc := [(ha, .inr (1, [(pv : Value), .ref xt, .int 0, .int 0, .ref xr, .int 0, .int 0, .ref le, .ref lc, .ref ln, .ref al, .ref lo, .ref xg, .int 0, .null]))]) hD hS hA [1] rfl
  refine qn_call (va_runV (As := [.int k]) (rest := []) ⟨hx, hb, hml, hown, hts⟩ (ct_X1_leaveRow l dC dI ha (pv : Value) xt xr le lc ln al lo xg k s.heap.size) (cwV 1 hts (gd_V wd_965 wd_966 wd_967 wd_9 wd_968) rfl rfl rfl (by decide +kernel) ⟨Nat.le_of_ble_eq_true rfl, Nat.le_of_ble_eq_true rfl⟩) ⟨fun a U g mk q => by obtain ⟨q0, q1, qP, qK, qD⟩ := q; exact ⟨q0, q1, qP, va_K.moved (u := U) (U := U.calling g mk a) (Vm.Alike.refl U.vm) qK, qD⟩, va_recv hKc hPc (ci := 1) (q0 := 0) rfl rfl, fun U hU hW => ⟨rfl, by rw [hU], by rw [hU]; exact hPc, va_K.moved hW.alike hKc, hDc.weaken (fun _ _ _ _ => trivial)⟩⟩ rfl rfl hl.1 rfl (lv_room (Nat.le_of_ble_eq_true rfl)) dX6_takeTurn_5 ⟨Nat.le_of_ble_eq_true rfl, Nat.le_of_ble_eq_true rfl⟩) hS (fun q _ h => hFc q h) hFc (fun t H1 locs ht hvm hB hz1 hk1 hS => ?_)
  obtain ⟨hP1, hK1, hD1⟩ := hB
  rw [ht] at hP1
  have hK1 := va_K.moved hvm.symm hK1
  obtain ⟨hP, hD⟩ := va_join (wr := [(h0, .inr (6, [.int 0, .int 0, .ref pu, .ref ha, .ref nu, .int 0, .int 0, .int 0]))]) (w1 := []) hP hD [1] [0] rfl rfl (by decide) (by decide) hk1 hFc hP1 hD1
  have hK := (hK.sub (tys' := []) [] rfl).app (hK1.sub (tys' := []) [] rfl)
  generalize H1 = H at hP hS ⊢
  have hP : va_P (dC, dI) vwCl [(h0, .inr (6, [.int 0, .int 0, .ref pu, .ref ha, .ref nu, .int 0, .int 0, .int 0]))] H := hP
  have hD : va_D A [(h0, .inr (6, [.int 0, .int 0, .ref pu, .ref ha, .ref nu, .int 0, .int 0, .int 0]))] := hD
  have hK : va_K (dC, dI) vwCl [] s := hK
  refine lv_astore_nN (lv' := [(2, .null), (0, .ref h0), (1, .int k)]) hx hb dX6_takeTurn_8 rfl hl (by decide) rfl (fun ls hl => ?_)
  refine lv_aload_nN hx hb dX6_takeTurn_9 rfl (lv_at hl 0 rfl) ?_
  refine lv_ifnonnullN hx hb dX6_takeTurn_10 ?_
  refine lv_iconst (v := -1) hx hb dX6_takeTurn_13 (by decide) ?_
  have hP9 := hP.sub (ws' := []) [] rfl
  have hD9 := hD.sub (ws' := []) [] (by decide) rfl
  have hK9 := hK.sub (tys' := []) [] rfl
  refine W.widen (k := 0) (n := 0) (Nat.le_of_ble_eq_true rfl) (Nat.le_of_ble_eq_true rfl) ?_
  exact W.iret (v := -1) hx hb hr (fun t ht hW => ⟨⟨-1, (), rfl, rfl, by rw [ht]; exact hP9, va_K.moved hW.alike hK9, hD9⟩, hS.F ht⟩) hS.2.2 dX6_takeTurn_14
