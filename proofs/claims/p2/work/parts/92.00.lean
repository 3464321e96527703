theorem wd_100 : (Jvm.Cond.fieldLink "Sleepers$Tokens" (49 : Nat) "Sleepers$Tokens" "count" "I") ∈ tb := tb_at 100 (by decide +kernel) (by decide +kernel)
theorem wd_516 : (Jvm.Cond.methodLink "Sleepers$Tokens" (52 : Nat) ({ cls := "Sleepers$Tokens", name := "isLetter", desc := "(C)Z" } : Jvm.MethodName)) ∈ tb := tb_at 516 (by decide +kernel) (by decide +kernel)
theorem wd_517 : (Jvm.Cond.static ({ cls := "Sleepers$Tokens", name := "isLetter", desc := "(C)Z" } : Jvm.MethodName)) ∈ tb := tb_at 517 (by decide +kernel) (by decide +kernel)
theorem wd_518 : (Jvm.Cond.code ({ cls := "Sleepers$Tokens", name := "isLetter", desc := "(C)Z" } : Jvm.MethodName) prog_12_method_10_code (1 : Nat) (Option.some Jvm.ClassFile.FieldType.boolean)) ∈ tb := tb_at 518 (by decide +kernel) (by decide +kernel)
theorem wd_523 : (Jvm.Cond.methodLink "Sleepers$Tokens" (75 : Nat) ({ cls := "Sleepers$Tokens", name := "kindOf", desc := "(J)I" } : Jvm.MethodName)) ∈ tb := tb_at 523 (by decide +kernel) (by decide +kernel)
theorem wd_525 : (Jvm.Cond.instanceMethod ({ cls := "Sleepers$Tokens", name := "kindOf", desc := "(J)I" } : Jvm.MethodName)) ∈ tb := tb_at 525 (by decide +kernel) (by decide +kernel)
theorem wd_526 : (Jvm.Cond.code ({ cls := "Sleepers$Tokens", name := "kindOf", desc := "(J)I" } : Jvm.MethodName) prog_12_method_7_code (4 : Nat) (Option.some Jvm.ClassFile.FieldType.int)) ∈ tb := tb_at 526 (by decide +kernel) (by decide +kernel)
theorem wd_527 : (Jvm.Cond.methodLink "Sleepers$Tokens" (71 : Nat) ({ cls := "Sleepers$Tokens", name := "keep", desc := "(IIJ)V" } : Jvm.MethodName)) ∈ tb := tb_at 527 (by decide +kernel) (by decide +kernel)
theorem wd_529 : (Jvm.Cond.instanceMethod ({ cls := "Sleepers$Tokens", name := "keep", desc := "(IIJ)V" } : Jvm.MethodName)) ∈ tb := tb_at 529 (by decide +kernel) (by decide +kernel)
theorem wd_530 : (Jvm.Cond.code ({ cls := "Sleepers$Tokens", name := "keep", desc := "(IIJ)V" } : Jvm.MethodName) prog_12_method_8_code (5 : Nat) (Option.none : Option Jvm.ClassFile.FieldType)) ∈ tb := tb_at 530 (by decide +kernel) (by decide +kernel)
theorem wd_535 : (Jvm.Cond.constantLong "Sleepers$Tokens" (79 : Nat) (10 : Int64)) ∈ tb := tb_at 535 (by decide +kernel) (by decide +kernel)
theorem sl_X10_keep : Cond.selects RX10 yX10_keep yX10_keep ∈ tb := sl_of (y := ⟨"Sleepers$Tokens", "keep", "(IIJ)V"⟩) (n := 7) (by decide +kernel) (by decide +kernel)
theorem sl_X10_kindOf : Cond.selects RX10 yX10_kindOf yX10_kindOf ∈ tb := sl_of (y := ⟨"Sleepers$Tokens", "kindOf", "(J)I"⟩) (n := 7) (by decide +kernel) (by decide +kernel)
theorem dX0_note_0 : decode cX0_note 0 = .ok (.aload_n 0, 1) := by decide +kernel
theorem dX0_note_1 : decode cX0_note 1 = .ok (.getfield 18, 3) := by decide +kernel
theorem dX0_note_4 : decode cX0_note 4 = .ok (.sipush 300, 3) := by decide +kernel
theorem dX0_note_7 : decode cX0_note 7 = .ok (.if_icmp .ge 23, 3) := by decide +kernel
theorem dX0_note_10 : decode cX0_note 10 = .ok (.aload_n 0, 1) := by decide +kernel
theorem dX0_note_11 : decode cX0_note 11 = .ok (.getfield 9, 3) := by decide +kernel
theorem dX0_note_14 : decode cX0_note 14 = .ok (.aload_n 0, 1) := by decide +kernel
theorem dX0_note_15 : decode cX0_note 15 = .ok (.getfield 18, 3) := by decide +kernel
theorem dX0_note_18 : decode cX0_note 18 = .ok (.iload_n 1, 1) := by decide +kernel
theorem dX0_note_19 : decode cX0_note 19 = .ok (.iastore, 1) := by decide +kernel
theorem dX0_note_20 : decode cX0_note 20 = .ok (.aload_n 0, 1) := by decide +kernel
theorem dX0_note_21 : decode cX0_note 21 = .ok (.getfield 15, 3) := by decide +kernel
theorem dX0_note_24 : decode cX0_note 24 = .ok (.aload_n 0, 1) := by decide +kernel
theorem dX0_note_25 : decode cX0_note 25 = .ok (.getfield 18, 3) := by decide +kernel
theorem dX0_note_28 : decode cX0_note 28 = .ok (.iload_n 2, 1) := by decide +kernel
theorem dX0_note_29 : decode cX0_note 29 = .ok (.iastore, 1) := by decide +kernel
theorem dX0_note_30 : decode cX0_note 30 = .ok (.aload_n 0, 1) := by decide +kernel
theorem dX0_note_31 : decode cX0_note 31 = .ok (.dup, 1) := by decide +kernel
theorem dX0_note_32 : decode cX0_note 32 = .ok (.getfield 18, 3) := by decide +kernel
theorem dX0_note_35 : decode cX0_note 35 = .ok (.iconst 1, 1) := by decide +kernel
theorem dX0_note_36 : decode cX0_note 36 = .ok (.iadd, 1) := by decide +kernel
theorem dX0_note_37 : decode cX0_note 37 = .ok (.putfield 18, 3) := by decide +kernel
theorem dX0_note_40 : decode cX0_note 40 = .ok (.return_, 1) := by decide +kernel
theorem dX0_tell_0 : decode cX0_tell 0 = .ok (.iload_n 1, 1) := by decide +kernel
theorem dX0_tell_1 : decode cX0_tell 1 = .ok (.ifCond .lt 27, 3) := by decide +kernel
theorem dX0_tell_4 : decode cX0_tell 4 = .ok (.iload_n 1, 1) := by decide +kernel
theorem dX0_tell_5 : decode cX0_tell 5 = .ok (.aload_n 0, 1) := by decide +kernel
theorem dX0_tell_6 : decode cX0_tell 6 = .ok (.getfield 18, 3) := by decide +kernel
theorem dX0_tell_9 : decode cX0_tell 9 = .ok (.if_icmp .ge 19, 3) := by decide +kernel
theorem dX0_tell_12 : decode cX0_tell 12 = .ok (.iload_n 1, 1) := by decide +kernel
theorem dX0_tell_13 : decode cX0_tell 13 = .ok (.sipush 300, 3) := by decide +kernel
theorem dX0_tell_16 : decode cX0_tell 16 = .ok (.if_icmp .ge 12, 3) := by decide +kernel
theorem dX0_tell_19 : decode cX0_tell 19 = .ok (.iload_n 2, 1) := by decide +kernel
theorem dX0_tell_20 : decode cX0_tell 20 = .ok (.ifCond .lt 8, 3) := by decide +kernel
theorem dX0_tell_23 : decode cX0_tell 23 = .ok (.iload_n 2, 1) := by decide +kernel
theorem dX0_tell_24 : decode cX0_tell 24 = .ok (.iconst 1, 1) := by decide +kernel
theorem dX0_tell_25 : decode cX0_tell 25 = .ok (.if_icmp .le 5, 3) := by decide +kernel
theorem dX0_tell_28 : decode cX0_tell 28 = .ok (.iconst (-1), 1) := by decide +kernel
theorem dX0_tell_29 : decode cX0_tell 29 = .ok (.ireturn, 1) := by decide +kernel
theorem dX0_tell_30 : decode cX0_tell 30 = .ok (.iload_n 2, 1) := by decide +kernel
theorem dX0_tell_31 : decode cX0_tell 31 = .ok (.ifCond .ne 12, 3) := by decide +kernel
theorem dX0_tell_34 : decode cX0_tell 34 = .ok (.aload_n 0, 1) := by decide +kernel
theorem dX0_tell_35 : decode cX0_tell 35 = .ok (.getfield 9, 3) := by decide +kernel
theorem dX0_tell_38 : decode cX0_tell 38 = .ok (.iload_n 1, 1) := by decide +kernel
theorem dX0_tell_39 : decode cX0_tell 39 = .ok (.iaload, 1) := by decide +kernel
theorem dX0_tell_40 : decode cX0_tell 40 = .ok (.goto 9, 3) := by decide +kernel
theorem dX0_tell_43 : decode cX0_tell 43 = .ok (.aload_n 0, 1) := by decide +kernel
theorem dX0_tell_44 : decode cX0_tell 44 = .ok (.getfield 15, 3) := by decide +kernel
theorem dX0_tell_47 : decode cX0_tell 47 = .ok (.iload_n 1, 1) := by decide +kernel
theorem dX0_tell_48 : decode cX0_tell 48 = .ok (.iaload, 1) := by decide +kernel
theorem dX0_tell_49 : decode cX0_tell 49 = .ok (.ireturn, 1) := by decide +kernel
theorem dX10_add_0 : decode cX10_add 0 = .ok (.bipush 56, 2) := by decide +kernel
theorem dX10_add_2 : decode cX10_add 2 = .ok (.istore_n 3, 1) := by decide +kernel
theorem dX10_add_3 : decode cX10_add 3 = .ok (.iload_n 3, 1) := by decide +kernel
theorem dX10_add_4 : decode cX10_add 4 = .ok (.ifCond .lt 72, 3) := by decide +kernel
theorem dX10_add_7 : decode cX10_add 7 = .ok (.lload_n 1, 1) := by decide +kernel
theorem dX10_add_8 : decode cX10_add 8 = .ok (.iload_n 3, 1) := by decide +kernel
theorem dX10_add_9 : decode cX10_add 9 = .ok (.lushr, 1) := by decide +kernel
theorem dX10_add_10 : decode cX10_add 10 = .ok (.l2i, 1) := by decide +kernel
theorem dX10_add_11 : decode cX10_add 11 = .ok (.sipush 255, 3) := by decide +kernel
theorem dX10_add_14 : decode cX10_add 14 = .ok (.iand, 1) := by decide +kernel
theorem dX10_add_15 : decode cX10_add 15 = .ok (.istore 4, 2) := by decide +kernel
theorem dX10_add_17 : decode cX10_add 17 = .ok (.iload 4, 2) := by decide +kernel
theorem dX10_add_19 : decode cX10_add 19 = .ok (.bipush 10, 2) := by decide +kernel
theorem dX10_add_21 : decode cX10_add 21 = .ok (.if_icmp .eq 17, 3) := by decide +kernel
theorem dX10_add_24 : decode cX10_add 24 = .ok (.iload 4, 2) := by decide +kernel
theorem dX10_add_26 : decode cX10_add 26 = .ok (.bipush 32, 2) := by decide +kernel
theorem dX10_add_28 : decode cX10_add 28 = .ok (.if_icmp .lt 42, 3) := by decide +kernel
theorem dX10_add_31 : decode cX10_add 31 = .ok (.iload 4, 2) := by decide +kernel
theorem dX10_add_33 : decode cX10_add 33 = .ok (.bipush 126, 2) := by decide +kernel
theorem dX10_add_35 : decode cX10_add 35 = .ok (.if_icmp .gt 35, 3) := by decide +kernel
theorem dX10_add_38 : decode cX10_add 38 = .ok (.aload_n 0, 1) := by decide +kernel
theorem dX10_add_39 : decode cX10_add 39 = .ok (.getfield 45, 3) := by decide +kernel
theorem dX10_add_42 : decode cX10_add 42 = .ok (.sipush 4000, 3) := by decide +kernel
theorem dX10_add_45 : decode cX10_add 45 = .ok (.if_icmp .ge 25, 3) := by decide +kernel
theorem dX10_add_48 : decode cX10_add 48 = .ok (.aload_n 0, 1) := by decide +kernel
theorem dX10_add_49 : decode cX10_add 49 = .ok (.getfield 22, 3) := by decide +kernel
theorem dX10_add_52 : decode cX10_add 52 = .ok (.aload_n 0, 1) := by decide +kernel
theorem dX10_add_53 : decode cX10_add 53 = .ok (.getfield 45, 3) := by decide +kernel
theorem dX10_add_56 : decode cX10_add 56 = .ok (.iload 4, 2) := by decide +kernel
theorem dX10_add_58 : decode cX10_add 58 = .ok (.i2c, 1) := by decide +kernel
theorem dX10_add_59 : decode cX10_add 59 = .ok (.castore, 1) := by decide +kernel
theorem dX10_add_60 : decode cX10_add 60 = .ok (.aload_n 0, 1) := by decide +kernel
theorem dX10_add_61 : decode cX10_add 61 = .ok (.dup, 1) := by decide +kernel
theorem dX10_add_62 : decode cX10_add 62 = .ok (.getfield 45, 3) := by decide +kernel
theorem dX10_add_65 : decode cX10_add 65 = .ok (.iconst 1, 1) := by decide +kernel
theorem dX10_add_66 : decode cX10_add 66 = .ok (.iadd, 1) := by decide +kernel
theorem dX10_add_67 : decode cX10_add 67 = .ok (.putfield 45, 3) := by decide +kernel
theorem dX10_add_70 : decode cX10_add 70 = .ok (.iinc 3 (-8), 3) := by decide +kernel
theorem dX10_add_73 : decode cX10_add 73 = .ok (.goto (-70), 3) := by decide +kernel
theorem dX10_add_76 : decode cX10_add 76 = .ok (.return_, 1) := by decide +kernel
theorem dX10_isLetter_0 : decode cX10_isLetter 0 = .ok (.iload_n 0, 1) := by decide +kernel
theorem dX10_isLetter_1 : decode cX10_isLetter 1 = .ok (.bipush 97, 2) := by decide +kernel
theorem dX10_isLetter_3 : decode cX10_isLetter 3 = .ok (.if_icmp .lt 13, 3) := by decide +kernel
theorem dX10_isLetter_6 : decode cX10_isLetter 6 = .ok (.iload_n 0, 1) := by decide +kernel
theorem dX10_isLetter_7 : decode cX10_isLetter 7 = .ok (.bipush 122, 2) := by decide +kernel
theorem dX10_isLetter_9 : decode cX10_isLetter 9 = .ok (.if_icmp .gt 7, 3) := by decide +kernel
theorem dX10_isLetter_12 : decode cX10_isLetter 12 = .ok (.iconst 1, 1) := by decide +kernel
theorem dX10_isLetter_13 : decode cX10_isLetter 13 = .ok (.goto 4, 3) := by decide +kernel
theorem dX10_isLetter_16 : decode cX10_isLetter 16 = .ok (.iconst 0, 1) := by decide +kernel
theorem dX10_isLetter_17 : decode cX10_isLetter 17 = .ok (.ireturn, 1) := by decide +kernel
theorem dX10_keep_0 : decode cX10_keep 0 = .ok (.aload_n 0, 1) := by decide +kernel
theorem dX10_keep_1 : decode cX10_keep 1 = .ok (.getfield 49, 3) := by decide +kernel
theorem dX10_keep_4 : decode cX10_keep 4 = .ok (.sipush 4001, 3) := by decide +kernel
theorem dX10_keep_7 : decode cX10_keep 7 = .ok (.if_icmp .ge 43, 3) := by decide +kernel
theorem dX10_keep_10 : decode cX10_keep 10 = .ok (.aload_n 0, 1) := by decide +kernel
theorem dX10_keep_11 : decode cX10_keep 11 = .ok (.getfield 9, 3) := by decide +kernel
theorem dX10_keep_14 : decode cX10_keep 14 = .ok (.aload_n 0, 1) := by decide +kernel
theorem dX10_keep_15 : decode cX10_keep 15 = .ok (.getfield 49, 3) := by decide +kernel
theorem dX10_keep_18 : decode cX10_keep 18 = .ok (.iload_n 1, 1) := by decide +kernel
theorem dX10_keep_19 : decode cX10_keep 19 = .ok (.iastore, 1) := by decide +kernel
theorem dX10_keep_20 : decode cX10_keep 20 = .ok (.aload_n 0, 1) := by decide +kernel
theorem dX10_keep_21 : decode cX10_keep 21 = .ok (.getfield 15, 3) := by decide +kernel
theorem dX10_keep_24 : decode cX10_keep 24 = .ok (.aload_n 0, 1) := by decide +kernel
theorem dX10_keep_25 : decode cX10_keep 25 = .ok (.getfield 49, 3) := by decide +kernel
theorem dX10_keep_28 : decode cX10_keep 28 = .ok (.iload_n 2, 1) := by decide +kernel
theorem dX10_keep_29 : decode cX10_keep 29 = .ok (.iastore, 1) := by decide +kernel
theorem dX10_keep_30 : decode cX10_keep 30 = .ok (.aload_n 0, 1) := by decide +kernel
theorem dX10_keep_31 : decode cX10_keep 31 = .ok (.getfield 18, 3) := by decide +kernel
theorem dX10_keep_34 : decode cX10_keep 34 = .ok (.aload_n 0, 1) := by decide +kernel
theorem dX10_keep_35 : decode cX10_keep 35 = .ok (.getfield 49, 3) := by decide +kernel
theorem dX10_keep_38 : decode cX10_keep 38 = .ok (.lload_n 3, 1) := by decide +kernel
theorem dX10_keep_39 : decode cX10_keep 39 = .ok (.lastore, 1) := by decide +kernel
theorem dX10_keep_40 : decode cX10_keep 40 = .ok (.aload_n 0, 1) := by decide +kernel
theorem dX10_keep_41 : decode cX10_keep 41 = .ok (.dup, 1) := by decide +kernel
theorem dX10_keep_42 : decode cX10_keep 42 = .ok (.getfield 49, 3) := by decide +kernel
theorem dX10_keep_45 : decode cX10_keep 45 = .ok (.iconst 1, 1) := by decide +kernel
theorem dX10_keep_46 : decode cX10_keep 46 = .ok (.iadd, 1) := by decide +kernel
theorem dX10_keep_47 : decode cX10_keep 47 = .ok (.putfield 49, 3) := by decide +kernel
theorem dX10_keep_50 : decode cX10_keep 50 = .ok (.return_, 1) := by decide +kernel
theorem dX10_kindOf_0 : decode cX10_kindOf 0 = .ok (.iconst 0, 1) := by decide +kernel
theorem dX10_kindOf_1 : decode cX10_kindOf 1 = .ok (.istore_n 3, 1) := by decide +kernel
theorem dX10_kindOf_2 : decode cX10_kindOf 2 = .ok (.iload_n 3, 1) := by decide +kernel
theorem dX10_kindOf_3 : decode cX10_kindOf 3 = .ok (.bipush 21, 2) := by decide +kernel
theorem dX10_kindOf_5 : decode cX10_kindOf 5 = .ok (.if_icmp .ge 26, 3) := by decide +kernel
theorem dX10_kindOf_8 : decode cX10_kindOf 8 = .ok (.aload_n 0, 1) := by decide +kernel
theorem dX10_kindOf_9 : decode cX10_kindOf 9 = .ok (.getfield 26, 3) := by decide +kernel
theorem dX10_kindOf_12 : decode cX10_kindOf 12 = .ok (.iload_n 3, 1) := by decide +kernel
theorem dX10_kindOf_13 : decode cX10_kindOf 13 = .ok (.laload, 1) := by decide +kernel
theorem dX10_kindOf_14 : decode cX10_kindOf 14 = .ok (.lload_n 1, 1) := by decide +kernel
theorem dX10_kindOf_15 : decode cX10_kindOf 15 = .ok (.lcmp, 1) := by decide +kernel
theorem dX10_kindOf_16 : decode cX10_kindOf 16 = .ok (.ifCond .ne 9, 3) := by decide +kernel
theorem dX10_kindOf_19 : decode cX10_kindOf 19 = .ok (.sipush 200, 3) := by decide +kernel
theorem dX10_kindOf_22 : decode cX10_kindOf 22 = .ok (.iload_n 3, 1) := by decide +kernel
theorem dX10_kindOf_23 : decode cX10_kindOf 23 = .ok (.iadd, 1) := by decide +kernel
theorem dX10_kindOf_24 : decode cX10_kindOf 24 = .ok (.ireturn, 1) := by decide +kernel
theorem dX10_kindOf_25 : decode cX10_kindOf 25 = .ok (.iinc 3 1, 3) := by decide +kernel
theorem dX10_kindOf_28 : decode cX10_kindOf 28 = .ok (.goto (-26), 3) := by decide +kernel
theorem dX10_kindOf_31 : decode cX10_kindOf 31 = .ok (.iconst 3, 1) := by decide +kernel
theorem dX10_kindOf_32 : decode cX10_kindOf 32 = .ok (.ireturn, 1) := by decide +kernel
theorem dX10_onlyWord_0 : decode cX10_onlyWord 0 = .ok (.aload_n 0, 1) := by decide +kernel
theorem dX10_onlyWord_1 : decode cX10_onlyWord 1 = .ok (.getfield 49, 3) := by decide +kernel
theorem dX10_onlyWord_4 : decode cX10_onlyWord 4 = .ok (.iconst 2, 1) := by decide +kernel
theorem dX10_onlyWord_5 : decode cX10_onlyWord 5 = .ok (.if_icmp .ne 22, 3) := by decide +kernel
theorem dX10_onlyWord_8 : decode cX10_onlyWord 8 = .ok (.aload_n 0, 1) := by decide +kernel
theorem dX10_onlyWord_9 : decode cX10_onlyWord 9 = .ok (.getfield 9, 3) := by decide +kernel
theorem dX10_onlyWord_12 : decode cX10_onlyWord 12 = .ok (.iconst 0, 1) := by decide +kernel
theorem dX10_onlyWord_13 : decode cX10_onlyWord 13 = .ok (.iaload, 1) := by decide +kernel
theorem dX10_onlyWord_14 : decode cX10_onlyWord 14 = .ok (.iconst 3, 1) := by decide +kernel
theorem dX10_onlyWord_15 : decode cX10_onlyWord 15 = .ok (.if_icmp .ne 12, 3) := by decide +kernel
theorem dX10_onlyWord_18 : decode cX10_onlyWord 18 = .ok (.aload_n 0, 1) := by decide +kernel
theorem dX10_onlyWord_19 : decode cX10_onlyWord 19 = .ok (.getfield 18, 3) := by decide +kernel
theorem dX10_onlyWord_22 : decode cX10_onlyWord 22 = .ok (.iconst 0, 1) := by decide +kernel
theorem dX10_onlyWord_23 : decode cX10_onlyWord 23 = .ok (.laload, 1) := by decide +kernel
theorem dX10_onlyWord_24 : decode cX10_onlyWord 24 = .ok (.goto 4, 3) := by decide +kernel
theorem dX10_onlyWord_27 : decode cX10_onlyWord 27 = .ok (.lconst 0, 1) := by decide +kernel
theorem dX10_onlyWord_28 : decode cX10_onlyWord 28 = .ok (.lreturn, 1) := by decide +kernel
theorem dX10_readNumber_0 : decode cX10_readNumber 0 = .ok (.iload_n 1, 1) := by decide +kernel
theorem dX10_readNumber_1 : decode cX10_readNumber 1 = .ok (.istore_n 2, 1) := by decide +kernel
theorem dX10_readNumber_2 : decode cX10_readNumber 2 = .ok (.lconst 0, 1) := by decide +kernel
theorem dX10_readNumber_3 : decode cX10_readNumber 3 = .ok (.lstore_n 3, 1) := by decide +kernel
theorem dX10_readNumber_4 : decode cX10_readNumber 4 = .ok (.iload_n 2, 1) := by decide +kernel
theorem dX10_readNumber_5 : decode cX10_readNumber 5 = .ok (.aload_n 0, 1) := by decide +kernel
theorem dX10_readNumber_6 : decode cX10_readNumber 6 = .ok (.getfield 45, 3) := by decide +kernel
theorem dX10_readNumber_9 : decode cX10_readNumber 9 = .ok (.if_icmp .ge 38, 3) := by decide +kernel
theorem dX10_readNumber_12 : decode cX10_readNumber 12 = .ok (.aload_n 0, 1) := by decide +kernel
theorem dX10_readNumber_13 : decode cX10_readNumber 13 = .ok (.getfield 22, 3) := by decide +kernel
theorem dX10_readNumber_16 : decode cX10_readNumber 16 = .ok (.iload_n 2, 1) := by decide +kernel
theorem dX10_readNumber_17 : decode cX10_readNumber 17 = .ok (.caload, 1) := by decide +kernel
theorem dX10_readNumber_18 : decode cX10_readNumber 18 = .ok (.invokestatic 60, 3) := by decide +kernel
theorem dX10_readNumber_21 : decode cX10_readNumber 21 = .ok (.ifCond .eq 26, 3) := by decide +kernel
theorem dX10_readNumber_24 : decode cX10_readNumber 24 = .ok (.lload_n 3, 1) := by decide +kernel
theorem dX10_readNumber_25 : decode cX10_readNumber 25 = .ok (.ldc2_w 79, 3) := by decide +kernel
theorem dX10_readNumber_28 : decode cX10_readNumber 28 = .ok (.lmul, 1) := by decide +kernel
theorem dX10_readNumber_29 : decode cX10_readNumber 29 = .ok (.aload_n 0, 1) := by decide +kernel
theorem dX10_readNumber_30 : decode cX10_readNumber 30 = .ok (.getfield 22, 3) := by decide +kernel
theorem dX10_readNumber_33 : decode cX10_readNumber 33 = .ok (.iload_n 2, 1) := by decide +kernel
theorem dX10_readNumber_34 : decode cX10_readNumber 34 = .ok (.caload, 1) := by decide +kernel
theorem dX10_readNumber_35 : decode cX10_readNumber 35 = .ok (.bipush 48, 2) := by decide +kernel
theorem dX10_readNumber_37 : decode cX10_readNumber 37 = .ok (.isub, 1) := by decide +kernel
theorem dX10_readNumber_38 : decode cX10_readNumber 38 = .ok (.i2l, 1) := by decide +kernel
theorem dX10_readNumber_39 : decode cX10_readNumber 39 = .ok (.ladd, 1) := by decide +kernel
theorem dX10_readNumber_40 : decode cX10_readNumber 40 = .ok (.lstore_n 3, 1) := by decide +kernel
theorem dX10_readNumber_41 : decode cX10_readNumber 41 = .ok (.iinc 2 1, 3) := by decide +kernel
theorem dX10_readNumber_44 : decode cX10_readNumber 44 = .ok (.goto (-40), 3) := by decide +kernel
theorem dX10_readNumber_47 : decode cX10_readNumber 47 = .ok (.aload_n 0, 1) := by decide +kernel
theorem dX10_readNumber_48 : decode cX10_readNumber 48 = .ok (.iload_n 2, 1) := by decide +kernel
theorem dX10_readNumber_49 : decode cX10_readNumber 49 = .ok (.iload_n 1, 1) := by decide +kernel
theorem dX10_readNumber_50 : decode cX10_readNumber 50 = .ok (.isub, 1) := by decide +kernel
theorem dX10_readNumber_51 : decode cX10_readNumber 51 = .ok (.bipush 9, 2) := by decide +kernel
theorem dX10_readNumber_53 : decode cX10_readNumber 53 = .ok (.if_icmp .le 7, 3) := by decide +kernel
theorem dX10_readNumber_56 : decode cX10_readNumber 56 = .ok (.iconst 1, 1) := by decide +kernel
theorem dX10_readNumber_57 : decode cX10_readNumber 57 = .ok (.goto 4, 3) := by decide +kernel
theorem dX10_readNumber_60 : decode cX10_readNumber 60 = .ok (.iconst 2, 1) := by decide +kernel
theorem dX10_readNumber_61 : decode cX10_readNumber 61 = .ok (.iload_n 1, 1) := by decide +kernel
theorem dX10_readNumber_62 : decode cX10_readNumber 62 = .ok (.lload_n 3, 1) := by decide +kernel
theorem dX10_readNumber_63 : decode cX10_readNumber 63 = .ok (.invokevirtual 71, 3) := by decide +kernel
theorem dX10_readNumber_66 : decode cX10_readNumber 66 = .ok (.iload_n 2, 1) := by decide +kernel
theorem dX10_readNumber_67 : decode cX10_readNumber 67 = .ok (.ireturn, 1) := by decide +kernel
theorem dX10_readWord_0 : decode cX10_readWord 0 = .ok (.iload_n 1, 1) := by decide +kernel
theorem dX10_readWord_1 : decode cX10_readWord 1 = .ok (.istore_n 2, 1) := by decide +kernel
theorem dX10_readWord_2 : decode cX10_readWord 2 = .ok (.lconst 0, 1) := by decide +kernel
theorem dX10_readWord_3 : decode cX10_readWord 3 = .ok (.lstore_n 3, 1) := by decide +kernel
theorem dX10_readWord_4 : decode cX10_readWord 4 = .ok (.iload_n 2, 1) := by decide +kernel
theorem dX10_readWord_5 : decode cX10_readWord 5 = .ok (.aload_n 0, 1) := by decide +kernel
theorem dX10_readWord_6 : decode cX10_readWord 6 = .ok (.getfield 45, 3) := by decide +kernel
theorem dX10_readWord_9 : decode cX10_readWord 9 = .ok (.if_icmp .ge 44, 3) := by decide +kernel
theorem dX10_readWord_12 : decode cX10_readWord 12 = .ok (.aload_n 0, 1) := by decide +kernel
theorem dX10_readWord_13 : decode cX10_readWord 13 = .ok (.getfield 22, 3) := by decide +kernel
theorem dX10_readWord_16 : decode cX10_readWord 16 = .ok (.iload_n 2, 1) := by decide +kernel
theorem dX10_readWord_17 : decode cX10_readWord 17 = .ok (.caload, 1) := by decide +kernel
theorem dX10_readWord_18 : decode cX10_readWord 18 = .ok (.invokestatic 52, 3) := by decide +kernel
theorem dX10_readWord_21 : decode cX10_readWord 21 = .ok (.ifCond .ne 15, 3) := by decide +kernel
theorem dX10_readWord_24 : decode cX10_readWord 24 = .ok (.aload_n 0, 1) := by decide +kernel
theorem dX10_readWord_25 : decode cX10_readWord 25 = .ok (.getfield 22, 3) := by decide +kernel
theorem dX10_readWord_28 : decode cX10_readWord 28 = .ok (.iload_n 2, 1) := by decide +kernel
theorem dX10_readWord_29 : decode cX10_readWord 29 = .ok (.caload, 1) := by decide +kernel
theorem dX10_readWord_30 : decode cX10_readWord 30 = .ok (.invokestatic 60, 3) := by decide +kernel
theorem dX10_readWord_33 : decode cX10_readWord 33 = .ok (.ifCond .eq 20, 3) := by decide +kernel
theorem dX10_readWord_36 : decode cX10_readWord 36 = .ok (.lload_n 3, 1) := by decide +kernel
theorem dX10_readWord_37 : decode cX10_readWord 37 = .ok (.aload_n 0, 1) := by decide +kernel
theorem dX10_readWord_38 : decode cX10_readWord 38 = .ok (.getfield 22, 3) := by decide +kernel
theorem dX10_readWord_41 : decode cX10_readWord 41 = .ok (.iload_n 2, 1) := by decide +kernel
theorem dX10_readWord_42 : decode cX10_readWord 42 = .ok (.caload, 1) := by decide +kernel
theorem dX10_readWord_43 : decode cX10_readWord 43 = .ok (.invokestatic 41, 3) := by decide +kernel
theorem dX10_readWord_46 : decode cX10_readWord 46 = .ok (.lstore_n 3, 1) := by decide +kernel
theorem dX10_readWord_47 : decode cX10_readWord 47 = .ok (.iinc 2 1, 3) := by decide +kernel
theorem dX10_readWord_50 : decode cX10_readWord 50 = .ok (.goto (-46), 3) := by decide +kernel
theorem dX10_readWord_53 : decode cX10_readWord 53 = .ok (.aload_n 0, 1) := by decide +kernel
theorem dX10_readWord_54 : decode cX10_readWord 54 = .ok (.iload_n 2, 1) := by decide +kernel
theorem dX10_readWord_55 : decode cX10_readWord 55 = .ok (.iload_n 1, 1) := by decide +kernel
theorem dX10_readWord_56 : decode cX10_readWord 56 = .ok (.isub, 1) := by decide +kernel
theorem dX10_readWord_57 : decode cX10_readWord 57 = .ok (.bipush 12, 2) := by decide +kernel
theorem dX10_readWord_59 : decode cX10_readWord 59 = .ok (.if_icmp .le 7, 3) := by decide +kernel
theorem dX10_readWord_62 : decode cX10_readWord 62 = .ok (.iconst 1, 1) := by decide +kernel
theorem dX10_readWord_63 : decode cX10_readWord 63 = .ok (.goto 8, 3) := by decide +kernel
theorem dX10_readWord_66 : decode cX10_readWord 66 = .ok (.aload_n 0, 1) := by decide +kernel
theorem dX10_readWord_67 : decode cX10_readWord 67 = .ok (.lload_n 3, 1) := by decide +kernel
theorem dX10_readWord_68 : decode cX10_readWord 68 = .ok (.invokevirtual 75, 3) := by decide +kernel
theorem dX10_readWord_71 : decode cX10_readWord 71 = .ok (.iload_n 1, 1) := by decide +kernel
theorem dX10_readWord_72 : decode cX10_readWord 72 = .ok (.lload_n 3, 1) := by decide +kernel
theorem dX10_readWord_73 : decode cX10_readWord 73 = .ok (.invokevirtual 71, 3) := by decide +kernel
theorem dX10_readWord_76 : decode cX10_readWord 76 = .ok (.iload_n 2, 1) := by decide +kernel
theorem dX10_readWord_77 : decode cX10_readWord 77 = .ok (.ireturn, 1) := by decide +kernel
def wp_X0_clear (t0 : Nat) (S : kS) (K : kS → Prop) : Prop := hasO S t0 0 ∧ ∀ S1 : kS, S1 = cI S 0 t0 0 → K S1
set_option maxHeartbeats 4000000 in
set_option maxRecDepth 100000 in
theorem kt_X0_clear (l : Launch) (S : kS) (t0 : Nat) (K : kS → Prop) (h : wp_X0_clear t0 S K) : kMv l yX0_clear cX0_clear 1 none 0 0 [.ref t0] S K := by
  refine kv_ofv (own := RX0) (by decide) rfl (Nat.le_of_ble_eq_true rfl) ?_
  intro E p e R s m args below meth c A ls Q hRf hRl hX hC hl hret
  have hx := hX.1.1
  have hb := hX.1.2.1
  have hown := hX.1.2.2.2.1
  have hts := hX.1.2.2.2.2
  have hl : lv_has ls 1 [(0, .ref t0)] := hl
  unfold wp_X0_clear at h
  refine lv_aload_n hx hb dX0_clear_0 rfl (lv_at hl 0 rfl) ?_
  refine lv_iconst (v := 0) hx hb dX0_clear_1 (by decide) ?_
  refine cq_puti (v := 0) (ci := 0) (k := 0) (f := 0) hX hC rfl in_X0 (by decide) wd_222 (fun _ h9 => h9) tyX0 tyX0_ok nmX0 rfl rfl rfl (fun _ _ => Nat.le_of_ble_eq_true rfl) (fun _ _ _ => rfl) dX0_clear_2 h.1 h.2 (fun S1 H locs hC h => ?_)
  exact hret _ _ _ _ _ hC h dX0_clear_5
def wp_X0_note_30 (K : kS → Prop) (x0 : Nat) (S : kS) : Prop := hasO S x0 0 ∧ ∀ z11 : Int32, z11 = S.1 0 x0 → ∀ z12 : Int32, z12 = z11 + 1 → hasO S x0 0 ∧ ∀ S13 : kS, S13 = cI S 0 x0 z12 → K S13
def wp_X0_note (t0 : Nat) (a0 : Int32) (a1 : Int32) (S : kS) (K : kS → Prop) : Prop := hasO S t0 0 ∧ ∀ z1 : Int32, z1 = S.1 0 t0 → ((300 ≤ z1 → wp_X0_note_30 K t0 S) ∧ (¬ 300 ≤ z1 → hasO S t0 0 ∧ ∀ z3 : Option Nat, z3 = S.2.1 0 t0 → hasO S t0 0 ∧ ∀ z4 : Int32, z4 = S.1 0 t0 → ∃ q5 : Nat, z3 = some q5 ∧ hasA S q5 300 0 ∧ inR z4 300 ∧ ∀ S6 : kS, S6 = cA S q5 (ix z4) a0 → hasO S6 t0 0 ∧ ∀ z7 : Option Nat, z7 = S6.2.1 1 t0 → hasO S6 t0 0 ∧ ∀ z8 : Int32, z8 = S6.1 0 t0 → ∃ q9 : Nat, z7 = some q9 ∧ hasA S6 q9 300 0 ∧ inR z8 300 ∧ ∀ S10 : kS, S10 = cA S6 q9 (ix z8) a1 → wp_X0_note_30 K t0 S10))
set_option maxHeartbeats 4000000 in
set_option maxRecDepth 100000 in
theorem kt_X0_note (l : Launch) (S : kS) (t0 : Nat) (a0 : Int32) (a1 : Int32) (K : kS → Prop) (h : wp_X0_note t0 a0 a1 S K) : kMv l yX0_note cX0_note 3 none 0 0 [.ref t0, .int a0, .int a1] S K := by
  refine kv_ofv (own := RX0) (by decide) rfl (Nat.le_of_ble_eq_true rfl) ?_
  intro E p e R s m args below meth c A ls Q hRf hRl hX hC hl hret
  have hx := hX.1.1
  have hb := hX.1.2.1
  have hown := hX.1.2.2.2.1
  have hts := hX.1.2.2.2.2
  have cut30 : ∀ (x0 : Nat) (S : kS) (H : Heap) (locs : List Loc) (ls : Array Slot), wp_X0_note_30 K x0 S → cM E A s.heap S H locs → lv_has ls 3 [(0, .ref x0)] → W p l e R s m args below meth c H locs 0 0 Q (F0 m 30 ls []) := by
    intro x0 S H locs ls h hC hl
    unfold wp_X0_note_30 at h
    refine lv_aload_n hx hb dX0_note_30 rfl (lv_at hl 0 rfl) ?_
    refine lv_dup hx hb dX0_note_31 rfl ?_
    refine cq_geti (ci := 0) (k := 0) (f := 0) hX hC rfl in_X0 (by decide) wd_222 (fun _ h9 => h9) (fun _ _ => rfl) dX0_note_32 h (fun z11 h => ?_)
    refine lv_iconst (v := 1) hx hb dX0_note_35 (by decide) ?_
    refine lq_iadd hx hb dX0_note_36 h (fun z12 h => ?_)
    refine cq_puti (v := z12) (ci := 0) (k := 0) (f := 0) hX hC rfl in_X0 (by decide) wd_222 (fun _ h9 => h9) tyX0 tyX0_ok nmX0 rfl rfl rfl (fun _ _ => Nat.le_of_ble_eq_true rfl) (fun _ _ _ => rfl) dX0_note_37 h.1 h.2 (fun S13 H locs hC h => ?_)
    exact hret _ _ _ _ _ hC h dX0_note_40
  have hl : lv_has ls 3 [(0, .ref t0), (1, .int a0), (2, .int a1)] := hl
  unfold wp_X0_note at h
  refine lv_aload_n hx hb dX0_note_0 rfl (lv_at hl 0 rfl) ?_
  refine cq_geti (ci := 0) (k := 0) (f := 0) hX hC rfl in_X0 (by decide) wd_222 (fun _ h9 => h9) (fun _ _ => rfl) dX0_note_1 h (fun z1 h => ?_)
  refine lv_sipush (v := 300) hx hb dX0_note_4 (by decide) ?_
  refine lv_icmp_ge (tgt := 30) hx hb dX0_note_7 (by decide) (fun c2 => ?_) (fun c2 => ?_)
  · have h := h.1 c2
    exact cut30 t0 S _ _ _ h hC (lv_sub hl [0] rfl)
  · have h := h.2 c2
    refine lv_aload_n hx hb dX0_note_10 rfl (lv_at hl 0 rfl) ?_
    refine cq_getr (ci := 0) (k := 1) (f := 0) hX hC rfl in_X0 (by decide) wd_224 (fun _ h9 => h9) (fun _ _ => rfl) dX0_note_11 h (fun z3 h => ?_)
    refine lv_aload_n hx hb dX0_note_14 rfl (lv_at hl 0 rfl) ?_
    refine cq_geti (ci := 0) (k := 0) (f := 0) hX hC rfl in_X0 (by decide) wd_222 (fun _ h9 => h9) (fun _ _ => rfl) dX0_note_15 h (fun z4 h => ?_)
    refine lv_iload_n hx hb dX0_note_18 rfl (lv_at hl 1 rfl) ?_
    obtain ⟨q5, e9, hh⟩ := h
    subst e9
    have h := hh
    clear hh
    refine cq_ist hX hC dX0_note_19 h.1 h.2.1 h.2.2 (fun S6 H locs hC h => ?_)
    refine lv_aload_n hx hb dX0_note_20 rfl (lv_at hl 0 rfl) ?_
    refine cq_getr (ci := 0) (k := 2) (f := 1) hX hC rfl in_X0 (by decide) wd_225 (fun _ h9 => h9) (fun _ _ => rfl) dX0_note_21 h (fun z7 h => ?_)
    refine lv_aload_n hx hb dX0_note_24 rfl (lv_at hl 0 rfl) ?_
    refine cq_geti (ci := 0) (k := 0) (f := 0) hX hC rfl in_X0 (by decide) wd_222 (fun _ h9 => h9) (fun _ _ => rfl) dX0_note_25 h (fun z8 h => ?_)
    refine lv_iload_n hx hb dX0_note_28 rfl (lv_at hl 2 rfl) ?_
    obtain ⟨q9, e9, hh⟩ := h
    subst e9
    have h := hh
    clear hh
    refine cq_ist hX hC dX0_note_29 h.1 h.2.1 h.2.2 (fun S10 H locs hC h => ?_)
    exact cut30 t0 S10 _ _ _ h hC (lv_sub hl [0] rfl)
def wp_X0_tell (t0 : Nat) (a0 : Int32) (a1 : Int32) (S : kS) (K : kS → Int32 → Prop) : Prop := ((a0 < 0 → K S (-1)) ∧ (¬ a0 < 0 → hasO S t0 0 ∧ ∀ z2 : Int32, z2 = S.1 0 t0 → ((z2 ≤ a0 → K S (-1)) ∧ (¬ z2 ≤ a0 → ((300 ≤ a0 → K S (-1)) ∧ (¬ 300 ≤ a0 → ((a1 < 0 → K S (-1)) ∧ (¬ a1 < 0 → ((a1 ≤ 1 → ((¬ a1 = 0 → hasO S t0 0 ∧ ∀ z8 : Option Nat, z8 = S.2.1 1 t0 → ∃ q9 : Nat, z8 = some q9 ∧ hasA S q9 300 0 ∧ inR a0 300 ∧ ∀ z10 : Int32, z10 = S.2.2.1 q9 (ix a0) → K S z10) ∧ (a1 = 0 → hasO S t0 0 ∧ ∀ z11 : Option Nat, z11 = S.2.1 0 t0 → ∃ q12 : Nat, z11 = some q12 ∧ hasA S q12 300 0 ∧ inR a0 300 ∧ ∀ z13 : Int32, z13 = S.2.2.1 q12 (ix a0) → K S z13))) ∧ (¬ a1 ≤ 1 → K S (-1)))))))))))
set_option maxHeartbeats 4000000 in
set_option maxRecDepth 100000 in
theorem kt_X0_tell (l : Launch) (S : kS) (t0 : Nat) (a0 : Int32) (a1 : Int32) (K : kS → Int32 → Prop) (h : wp_X0_tell t0 a0 a1 S K) : kMi l yX0_tell cX0_tell 3 (some .int) 0 0 [.ref t0, .int a0, .int a1] S K := by
  refine kv_ofi (own := RX0) (by decide) rfl (Nat.le_of_ble_eq_true rfl) ?_
  intro E p e R s m args below meth c A ls Q hRf hRl hX hC hl hret
  have hx := hX.1.1
  have hb := hX.1.2.1
  have hown := hX.1.2.2.2.1
  have hts := hX.1.2.2.2.2
  have hl : lv_has ls 3 [(0, .ref t0), (1, .int a0), (2, .int a1)] := hl
  unfold wp_X0_tell at h
  refine lv_iload_n hx hb dX0_tell_0 rfl (lv_at hl 1 rfl) ?_
  refine lv_if_lt (tgt := 28) hx hb dX0_tell_1 (by decide) (fun c1 => ?_) (fun c1 => ?_)
  · have h := h.1 c1
    refine lv_iconst (v := -1) hx hb dX0_tell_28 (by decide) ?_
    exact hret _ _ _ _ _ _ hC h dX0_tell_29
  · have h := h.2 c1
    refine lv_iload_n hx hb dX0_tell_4 rfl (lv_at hl 1 rfl) ?_
    refine lv_aload_n hx hb dX0_tell_5 rfl (lv_at hl 0 rfl) ?_
    refine cq_geti (ci := 0) (k := 0) (f := 0) hX hC rfl in_X0 (by decide) wd_222 (fun _ h9 => h9) (fun _ _ => rfl) dX0_tell_6 h (fun z2 h => ?_)
    refine lv_icmp_ge (tgt := 28) hx hb dX0_tell_9 (by decide) (fun c3 => ?_) (fun c3 => ?_)
    · have h := h.1 c3
      refine lv_iconst (v := -1) hx hb dX0_tell_28 (by decide) ?_
      exact hret _ _ _ _ _ _ hC h dX0_tell_29
    · have h := h.2 c3
      refine lv_iload_n hx hb dX0_tell_12 rfl (lv_at hl 1 rfl) ?_
      refine lv_sipush (v := 300) hx hb dX0_tell_13 (by decide) ?_
      refine lv_icmp_ge (tgt := 28) hx hb dX0_tell_16 (by decide) (fun c4 => ?_) (fun c4 => ?_)
      · have h := h.1 c4
        refine lv_iconst (v := -1) hx hb dX0_tell_28 (by decide) ?_
        exact hret _ _ _ _ _ _ hC h dX0_tell_29
      · have h := h.2 c4
        refine lv_iload_n hx hb dX0_tell_19 rfl (lv_at hl 2 rfl) ?_
        refine lv_if_lt (tgt := 28) hx hb dX0_tell_20 (by decide) (fun c5 => ?_) (fun c5 => ?_)
        · have h := h.1 c5
          refine lv_iconst (v := -1) hx hb dX0_tell_28 (by decide) ?_
          exact hret _ _ _ _ _ _ hC h dX0_tell_29
        · have h := h.2 c5
          refine lv_iload_n hx hb dX0_tell_23 rfl (lv_at hl 2 rfl) ?_
          refine lv_iconst (v := 1) hx hb dX0_tell_24 (by decide) ?_
          refine lv_icmp_le (tgt := 30) hx hb dX0_tell_25 (by decide) (fun c6 => ?_) (fun c6 => ?_)
          · have h := h.1 c6
            refine lv_iload_n hx hb dX0_tell_30 rfl (lv_at hl 2 rfl) ?_
            refine lv_if_ne (tgt := 43) hx hb dX0_tell_31 (by decide) (fun c7 => ?_) (fun c7 => ?_)
            · have h := h.1 c7
              refine lv_aload_n hx hb dX0_tell_43 rfl (lv_at hl 0 rfl) ?_
              refine cq_getr (ci := 0) (k := 2) (f := 1) hX hC rfl in_X0 (by decide) wd_225 (fun _ h9 => h9) (fun _ _ => rfl) dX0_tell_44 h (fun z8 h => ?_)
              refine lv_iload_n hx hb dX0_tell_47 rfl (lv_at hl 1 rfl) ?_
              obtain ⟨q9, e9, hh⟩ := h
              subst e9
              have h := hh
              clear hh
              refine cq_ild hX hC dX0_tell_48 h (fun z10 h => ?_)
              exact hret _ _ _ _ _ _ hC h dX0_tell_49
            · have h := h.2 c7
              refine lv_aload_n hx hb dX0_tell_34 rfl (lv_at hl 0 rfl) ?_
              refine cq_getr (ci := 0) (k := 1) (f := 0) hX hC rfl in_X0 (by decide) wd_224 (fun _ h9 => h9) (fun _ _ => rfl) dX0_tell_35 h (fun z11 h => ?_)
              refine lv_iload_n hx hb dX0_tell_38 rfl (lv_at hl 1 rfl) ?_
              obtain ⟨q12, e9, hh⟩ := h
              subst e9
              have h := hh
              clear hh
              refine cq_ild hX hC dX0_tell_39 h (fun z13 h => ?_)
              refine lv_goto (tgt := 49) hx hb dX0_tell_40 (by decide) ?_
              exact hret _ _ _ _ _ _ hC h dX0_tell_49
          · have h := h.2 c6
            refine lv_iconst (v := -1) hx hb dX0_tell_28 (by decide) ?_
            exact hret _ _ _ _ _ _ hC h dX0_tell_29
def wp_X10_add_70 (K : kS → Prop) (k3 : Nat × Int64 × Int32 × kS → Prop) (x0 : Nat) (x1 : Int64) (x3 : Int32) (S : kS) : Prop := ∀ z8 : Int32, z8 = x3 + (-8) → k3 (x0, x1, z8, S)
def wp_X10_add_38 (K : kS → Prop) (k3 : Nat × Int64 × Int32 × kS → Prop) (x0 : Nat) (x1 : Int64) (x3 : Int32) (x4 : Int32) (S : kS) : Prop := hasO S x0 10 ∧ ∀ z9 : Int32, z9 = S.1 41 x0 → ((4000 ≤ z9 → wp_X10_add_70 K k3 x0 x1 x3 S) ∧ (¬ 4000 ≤ z9 → hasO S x0 10 ∧ ∀ z11 : Option Nat, z11 = S.2.1 67 x0 → hasO S x0 10 ∧ ∀ z12 : Int32, z12 = S.1 41 x0 → ∀ z13 : Int32, z13 = (Int32.toUInt32 x4 % 65536).toInt32 → ∃ q14 : Nat, z11 = some q14 ∧ hasA S q14 4000 3 ∧ inR z12 4000 ∧ ∀ S15 : kS, S15 = cA S q14 (ix z12) (vp_nar .char z13) → hasO S15 x0 10 ∧ ∀ z16 : Int32, z16 = S15.1 41 x0 → ∀ z17 : Int32, z17 = z16 + 1 → hasO S15 x0 10 ∧ ∀ S18 : kS, S18 = cI S15 41 x0 z17 → wp_X10_add_70 K k3 x0 x1 x3 S18))
def wp_X10_add_3 (K : kS → Prop) (k3 : Nat × Int64 × Int32 × kS → Prop) (x0 : Nat) (x1 : Int64) (x3 : Int32) (S : kS) : Prop := ((x3 < 0 → K S) ∧ (¬ x3 < 0 → ∀ z2 : Int64, z2 = (Int64.toUInt64 x1 >>> ((Int32.toInt64 x3).toUInt64 &&& Int64.toUInt64 63)).toInt64 → ∀ z3 : Int32, z3 = Int64.toInt32 z2 → ∀ z4 : Int32, z4 = z3 &&& 255 → ((z4 = 10 → wp_X10_add_38 K k3 x0 x1 x3 z4 S) ∧ (¬ z4 = 10 → ((z4 < 32 → wp_X10_add_70 K k3 x0 x1 x3 S) ∧ (¬ z4 < 32 → ((126 < z4 → wp_X10_add_70 K k3 x0 x1 x3 S) ∧ (¬ 126 < z4 → wp_X10_add_38 K k3 x0 x1 x3 z4 S))))))))
def ls_X10_add_3 (K : kS → Prop) (k3 : Nat × Int64 × Int32 × kS → Prop) (u : Nat × Int64 × Int32 × kS) : Prop := wp_X10_add_3 K k3 u.1 u.2.1 u.2.2.1 u.2.2.2
def wp_X10_add (t0 : Nat) (a0 : Int64) (S : kS) (K : kS → Prop) : Prop := (∃ n9, it (ls_X10_add_3 K) n9 (t0, a0, 56, S))
set_option maxHeartbeats 4000000 in
set_option maxRecDepth 100000 in
theorem kt_X10_add (l : Launch) (S : kS) (t0 : Nat) (a0 : Int64) (K : kS → Prop) (h : wp_X10_add t0 a0 S K) : kMv l yX10_add cX10_add 5 none 0 0 [.ref t0, .long a0] S K := by
  refine kv_ofv (own := RX10) (by decide) rfl (Nat.le_of_ble_eq_true rfl) ?_
  intro E p e R s m args below meth c A ls Q hRf hRl hX hC hl hret
  have hx := hX.1.1
  have hb := hX.1.2.1
  have hown := hX.1.2.2.2.1
  have hts := hX.1.2.2.2.2
  have cut3 : ∀ (n3 : Nat) (x0 : Nat) (x1 : Int64) (x3 : Int32) (S : kS) (H : Heap) (locs : List Loc) (ls : Array Slot), it (ls_X10_add_3 K) n3 (x0, x1, x3, S) → cM E A s.heap S H locs → lv_has ls 5 [(0, .ref x0), (1, .long x1), (3, .int x3)] → W p l e R s m args below meth c H locs 0 0 Q (F0 m 3 ls []) := by
    intro n3
    induction n3 with
    | zero => intro x0 x1 x3 S H locs ls h hC hl; exact h.elim
    | succ n3 ih3 =>
      have cut70 : ∀ (x0 : Nat) (x1 : Int64) (x3 : Int32) (S : kS) (H : Heap) (locs : List Loc) (ls : Array Slot), wp_X10_add_70 K (it (ls_X10_add_3 K) n3) x0 x1 x3 S → cM E A s.heap S H locs → lv_has ls 5 [(0, .ref x0), (1, .long x1), (3, .int x3)] → W p l e R s m args below meth c H locs 0 0 Q (F0 m 70 ls []) := by
        intro x0 x1 x3 S H locs ls h hC hl
        unfold wp_X10_add_70 at h
        obtain ⟨z8, ez8⟩ : ∃ y : Int32, y = x3 + (-8) := ⟨_, rfl⟩
        have h := h z8 ez8
        refine lv_iinc (v := z8) (lv' := [(3, .int z8), (0, .ref x0), (1, .long x1)]) hx hb dX10_add_70 hl (k := 2) rfl (by rw [ez8]; rfl) (by decide) rfl (fun ls hl => ?_)
        refine lv_goto (tgt := 3) hx hb dX10_add_73 (by decide) ?_
        exact ih3 x0 x1 z8 S _ _ _ h hC (lv_sub hl [1, 2, 0] rfl)
      have cut38 : ∀ (x0 : Nat) (x1 : Int64) (x3 : Int32) (x4 : Int32) (S : kS) (H : Heap) (locs : List Loc) (ls : Array Slot), wp_X10_add_38 K (it (ls_X10_add_3 K) n3) x0 x1 x3 x4 S → cM E A s.heap S H locs → lv_has ls 5 [(0, .ref x0), (1, .long x1), (3, .int x3), (4, .int x4)] → W p l e R s m args below meth c H locs 0 0 Q (F0 m 38 ls []) := by
        intro x0 x1 x3 x4 S H locs ls h hC hl
        unfold wp_X10_add_38 at h
        refine lv_aload_n hx hb dX10_add_38 rfl (lv_at hl 0 rfl) ?_
        refine cq_geti (ci := 10) (k := 4) (f := 41) hX hC rfl in_X10 (by decide) wd_103 (fun _ h9 => h9) (fun _ _ => rfl) dX10_add_39 h (fun z9 h => ?_)
        refine lv_sipush (v := 4000) hx hb dX10_add_42 (by decide) ?_
        refine lv_icmp_ge (tgt := 70) hx hb dX10_add_45 (by decide) (fun c10 => ?_) (fun c10 => ?_)
        · have h := h.1 c10
          exact cut70 x0 x1 x3 S _ _ _ h hC (lv_sub hl [0, 1, 2] rfl)
        · have h := h.2 c10
          refine lv_aload_n hx hb dX10_add_48 rfl (lv_at hl 0 rfl) ?_
          refine cq_getr (ci := 10) (k := 5) (f := 67) hX hC rfl in_X10 (by decide) wd_104 (fun _ h9 => h9) (fun _ _ => rfl) dX10_add_49 h (fun z11 h => ?_)
          refine lv_aload_n hx hb dX10_add_52 rfl (lv_at hl 0 rfl) ?_
          refine cq_geti (ci := 10) (k := 4) (f := 41) hX hC rfl in_X10 (by decide) wd_103 (fun _ h9 => h9) (fun _ _ => rfl) dX10_add_53 h (fun z12 h => ?_)
          refine lv_iload hx hb dX10_add_56 (lv_at hl 3 rfl) ?_
          refine lq_i2c hx hb dX10_add_58 h (fun z13 h => ?_)
          obtain ⟨q14, e9, hh⟩ := h
          subst e9
          have h := hh
          clear hh
          refine cq_cst hX hC dX10_add_59 h.1 h.2.1 h.2.2 (fun S15 H locs hC h => ?_)
          refine lv_aload_n hx hb dX10_add_60 rfl (lv_at hl 0 rfl) ?_
          refine lv_dup hx hb dX10_add_61 rfl ?_
          refine cq_geti (ci := 10) (k := 4) (f := 41) hX hC rfl in_X10 (by decide) wd_103 (fun _ h9 => h9) (fun _ _ => rfl) dX10_add_62 h (fun z16 h => ?_)
          refine lv_iconst (v := 1) hx hb dX10_add_65 (by decide) ?_
          refine lq_iadd hx hb dX10_add_66 h (fun z17 h => ?_)
          refine cq_puti (v := z17) (ci := 10) (k := 4) (f := 41) hX hC rfl in_X10 (by decide) wd_103 (fun _ h9 => h9) tyX10 tyX10_ok nmX10 rfl rfl rfl (fun _ _ => Nat.le_of_ble_eq_true rfl) (fun _ _ _ => rfl) dX10_add_67 h.1 h.2 (fun S18 H locs hC h => ?_)
          exact cut70 x0 x1 x3 S18 _ _ _ h hC (lv_sub hl [0, 1, 2] rfl)
      intro x0 x1 x3 S H locs ls h hC hl
      have h : wp_X10_add_3 K (it (ls_X10_add_3 K) n3) x0 x1 x3 S := h
      unfold wp_X10_add_3 at h
      refine lv_iload_n hx hb dX10_add_3 rfl (lv_at hl 2 rfl) ?_
      refine lv_if_lt (tgt := 76) hx hb dX10_add_4 (by decide) (fun c1 => ?_) (fun c1 => ?_)
      · have h := h.1 c1
        exact hret _ _ _ _ _ hC h dX10_add_76
      · have h := h.2 c1
        refine lv_lload_n hx hb dX10_add_7 rfl (lv_at hl 1 rfl) ?_
        refine lv_iload_n hx hb dX10_add_8 rfl (lv_at hl 2 rfl) ?_
        refine lq_lushr hx hb dX10_add_9 h (fun z2 h => ?_)
        refine lq_l2i hx hb dX10_add_10 h (fun z3 h => ?_)
        refine lv_sipush (v := 255) hx hb dX10_add_11 (by decide) ?_
        refine lq_iand hx hb dX10_add_14 h (fun z4 h => ?_)
        refine lv_istore (lv' := [(4, .int z4), (0, .ref x0), (1, .long x1), (3, .int x3)]) hx hb dX10_add_15 hl (by decide) rfl (fun ls hl => ?_)
        refine lv_iload hx hb dX10_add_17 (lv_at hl 0 rfl) ?_
        refine lv_bipush (v := 10) hx hb dX10_add_19 (by decide) ?_
        refine lv_icmp_eq (tgt := 38) hx hb dX10_add_21 (by decide) (fun c5 => ?_) (fun c5 => ?_)
        · have h := h.1 c5
          exact cut38 x0 x1 x3 z4 S _ _ _ h hC (lv_sub hl [1, 2, 3, 0] rfl)
        · have h := h.2 c5
          refine lv_iload hx hb dX10_add_24 (lv_at hl 0 rfl) ?_
          refine lv_bipush (v := 32) hx hb dX10_add_26 (by decide) ?_
          refine lv_icmp_lt (tgt := 70) hx hb dX10_add_28 (by decide) (fun c6 => ?_) (fun c6 => ?_)
          · have h := h.1 c6
            exact cut70 x0 x1 x3 S _ _ _ h hC (lv_sub hl [1, 2, 3] rfl)
          · have h := h.2 c6
            refine lv_iload hx hb dX10_add_31 (lv_at hl 0 rfl) ?_
            refine lv_bipush (v := 126) hx hb dX10_add_33 (by decide) ?_
            refine lv_icmp_gt (tgt := 70) hx hb dX10_add_35 (by decide) (fun c7 => ?_) (fun c7 => ?_)
            · have h := h.1 c7
              exact cut70 x0 x1 x3 S _ _ _ h hC (lv_sub hl [1, 2, 3] rfl)
            · have h := h.2 c7
              exact cut38 x0 x1 x3 z4 S _ _ _ h hC (lv_sub hl [1, 2, 3, 0] rfl)
  have hl : lv_has ls 5 [(0, .ref t0), (1, .long a0)] := hl
  unfold wp_X10_add at h
  refine lv_bipush (v := 56) hx hb dX10_add_0 (by decide) ?_
  refine lv_istore_n (lv' := [(3, .int 56), (0, .ref t0), (1, .long a0)]) hx hb dX10_add_2 rfl hl (by decide) rfl (fun ls hl => ?_)
  obtain ⟨n9, h⟩ := h
  exact cut3 n9 t0 a0 56 S _ _ _ h hC (lv_sub hl [1, 2, 0] rfl)
def wp_X10_isDigit (a0 : Int32) (S : kS) (K : kS → Int32 → Prop) : Prop := ((a0 < 48 → K S 0) ∧ (¬ a0 < 48 → ((57 < a0 → K S 0) ∧ (¬ 57 < a0 → K S 1))))
set_option maxHeartbeats 4000000 in
set_option maxRecDepth 100000 in
theorem kt_X10_isDigit (l : Launch) (S : kS) (a0 : Int32) (K : kS → Int32 → Prop) (h : wp_X10_isDigit a0 S K) : kMi l yX10_isDigit cX10_isDigit 1 (some .boolean) 0 0 [.int a0] S K := by
  refine kv_ofz (own := RX10) (by decide) rfl (Nat.le_of_ble_eq_true rfl) ?_
  intro E p e R s m args below meth c A ls Q hRf hRl hX hC hl hret
  have hx := hX.1.1
  have hb := hX.1.2.1
  have hown := hX.1.2.2.2.1
  have hts := hX.1.2.2.2.2
  have hl : lv_has ls 1 [(0, .int a0)] := hl
  unfold wp_X10_isDigit at h
  refine lv_iload_n hx hb dX10_isDigit_0 rfl (lv_at hl 0 rfl) ?_
  refine lv_bipush (v := 48) hx hb dX10_isDigit_1 (by decide) ?_
  refine lv_icmp_lt (tgt := 16) hx hb dX10_isDigit_3 (by decide) (fun c1 => ?_) (fun c1 => ?_)
  · have h := h.1 c1
    refine lv_iconst (v := 0) hx hb dX10_isDigit_16 (by decide) ?_
    exact hret _ _ _ _ _ _ hC (Or.inl rfl) h dX10_isDigit_17
  · have h := h.2 c1
    refine lv_iload_n hx hb dX10_isDigit_6 rfl (lv_at hl 0 rfl) ?_
    refine lv_bipush (v := 57) hx hb dX10_isDigit_7 (by decide) ?_
    refine lv_icmp_gt (tgt := 16) hx hb dX10_isDigit_9 (by decide) (fun c2 => ?_) (fun c2 => ?_)
    · have h := h.1 c2
      refine lv_iconst (v := 0) hx hb dX10_isDigit_16 (by decide) ?_
      exact hret _ _ _ _ _ _ hC (Or.inl rfl) h dX10_isDigit_17
    · have h := h.2 c2
      refine lv_iconst (v := 1) hx hb dX10_isDigit_12 (by decide) ?_
      refine lv_goto (tgt := 17) hx hb dX10_isDigit_13 (by decide) ?_
      exact hret _ _ _ _ _ _ hC (Or.inr rfl) h dX10_isDigit_17
def wp_X10_isLetter (a0 : Int32) (S : kS) (K : kS → Int32 → Prop) : Prop := ((a0 < 97 → K S 0) ∧ (¬ a0 < 97 → ((122 < a0 → K S 0) ∧ (¬ 122 < a0 → K S 1))))
set_option maxHeartbeats 4000000 in
set_option maxRecDepth 100000 in
theorem kt_X10_isLetter (l : Launch) (S : kS) (a0 : Int32) (K : kS → Int32 → Prop) (h : wp_X10_isLetter a0 S K) : kMi l yX10_isLetter cX10_isLetter 1 (some .boolean) 0 0 [.int a0] S K := by
  refine kv_ofz (own := RX10) (by decide) rfl (Nat.le_of_ble_eq_true rfl) ?_
  intro E p e R s m args below meth c A ls Q hRf hRl hX hC hl hret
  have hx := hX.1.1
  have hb := hX.1.2.1
  have hown := hX.1.2.2.2.1
  have hts := hX.1.2.2.2.2
  have hl : lv_has ls 1 [(0, .int a0)] := hl
  unfold wp_X10_isLetter at h
  refine lv_iload_n hx hb dX10_isLetter_0 rfl (lv_at hl 0 rfl) ?_
  refine lv_bipush (v := 97) hx hb dX10_isLetter_1 (by decide) ?_
  refine lv_icmp_lt (tgt := 16) hx hb dX10_isLetter_3 (by decide) (fun c1 => ?_) (fun c1 => ?_)
  · have h := h.1 c1
    refine lv_iconst (v := 0) hx hb dX10_isLetter_16 (by decide) ?_
    exact hret _ _ _ _ _ _ hC (Or.inl rfl) h dX10_isLetter_17
  · have h := h.2 c1
    refine lv_iload_n hx hb dX10_isLetter_6 rfl (lv_at hl 0 rfl) ?_
    refine lv_bipush (v := 122) hx hb dX10_isLetter_7 (by decide) ?_
    refine lv_icmp_gt (tgt := 16) hx hb dX10_isLetter_9 (by decide) (fun c2 => ?_) (fun c2 => ?_)
    · have h := h.1 c2
      refine lv_iconst (v := 0) hx hb dX10_isLetter_16 (by decide) ?_
      exact hret _ _ _ _ _ _ hC (Or.inl rfl) h dX10_isLetter_17
    · have h := h.2 c2
      refine lv_iconst (v := 1) hx hb dX10_isLetter_12 (by decide) ?_
      refine lv_goto (tgt := 17) hx hb dX10_isLetter_13 (by decide) ?_
      exact hret _ _ _ _ _ _ hC (Or.inr rfl) h dX10_isLetter_17
def wp_X10_keep (t0 : Nat) (a0 : Int32) (a1 : Int32) (a2 : Int64) (S : kS) (K : kS → Prop) : Prop := hasO S t0 10 ∧ ∀ z1 : Int32, z1 = S.1 40 t0 → ((4001 ≤ z1 → K S) ∧ (¬ 4001 ≤ z1 → hasO S t0 10 ∧ ∀ z3 : Option Nat, z3 = S.2.1 64 t0 → hasO S t0 10 ∧ ∀ z4 : Int32, z4 = S.1 40 t0 → ∃ q5 : Nat, z3 = some q5 ∧ hasA S q5 4002 0 ∧ inR z4 4002 ∧ ∀ S6 : kS, S6 = cA S q5 (ix z4) a0 → hasO S6 t0 10 ∧ ∀ z7 : Option Nat, z7 = S6.2.1 65 t0 → hasO S6 t0 10 ∧ ∀ z8 : Int32, z8 = S6.1 40 t0 → ∃ q9 : Nat, z7 = some q9 ∧ hasA S6 q9 4002 0 ∧ inR z8 4002 ∧ ∀ S10 : kS, S10 = cA S6 q9 (ix z8) a1 → hasO S10 t0 10 ∧ ∀ z11 : Option Nat, z11 = S10.2.1 66 t0 → hasO S10 t0 10 ∧ ∀ z12 : Int32, z12 = S10.1 40 t0 → ∃ q13 : Nat, z11 = some q13 ∧ hasA S10 q13 4002 1 ∧ inR z12 4002 ∧ ∀ S14 : kS, S14 = cL S10 q13 (ix z12) a2 → hasO S14 t0 10 ∧ ∀ z15 : Int32, z15 = S14.1 40 t0 → ∀ z16 : Int32, z16 = z15 + 1 → hasO S14 t0 10 ∧ ∀ S17 : kS, S17 = cI S14 40 t0 z16 → K S17))
set_option maxHeartbeats 4000000 in
set_option maxRecDepth 100000 in
theorem kt_X10_keep (l : Launch) (S : kS) (t0 : Nat) (a0 : Int32) (a1 : Int32) (a2 : Int64) (K : kS → Prop) (h : wp_X10_keep t0 a0 a1 a2 S K) : kMv l yX10_keep cX10_keep 5 none 0 0 [.ref t0, .int a0, .int a1, .long a2] S K := by
  refine kv_ofv (own := RX10) (by decide) rfl (Nat.le_of_ble_eq_true rfl) ?_
  intro E p e R s m args below meth c A ls Q hRf hRl hX hC hl hret
  have hx := hX.1.1
  have hb := hX.1.2.1
  have hown := hX.1.2.2.2.1
  have hts := hX.1.2.2.2.2
  have hl : lv_has ls 5 [(0, .ref t0), (1, .int a0), (2, .int a1), (3, .long a2)] := hl
  unfold wp_X10_keep at h
  refine lv_aload_n hx hb dX10_keep_0 rfl (lv_at hl 0 rfl) ?_
  refine cq_geti (ci := 10) (k := 3) (f := 40) hX hC rfl in_X10 (by decide) wd_100 (fun _ h9 => h9) (fun _ _ => rfl) dX10_keep_1 h (fun z1 h => ?_)
  refine lv_sipush (v := 4001) hx hb dX10_keep_4 (by decide) ?_
  refine lv_icmp_ge (tgt := 50) hx hb dX10_keep_7 (by decide) (fun c2 => ?_) (fun c2 => ?_)
  · have h := h.1 c2
    exact hret _ _ _ _ _ hC h dX10_keep_50
  · have h := h.2 c2
    refine lv_aload_n hx hb dX10_keep_10 rfl (lv_at hl 0 rfl) ?_
    refine cq_getr (ci := 10) (k := 0) (f := 64) hX hC rfl in_X10 (by decide) wd_94 (fun _ h9 => h9) (fun _ _ => rfl) dX10_keep_11 h (fun z3 h => ?_)
    refine lv_aload_n hx hb dX10_keep_14 rfl (lv_at hl 0 rfl) ?_
    refine cq_geti (ci := 10) (k := 3) (f := 40) hX hC rfl in_X10 (by decide) wd_100 (fun _ h9 => h9) (fun _ _ => rfl) dX10_keep_15 h (fun z4 h => ?_)
    refine lv_iload_n hx hb dX10_keep_18 rfl (lv_at hl 1 rfl) ?_
    obtain ⟨q5, e9, hh⟩ := h
    subst e9
    have h := hh
    clear hh
    refine cq_ist hX hC dX10_keep_19 h.1 h.2.1 h.2.2 (fun S6 H locs hC h => ?_)
    refine lv_aload_n hx hb dX10_keep_20 rfl (lv_at hl 0 rfl) ?_
    refine cq_getr (ci := 10) (k := 1) (f := 65) hX hC rfl in_X10 (by decide) wd_96 (fun _ h9 => h9) (fun _ _ => rfl) dX10_keep_21 h (fun z7 h => ?_)
    refine lv_aload_n hx hb dX10_keep_24 rfl (lv_at hl 0 rfl) ?_
    refine cq_geti (ci := 10) (k := 3) (f := 40) hX hC rfl in_X10 (by decide) wd_100 (fun _ h9 => h9) (fun _ _ => rfl) dX10_keep_25 h (fun z8 h => ?_)
    refine lv_iload_n hx hb dX10_keep_28 rfl (lv_at hl 2 rfl) ?_
    obtain ⟨q9, e9, hh⟩ := h
    subst e9
    have h := hh
    clear hh
    refine cq_ist hX hC dX10_keep_29 h.1 h.2.1 h.2.2 (fun S10 H locs hC h => ?_)
    refine lv_aload_n hx hb dX10_keep_30 rfl (lv_at hl 0 rfl) ?_
    refine cq_getr (ci := 10) (k := 2) (f := 66) hX hC rfl in_X10 (by decide) wd_98 (fun _ h9 => h9) (fun _ _ => rfl) dX10_keep_31 h (fun z11 h => ?_)
    refine lv_aload_n hx hb dX10_keep_34 rfl (lv_at hl 0 rfl) ?_
    refine cq_geti (ci := 10) (k := 3) (f := 40) hX hC rfl in_X10 (by decide) wd_100 (fun _ h9 => h9) (fun _ _ => rfl) dX10_keep_35 h (fun z12 h => ?_)
    refine lv_lload_n hx hb dX10_keep_38 rfl (lv_at hl 3 rfl) ?_
    obtain ⟨q13, e9, hh⟩ := h
    subst e9
    have h := hh
    clear hh
    refine cq_lst hX hC dX10_keep_39 h.1 h.2.1 h.2.2 (fun S14 H locs hC h => ?_)
    refine lv_aload_n hx hb dX10_keep_40 rfl (lv_at hl 0 rfl) ?_
    refine lv_dup hx hb dX10_keep_41 rfl ?_
    refine cq_geti (ci := 10) (k := 3) (f := 40) hX hC rfl in_X10 (by decide) wd_100 (fun _ h9 => h9) (fun _ _ => rfl) dX10_keep_42 h (fun z15 h => ?_)
    refine lv_iconst (v := 1) hx hb dX10_keep_45 (by decide) ?_
    refine lq_iadd hx hb dX10_keep_46 h (fun z16 h => ?_)
    refine cq_puti (v := z16) (ci := 10) (k := 3) (f := 40) hX hC rfl in_X10 (by decide) wd_100 (fun _ h9 => h9) tyX10 tyX10_ok nmX10 rfl rfl rfl (fun _ _ => Nat.le_of_ble_eq_true rfl) (fun _ _ _ => rfl) dX10_keep_47 h.1 h.2 (fun S17 H locs hC h => ?_)
    exact hret _ _ _ _ _ hC h dX10_keep_50
def wp_X10_kindOf_2 (K : kS → Int32 → Prop) (k2 : Nat × Int64 × Int32 × kS → Prop) (x0 : Nat) (x1 : Int64) (x3 : Int32) (S : kS) : Prop := ((21 ≤ x3 → K S 3) ∧ (¬ 21 ≤ x3 → hasO S x0 10 ∧ ∀ z2 : Option Nat, z2 = S.2.1 68 x0 → ∃ q3 : Nat, z2 = some q3 ∧ hasA S q3 21 1 ∧ inR x3 21 ∧ ∀ z4 : Int64, z4 = S.2.2.2.1 q3 (ix x3) → ∀ z5 : Int32, z5 = lg_cmp z4 x1 → ((¬ z5 = 0 → ∀ z7 : Int32, z7 = x3 + 1 → k2 (x0, x1, z7, S)) ∧ (z5 = 0 → ∀ z8 : Int32, z8 = 200 + x3 → K S z8))))
def ls_X10_kindOf_2 (K : kS → Int32 → Prop) (k2 : Nat × Int64 × Int32 × kS → Prop) (u : Nat × Int64 × Int32 × kS) : Prop := wp_X10_kindOf_2 K k2 u.1 u.2.1 u.2.2.1 u.2.2.2
def wp_X10_kindOf (t0 : Nat) (a0 : Int64) (S : kS) (K : kS → Int32 → Prop) : Prop := (∃ n9, it (ls_X10_kindOf_2 K) n9 (t0, a0, 0, S))
set_option maxHeartbeats 4000000 in
set_option maxRecDepth 100000 in
theorem kt_X10_kindOf (l : Launch) (S : kS) (t0 : Nat) (a0 : Int64) (K : kS → Int32 → Prop) (h : wp_X10_kindOf t0 a0 S K) : kMi l yX10_kindOf cX10_kindOf 4 (some .int) 0 0 [.ref t0, .long a0] S K := by
  refine kv_ofi (own := RX10) (by decide) rfl (Nat.le_of_ble_eq_true rfl) ?_
  intro E p e R s m args below meth c A ls Q hRf hRl hX hC hl hret
  have hx := hX.1.1
  have hb := hX.1.2.1
  have hown := hX.1.2.2.2.1
  have hts := hX.1.2.2.2.2
  have cut2 : ∀ (n2 : Nat) (x0 : Nat) (x1 : Int64) (x3 : Int32) (S : kS) (H : Heap) (locs : List Loc) (ls : Array Slot), it (ls_X10_kindOf_2 K) n2 (x0, x1, x3, S) → cM E A s.heap S H locs → lv_has ls 4 [(0, .ref x0), (1, .long x1), (3, .int x3)] → W p l e R s m args below meth c H locs 0 0 Q (F0 m 2 ls []) := by
    intro n2
    induction n2 with
    | zero => intro x0 x1 x3 S H locs ls h hC hl; exact h.elim
    | succ n2 ih2 =>
      intro x0 x1 x3 S H locs ls h hC hl
      have h : wp_X10_kindOf_2 K (it (ls_X10_kindOf_2 K) n2) x0 x1 x3 S := h
      unfold wp_X10_kindOf_2 at h
      refine lv_iload_n hx hb dX10_kindOf_2 rfl (lv_at hl 2 rfl) ?_
      refine lv_bipush (v := 21) hx hb dX10_kindOf_3 (by decide) ?_
      refine lv_icmp_ge (tgt := 31) hx hb dX10_kindOf_5 (by decide) (fun c1 => ?_) (fun c1 => ?_)
      · have h := h.1 c1
        refine lv_iconst (v := 3) hx hb dX10_kindOf_31 (by decide) ?_
        exact hret _ _ _ _ _ _ hC h dX10_kindOf_32
      · have h := h.2 c1
        refine lv_aload_n hx hb dX10_kindOf_8 rfl (lv_at hl 0 rfl) ?_
        refine cq_getr (ci := 10) (k := 6) (f := 68) hX hC rfl in_X10 (by decide) wd_105 (fun _ h9 => h9) (fun _ _ => rfl) dX10_kindOf_9 h (fun z2 h => ?_)
        refine lv_iload_n hx hb dX10_kindOf_12 rfl (lv_at hl 2 rfl) ?_
        obtain ⟨q3, e9, hh⟩ := h
        subst e9
        have h := hh
        clear hh
        refine cq_lld hX hC dX10_kindOf_13 h (fun z4 h => ?_)
        refine lv_lload_n hx hb dX10_kindOf_14 rfl (lv_at hl 1 rfl) ?_
        refine lq_lcmp hx hb dX10_kindOf_15 h (fun z5 h => ?_)
        refine lv_if_ne (tgt := 25) hx hb dX10_kindOf_16 (by decide) (fun c6 => ?_) (fun c6 => ?_)
        · have h := h.1 c6
          obtain ⟨z7, ez7⟩ : ∃ y : Int32, y = x3 + 1 := ⟨_, rfl⟩
          have h := h z7 ez7
          refine lv_iinc (v := z7) (lv' := [(3, .int z7), (0, .ref x0), (1, .long x1)]) hx hb dX10_kindOf_25 hl (k := 2) rfl (by rw [ez7]; rfl) (by decide) rfl (fun ls hl => ?_)
          refine lv_goto (tgt := 2) hx hb dX10_kindOf_28 (by decide) ?_
          exact ih2 x0 x1 z7 S _ _ _ h hC (lv_sub hl [1, 2, 0] rfl)
        · have h := h.2 c6
          refine lv_sipush (v := 200) hx hb dX10_kindOf_19 (by decide) ?_
          refine lv_iload_n hx hb dX10_kindOf_22 rfl (lv_at hl 2 rfl) ?_
          refine lq_iadd hx hb dX10_kindOf_23 h (fun z8 h => ?_)
          exact hret _ _ _ _ _ _ hC h dX10_kindOf_24
  have hl : lv_has ls 4 [(0, .ref t0), (1, .long a0)] := hl
  unfold wp_X10_kindOf at h
  refine lv_iconst (v := 0) hx hb dX10_kindOf_0 (by decide) ?_
  refine lv_istore_n (lv' := [(3, .int 0), (0, .ref t0), (1, .long a0)]) hx hb dX10_kindOf_1 rfl hl (by decide) rfl (fun ls hl => ?_)
  obtain ⟨n9, h⟩ := h
  exact cut2 n9 t0 a0 0 S _ _ _ h hC (lv_sub hl [1, 2, 0] rfl)
def wp_X10_longer_28 (K : kS → Int64 → Prop) (y0 : Int64) (y1 : Int32) (S : kS) : Prop := ∀ z8 : Int64, z8 = Int32.toInt64 y1 → ∀ z9 : Int64, z9 = y0 + z8 → K S z9
def wp_X10_longer (a0 : Int64) (a1 : Int32) (S : kS) (K : kS → Int64 → Prop) : Prop := ∀ z1 : Int64, z1 = a0 * 37 → wp_X10_isDigit a1 S (fun (S2 : kS) (r2 : Int32) => ((r2 = 0 → ∀ z4 : Int32, z4 = a1 - 97 → ∀ z5 : Int32, z5 = 1 + z4 → wp_X10_longer_28 K z1 z5 S2) ∧ (¬ r2 = 0 → ∀ z6 : Int32, z6 = a1 - 48 → ∀ z7 : Int32, z7 = 27 + z6 → wp_X10_longer_28 K z1 z7 S2)))
theorem cw_X10_60 {R : Room} {s : State} {args : Array Value} {fr lo : Nat} (hts : ∀ w ∈ tb, w.before args s = true) (h1 : fr + 1 ≤ R.frames) (h2 : 8 + (1 + 11) + lo ≤ R.locals) : CallB R s args RX10 60 yX10_isDigit cX10_isDigit 1 (some .boolean) (.code yX10_isDigit cX10_isDigit 1 (some .boolean) :: tb) (mRm fr lo) 0 0 1 ∧ (Cond.static yX10_isDigit).before args s = true := cwS 1 hts (gd_S wd_91 wd_92 wd_2 wd_93) rfl rfl rfl (by decide +kernel) ⟨h1, h2⟩
set_option maxHeartbeats 4000000 in
set_option maxRecDepth 100000 in
theorem kt_X10_longer (l : Launch) (S : kS) (a0 : Int64) (a1 : Int32) (K : kS → Int64 → Prop) (h : wp_X10_longer a0 a1 S K) : kMl l yX10_longer cX10_longer 3 (some .long) 1 20 [.long a0, .int a1] S K := by
  refine kv_ofl (own := RX10) (by decide) rfl (Nat.le_of_ble_eq_true rfl) ?_
  intro E p e R s m args below meth c A ls Q hRf hRl hX hC hl hret
  have hx := hX.1.1
  have hb := hX.1.2.1
  have hown := hX.1.2.2.2.1
  have hts := hX.1.2.2.2.2
  have cut28 : ∀ (y0 : Int64) (y1 : Int32) (S : kS) (H : Heap) (locs : List Loc) (ls : Array Slot), wp_X10_longer_28 K y0 y1 S → cM E A s.heap S H locs → lv_has ls 3 [] → W p l e R s m args below meth c H locs 0 0 Q (F0 m 28 ls [.int y1, .long y0]) := by
    intro y0 y1 S H locs ls h hC hl
    unfold wp_X10_longer_28 at h
    refine lq_i2l hx hb dX10_longer_28 h (fun z8 h => ?_)
    refine lq_ladd hx hb dX10_longer_29 h (fun z9 h => ?_)
    exact hret _ _ _ _ _ _ hC h dX10_longer_30
  have hl : lv_has ls 3 [(0, .long a0), (2, .int a1)] := hl
  unfold wp_X10_longer at h
  refine lv_lload_n hx hb dX10_longer_0 rfl (lv_at hl 0 rfl) ?_
  refine lv_ldc2 (v := 37) hx hb hown (hts _ wd_90) dX10_longer_1 ?_
  refine lq_lmul hx hb dX10_longer_4 h (fun z1 h => ?_)
  refine lv_iload_n hx hb dX10_longer_5 rfl (lv_at hl 1 rfl) ?_
  refine kv_callsi [.int a1] (rest := [.long z1]) hX hC (kt_X10_isDigit l S a1 _ h E _) (cw_X10_60 hts (by omega) (by omega)) rfl hl.1 (Nat.le_of_ble_eq_true rfl) ⟨Nat.zero_le _, Nat.zero_le _⟩ dX10_longer_6 (fun r2 S2 H locs hC h => ?_)
  refine lv_if_eq (tgt := 22) hx hb dX10_longer_9 (by decide) (fun c3 => ?_) (fun c3 => ?_)
  · have h := h.1 c3
    refine lv_iconst (v := 1) hx hb dX10_longer_22 (by decide) ?_
    refine lv_iload_n hx hb dX10_longer_23 rfl (lv_at hl 1 rfl) ?_
    refine lv_bipush (v := 97) hx hb dX10_longer_24 (by decide) ?_
    refine lq_isub hx hb dX10_longer_26 h (fun z4 h => ?_)
    refine lq_iadd hx hb dX10_longer_27 h (fun z5 h => ?_)
    exact cut28 z1 z5 S2 _ _ _ h hC (lv_sub hl [] rfl)
  · have h := h.2 c3
    refine lv_bipush (v := 27) hx hb dX10_longer_12 (by decide) ?_
    refine lv_iload_n hx hb dX10_longer_14 rfl (lv_at hl 1 rfl) ?_
    refine lv_bipush (v := 48) hx hb dX10_longer_15 (by decide) ?_
    refine lq_isub hx hb dX10_longer_17 h (fun z6 h => ?_)
    refine lq_iadd hx hb dX10_longer_18 h (fun z7 h => ?_)
    refine lv_goto (tgt := 28) hx hb dX10_longer_19 (by decide) ?_
    exact cut28 z1 z7 S2 _ _ _ h hC (lv_sub hl [] rfl)
def wp_X10_onlyWord_28 (K : kS → Int64 → Prop) (y0 : Int64) (S : kS) : Prop := K S y0
def wp_X10_onlyWord_27 (K : kS → Int64 → Prop) (S : kS) : Prop := wp_X10_onlyWord_28 K 0 S
def wp_X10_onlyWord (t0 : Nat) (S : kS) (K : kS → Int64 → Prop) : Prop := hasO S t0 10 ∧ ∀ z1 : Int32, z1 = S.1 40 t0 → ((¬ z1 = 2 → wp_X10_onlyWord_27 K S) ∧ (z1 = 2 → hasO S t0 10 ∧ ∀ z3 : Option Nat, z3 = S.2.1 64 t0 → ∃ q4 : Nat, z3 = some q4 ∧ hasA S q4 4002 0 ∧ inR 0 4002 ∧ ∀ z5 : Int32, z5 = S.2.2.1 q4 (ix 0) → ((¬ z5 = 3 → wp_X10_onlyWord_27 K S) ∧ (z5 = 3 → hasO S t0 10 ∧ ∀ z7 : Option Nat, z7 = S.2.1 66 t0 → ∃ q8 : Nat, z7 = some q8 ∧ hasA S q8 4002 1 ∧ inR 0 4002 ∧ ∀ z9 : Int64, z9 = S.2.2.2.1 q8 (ix 0) → wp_X10_onlyWord_28 K z9 S))))
set_option maxHeartbeats 4000000 in
set_option maxRecDepth 100000 in
theorem kt_X10_onlyWord (l : Launch) (S : kS) (t0 : Nat) (K : kS → Int64 → Prop) (h : wp_X10_onlyWord t0 S K) : kMl l yX10_onlyWord cX10_onlyWord 1 (some .long) 0 0 [.ref t0] S K := by
  refine kv_ofl (own := RX10) (by decide) rfl (Nat.le_of_ble_eq_true rfl) ?_
  intro E p e R s m args below meth c A ls Q hRf hRl hX hC hl hret
  have hx := hX.1.1
  have hb := hX.1.2.1
  have hown := hX.1.2.2.2.1
  have hts := hX.1.2.2.2.2
  have cut28 : ∀ (y0 : Int64) (S : kS) (H : Heap) (locs : List Loc) (ls : Array Slot), wp_X10_onlyWord_28 K y0 S → cM E A s.heap S H locs → lv_has ls 1 [] → W p l e R s m args below meth c H locs 0 0 Q (F0 m 28 ls [.long y0]) := by
    intro y0 S H locs ls h hC hl
    unfold wp_X10_onlyWord_28 at h
    exact hret _ _ _ _ _ _ hC h dX10_onlyWord_28
  have cut27 : ∀ (S : kS) (H : Heap) (locs : List Loc) (ls : Array Slot), wp_X10_onlyWord_27 K S → cM E A s.heap S H locs → lv_has ls 1 [] → W p l e R s m args below meth c H locs 0 0 Q (F0 m 27 ls []) := by
    intro S H locs ls h hC hl
    unfold wp_X10_onlyWord_27 at h
    refine lv_lconst (v := 0) hx hb dX10_onlyWord_27 (by decide) ?_
    exact cut28 0 S _ _ _ h hC (lv_sub hl [] rfl)
  have hl : lv_has ls 1 [(0, .ref t0)] := hl
  unfold wp_X10_onlyWord at h
  refine lv_aload_n hx hb dX10_onlyWord_0 rfl (lv_at hl 0 rfl) ?_
  refine cq_geti (ci := 10) (k := 3) (f := 40) hX hC rfl in_X10 (by decide) wd_100 (fun _ h9 => h9) (fun _ _ => rfl) dX10_onlyWord_1 h (fun z1 h => ?_)
  refine lv_iconst (v := 2) hx hb dX10_onlyWord_4 (by decide) ?_
  refine lv_icmp_ne (tgt := 27) hx hb dX10_onlyWord_5 (by decide) (fun c2 => ?_) (fun c2 => ?_)
  · have h := h.1 c2
    exact cut27 S _ _ _ h hC (lv_sub hl [] rfl)
  · have h := h.2 c2
    refine lv_aload_n hx hb dX10_onlyWord_8 rfl (lv_at hl 0 rfl) ?_
    refine cq_getr (ci := 10) (k := 0) (f := 64) hX hC rfl in_X10 (by decide) wd_94 (fun _ h9 => h9) (fun _ _ => rfl) dX10_onlyWord_9 h (fun z3 h => ?_)
    refine lv_iconst (v := 0) hx hb dX10_onlyWord_12 (by decide) ?_
    obtain ⟨q4, e9, hh⟩ := h
    subst e9
    have h := hh
    clear hh
    refine cq_ild hX hC dX10_onlyWord_13 h (fun z5 h => ?_)
    refine lv_iconst (v := 3) hx hb dX10_onlyWord_14 (by decide) ?_
    refine lv_icmp_ne (tgt := 27) hx hb dX10_onlyWord_15 (by decide) (fun c6 => ?_) (fun c6 => ?_)
    · have h := h.1 c6
      exact cut27 S _ _ _ h hC (lv_sub hl [] rfl)
    · have h := h.2 c6
      refine lv_aload_n hx hb dX10_onlyWord_18 rfl (lv_at hl 0 rfl) ?_
      refine cq_getr (ci := 10) (k := 2) (f := 66) hX hC rfl in_X10 (by decide) wd_98 (fun _ h9 => h9) (fun _ _ => rfl) dX10_onlyWord_19 h (fun z7 h => ?_)
      refine lv_iconst (v := 0) hx hb dX10_onlyWord_22 (by decide) ?_
      obtain ⟨q8, e9, hh⟩ := h
      subst e9
      have h := hh
      clear hh
      refine cq_lld hX hC dX10_onlyWord_23 h (fun z9 h => ?_)
      refine lv_goto (tgt := 28) hx hb dX10_onlyWord_24 (by decide) ?_
      exact cut28 z9 S _ _ _ h hC (lv_sub hl [] rfl)
def wp_X10_readNumber_61 (K : kS → Int32 → Prop) (x1 : Int32) (x2 : Int32) (x3 : Int64) (y0 : Nat) (y1 : Int32) (S : kS) : Prop := hasO S y0 10 ∧ wp_X10_keep y0 y1 x1 x3 S (fun (S18 : kS) => K S18 x2)
def wp_X10_readNumber_47 (K : kS → Int32 → Prop) (x0 : Nat) (x1 : Int32) (x2 : Int32) (x3 : Int64) (S : kS) : Prop := ∀ z16 : Int32, z16 = x2 - x1 → ((z16 ≤ 9 → wp_X10_readNumber_61 K x1 x2 x3 x0 2 S) ∧ (¬ z16 ≤ 9 → wp_X10_readNumber_61 K x1 x2 x3 x0 1 S))
def wp_X10_readNumber_4 (K : kS → Int32 → Prop) (k4 : Nat × Int32 × Int32 × Int64 × kS → Prop) (x0 : Nat) (x1 : Int32) (x2 : Int32) (x3 : Int64) (S : kS) : Prop := hasO S x0 10 ∧ ∀ z1 : Int32, z1 = S.1 41 x0 → ((z1 ≤ x2 → wp_X10_readNumber_47 K x0 x1 x2 x3 S) ∧ (¬ z1 ≤ x2 → hasO S x0 10 ∧ ∀ z3 : Option Nat, z3 = S.2.1 67 x0 → ∃ q4 : Nat, z3 = some q4 ∧ hasA S q4 4000 3 ∧ inR x2 4000 ∧ ∀ z5 : Int32, z5 = S.2.2.1 q4 (ix x2) → wp_X10_isDigit z5 S (fun (S6 : kS) (r6 : Int32) => ((r6 = 0 → wp_X10_readNumber_47 K x0 x1 x2 x3 S6) ∧ (¬ r6 = 0 → ∀ z8 : Int64, z8 = x3 * 10 → hasO S6 x0 10 ∧ ∀ z9 : Option Nat, z9 = S6.2.1 67 x0 → ∃ q10 : Nat, z9 = some q10 ∧ hasA S6 q10 4000 3 ∧ inR x2 4000 ∧ ∀ z11 : Int32, z11 = S6.2.2.1 q10 (ix x2) → ∀ z12 : Int32, z12 = z11 - 48 → ∀ z13 : Int64, z13 = Int32.toInt64 z12 → ∀ z14 : Int64, z14 = z8 + z13 → ∀ z15 : Int32, z15 = x2 + 1 → k4 (x0, x1, z15, z14, S6))))))
def ls_X10_readNumber_4 (K : kS → Int32 → Prop) (k4 : Nat × Int32 × Int32 × Int64 × kS → Prop) (u : Nat × Int32 × Int32 × Int64 × kS) : Prop := wp_X10_readNumber_4 K k4 u.1 u.2.1 u.2.2.1 u.2.2.2.1 u.2.2.2.2
def wp_X10_readNumber (t0 : Nat) (a0 : Int32) (S : kS) (K : kS → Int32 → Prop) : Prop := (∃ n9, it (ls_X10_readNumber_4 K) n9 (t0, a0, a0, 0, S))
theorem cw_X10_71 {R : Room} {s : State} {args : Array Value} {fr lo : Nat} (hts : ∀ w ∈ tb, w.before args s = true) (h1 : fr + 1 ≤ R.frames) (h2 : 8 + (5 + 11) + lo ≤ R.locals) : CallW R s args RX10 RX10 71 yX10_keep cX10_keep 5 none (.code yX10_keep cX10_keep 5 none :: tb) (mRm fr lo) 0 0 3 := cwV 3 hts (gd_V wd_527 wd_529 sl_X10_keep wd_2 wd_530) rfl rfl rfl (by decide +kernel) ⟨h1, h2⟩
set_option maxHeartbeats 4000000 in
set_option maxRecDepth 100000 in
theorem kt_X10_readNumber (l : Launch) (S : kS) (t0 : Nat) (a0 : Int32) (K : kS → Int32 → Prop) (h : wp_X10_readNumber t0 a0 S K) : kMi l yX10_readNumber cX10_readNumber 5 (some .int) 1 24 [.ref t0, .int a0] S K := by
  refine kv_ofi (own := RX10) (by decide) rfl (Nat.le_of_ble_eq_true rfl) ?_
  intro E p e R s m args below meth c A ls Q hRf hRl hX hC hl hret
  have hx := hX.1.1
  have hb := hX.1.2.1
  have hown := hX.1.2.2.2.1
  have hts := hX.1.2.2.2.2
  have cut61 : ∀ (x1 : Int32) (x2 : Int32) (x3 : Int64) (y0 : Nat) (y1 : Int32) (S : kS) (H : Heap) (locs : List Loc) (ls : Array Slot), wp_X10_readNumber_61 K x1 x2 x3 y0 y1 S → cM E A s.heap S H locs → lv_has ls 5 [(1, .int x1), (2, .int x2), (3, .long x3)] → W p l e R s m args below meth c H locs 0 0 Q (F0 m 61 ls [.int y1, .ref y0]) := by
    intro x1 x2 x3 y0 y1 S H locs ls h hC hl
    unfold wp_X10_readNumber_61 at h
    refine lv_iload_n hx hb dX10_readNumber_61 rfl (lv_at hl 0 rfl) ?_
    refine lv_lload_n hx hb dX10_readNumber_62 rfl (lv_at hl 2 rfl) ?_
    refine kv_callv [.int y1, .int x1, .long x3] (rest := []) (ci := 10) rfl hX hC h.1 (kt_X10_keep l S y0 y1 x1 x3 _ h.2 E _) (cw_X10_71 hts (by omega) (by omega)) rfl hl.1 (Nat.le_of_ble_eq_true rfl) ⟨Nat.zero_le _, Nat.zero_le _⟩ dX10_readNumber_63 (fun S18 H locs hC h => ?_)
    refine lv_iload_n hx hb dX10_readNumber_66 rfl (lv_at hl 1 rfl) ?_
    exact hret _ _ _ _ _ _ hC h dX10_readNumber_67
  have cut47 : ∀ (x0 : Nat) (x1 : Int32) (x2 : Int32) (x3 : Int64) (S : kS) (H : Heap) (locs : List Loc) (ls : Array Slot), wp_X10_readNumber_47 K x0 x1 x2 x3 S → cM E A s.heap S H locs → lv_has ls 5 [(0, .ref x0), (1, .int x1), (2, .int x2), (3, .long x3)] → W p l e R s m args below meth c H locs 0 0 Q (F0 m 47 ls []) := by
    intro x0 x1 x2 x3 S H locs ls h hC hl
    unfold wp_X10_readNumber_47 at h
    refine lv_aload_n hx hb dX10_readNumber_47 rfl (lv_at hl 0 rfl) ?_
    refine lv_iload_n hx hb dX10_readNumber_48 rfl (lv_at hl 2 rfl) ?_
    refine lv_iload_n hx hb dX10_readNumber_49 rfl (lv_at hl 1 rfl) ?_
    refine lq_isub hx hb dX10_readNumber_50 h (fun z16 h => ?_)
    refine lv_bipush (v := 9) hx hb dX10_readNumber_51 (by decide) ?_
    refine lv_icmp_le (tgt := 60) hx hb dX10_readNumber_53 (by decide) (fun c17 => ?_) (fun c17 => ?_)
    · have h := h.1 c17
      refine lv_iconst (v := 2) hx hb dX10_readNumber_60 (by decide) ?_
      exact cut61 x1 x2 x3 x0 2 S _ _ _ h hC (lv_sub hl [1, 2, 3] rfl)
    · have h := h.2 c17
      refine lv_iconst (v := 1) hx hb dX10_readNumber_56 (by decide) ?_
      refine lv_goto (tgt := 61) hx hb dX10_readNumber_57 (by decide) ?_
      exact cut61 x1 x2 x3 x0 1 S _ _ _ h hC (lv_sub hl [1, 2, 3] rfl)
  have cut4 : ∀ (n4 : Nat) (x0 : Nat) (x1 : Int32) (x2 : Int32) (x3 : Int64) (S : kS) (H : Heap) (locs : List Loc) (ls : Array Slot), it (ls_X10_readNumber_4 K) n4 (x0, x1, x2, x3, S) → cM E A s.heap S H locs → lv_has ls 5 [(0, .ref x0), (1, .int x1), (2, .int x2), (3, .long x3)] → W p l e R s m args below meth c H locs 0 0 Q (F0 m 4 ls []) := by
    intro n4
    induction n4 with
    | zero => intro x0 x1 x2 x3 S H locs ls h hC hl; exact h.elim
    | succ n4 ih4 =>
      intro x0 x1 x2 x3 S H locs ls h hC hl
      have h : wp_X10_readNumber_4 K (it (ls_X10_readNumber_4 K) n4) x0 x1 x2 x3 S := h
      unfold wp_X10_readNumber_4 at h
      refine lv_iload_n hx hb dX10_readNumber_4 rfl (lv_at hl 2 rfl) ?_
      refine lv_aload_n hx hb dX10_readNumber_5 rfl (lv_at hl 0 rfl) ?_
      refine cq_geti (ci := 10) (k := 4) (f := 41) hX hC rfl in_X10 (by decide) wd_103 (fun _ h9 => h9) (fun _ _ => rfl) dX10_readNumber_6 h (fun z1 h => ?_)
      refine lv_icmp_ge (tgt := 47) hx hb dX10_readNumber_9 (by decide) (fun c2 => ?_) (fun c2 => ?_)
      · have h := h.1 c2
        exact cut47 x0 x1 x2 x3 S _ _ _ h hC (lv_sub hl [0, 1, 2, 3] rfl)
      · have h := h.2 c2
        refine lv_aload_n hx hb dX10_readNumber_12 rfl (lv_at hl 0 rfl) ?_
        refine cq_getr (ci := 10) (k := 5) (f := 67) hX hC rfl in_X10 (by decide) wd_104 (fun _ h9 => h9) (fun _ _ => rfl) dX10_readNumber_13 h (fun z3 h => ?_)
        refine lv_iload_n hx hb dX10_readNumber_16 rfl (lv_at hl 2 rfl) ?_
        obtain ⟨q4, e9, hh⟩ := h
        subst e9
        have h := hh
        clear hh
        refine cq_cld hX hC dX10_readNumber_17 h (fun z5 h => ?_)
        refine kv_callsi [.int z5] (rest := []) hX hC (kt_X10_isDigit l S z5 _ h E _) (cw_X10_60 hts (by omega) (by omega)) rfl hl.1 (Nat.le_of_ble_eq_true rfl) ⟨Nat.zero_le _, Nat.zero_le _⟩ dX10_readNumber_18 (fun r6 S6 H locs hC h => ?_)
        refine lv_if_eq (tgt := 47) hx hb dX10_readNumber_21 (by decide) (fun c7 => ?_) (fun c7 => ?_)
        · have h := h.1 c7
          exact cut47 x0 x1 x2 x3 S6 _ _ _ h hC (lv_sub hl [0, 1, 2, 3] rfl)
        · have h := h.2 c7
          refine lv_lload_n hx hb dX10_readNumber_24 rfl (lv_at hl 3 rfl) ?_
          refine lv_ldc2 (v := 10) hx hb hown (hts _ wd_535) dX10_readNumber_25 ?_
          refine lq_lmul hx hb dX10_readNumber_28 h (fun z8 h => ?_)
          refine lv_aload_n hx hb dX10_readNumber_29 rfl (lv_at hl 0 rfl) ?_
          refine cq_getr (ci := 10) (k := 5) (f := 67) hX hC rfl in_X10 (by decide) wd_104 (fun _ h9 => h9) (fun _ _ => rfl) dX10_readNumber_30 h (fun z9 h => ?_)
          refine lv_iload_n hx hb dX10_readNumber_33 rfl (lv_at hl 2 rfl) ?_
          obtain ⟨q10, e9, hh⟩ := h
          subst e9
          have h := hh
          clear hh
          refine cq_cld hX hC dX10_readNumber_34 h (fun z11 h => ?_)
          refine lv_bipush (v := 48) hx hb dX10_readNumber_35 (by decide) ?_
          refine lq_isub hx hb dX10_readNumber_37 h (fun z12 h => ?_)
          refine lq_i2l hx hb dX10_readNumber_38 h (fun z13 h => ?_)
          refine lq_ladd hx hb dX10_readNumber_39 h (fun z14 h => ?_)
          refine lv_lstore_n (lv' := [(3, .long z14), (0, .ref x0), (1, .int x1), (2, .int x2)]) hx hb dX10_readNumber_40 rfl hl (by decide) rfl (fun ls hl => ?_)
          obtain ⟨z15, ez15⟩ : ∃ y : Int32, y = x2 + 1 := ⟨_, rfl⟩
          have h := h z15 ez15
          refine lv_iinc (v := z15) (lv' := [(2, .int z15), (3, .long z14), (0, .ref x0), (1, .int x1)]) hx hb dX10_readNumber_41 hl (k := 3) rfl (by rw [ez15]; rfl) (by decide) rfl (fun ls hl => ?_)
          refine lv_goto (tgt := 4) hx hb dX10_readNumber_44 (by decide) ?_
          exact ih4 x0 x1 z15 z14 S6 _ _ _ h hC (lv_sub hl [2, 3, 0, 1] rfl)
  have hl : lv_has ls 5 [(0, .ref t0), (1, .int a0)] := hl
  unfold wp_X10_readNumber at h
  refine lv_iload_n hx hb dX10_readNumber_0 rfl (lv_at hl 1 rfl) ?_
  refine lv_istore_n (lv' := [(2, .int a0), (0, .ref t0), (1, .int a0)]) hx hb dX10_readNumber_1 rfl hl (by decide) rfl (fun ls hl => ?_)
  refine lv_lconst (v := 0) hx hb dX10_readNumber_2 (by decide) ?_
  refine lv_lstore_n (lv' := [(3, .long 0), (2, .int a0), (0, .ref t0), (1, .int a0)]) hx hb dX10_readNumber_3 rfl hl (by decide) rfl (fun ls hl => ?_)
  obtain ⟨n9, h⟩ := h
  exact cut4 n9 t0 a0 a0 0 S _ _ _ h hC (lv_sub hl [2, 3, 1, 0] rfl)
def wp_X10_readWord_71 (K : kS → Int32 → Prop) (x1 : Int32) (x2 : Int32) (x3 : Int64) (y0 : Nat) (y1 : Int32) (S : kS) : Prop := hasO S y0 10 ∧ wp_X10_keep y0 y1 x1 x3 S (fun (S21 : kS) => K S21 x2)
def wp_X10_readWord_53 (K : kS → Int32 → Prop) (x0 : Nat) (x1 : Int32) (x2 : Int32) (x3 : Int64) (S : kS) : Prop := ∀ z18 : Int32, z18 = x2 - x1 → ((z18 ≤ 12 → hasO S x0 10 ∧ wp_X10_kindOf x0 x3 S (fun (S20 : kS) (r20 : Int32) => wp_X10_readWord_71 K x1 x2 x3 x0 r20 S20)) ∧ (¬ z18 ≤ 12 → wp_X10_readWord_71 K x1 x2 x3 x0 1 S))
def wp_X10_readWord_36 (K : kS → Int32 → Prop) (k4 : Nat × Int32 × Int32 × Int64 × kS → Prop) (x0 : Nat) (x1 : Int32) (x2 : Int32) (x3 : Int64) (S : kS) : Prop := hasO S x0 10 ∧ ∀ z13 : Option Nat, z13 = S.2.1 67 x0 → ∃ q14 : Nat, z13 = some q14 ∧ hasA S q14 4000 3 ∧ inR x2 4000 ∧ ∀ z15 : Int32, z15 = S.2.2.1 q14 (ix x2) → wp_X10_longer x3 z15 S (fun (S16 : kS) (r16 : Int64) => ∀ z17 : Int32, z17 = x2 + 1 → k4 (x0, x1, z17, r16, S16))
def wp_X10_readWord_4 (K : kS → Int32 → Prop) (k4 : Nat × Int32 × Int32 × Int64 × kS → Prop) (x0 : Nat) (x1 : Int32) (x2 : Int32) (x3 : Int64) (S : kS) : Prop := hasO S x0 10 ∧ ∀ z1 : Int32, z1 = S.1 41 x0 → ((z1 ≤ x2 → wp_X10_readWord_53 K x0 x1 x2 x3 S) ∧ (¬ z1 ≤ x2 → hasO S x0 10 ∧ ∀ z3 : Option Nat, z3 = S.2.1 67 x0 → ∃ q4 : Nat, z3 = some q4 ∧ hasA S q4 4000 3 ∧ inR x2 4000 ∧ ∀ z5 : Int32, z5 = S.2.2.1 q4 (ix x2) → wp_X10_isLetter z5 S (fun (S6 : kS) (r6 : Int32) => ((¬ r6 = 0 → wp_X10_readWord_36 K k4 x0 x1 x2 x3 S6) ∧ (r6 = 0 → hasO S6 x0 10 ∧ ∀ z8 : Option Nat, z8 = S6.2.1 67 x0 → ∃ q9 : Nat, z8 = some q9 ∧ hasA S6 q9 4000 3 ∧ inR x2 4000 ∧ ∀ z10 : Int32, z10 = S6.2.2.1 q9 (ix x2) → wp_X10_isDigit z10 S6 (fun (S11 : kS) (r11 : Int32) => ((r11 = 0 → wp_X10_readWord_53 K x0 x1 x2 x3 S11) ∧ (¬ r11 = 0 → wp_X10_readWord_36 K k4 x0 x1 x2 x3 S11))))))))
def ls_X10_readWord_4 (K : kS → Int32 → Prop) (k4 : Nat × Int32 × Int32 × Int64 × kS → Prop) (u : Nat × Int32 × Int32 × Int64 × kS) : Prop := wp_X10_readWord_4 K k4 u.1 u.2.1 u.2.2.1 u.2.2.2.1 u.2.2.2.2
def wp_X10_readWord (t0 : Nat) (a0 : Int32) (S : kS) (K : kS → Int32 → Prop) : Prop := (∃ n9, it (ls_X10_readWord_4 K) n9 (t0, a0, a0, 0, S))
theorem cw_X10_52 {R : Room} {s : State} {args : Array Value} {fr lo : Nat} (hts : ∀ w ∈ tb, w.before args s = true) (h1 : fr + 1 ≤ R.frames) (h2 : 8 + (1 + 11) + lo ≤ R.locals) : CallB R s args RX10 52 yX10_isLetter cX10_isLetter 1 (some .boolean) (.code yX10_isLetter cX10_isLetter 1 (some .boolean) :: tb) (mRm fr lo) 0 0 1 ∧ (Cond.static yX10_isLetter).before args s = true := cwS 1 hts (gd_S wd_516 wd_517 wd_2 wd_518) rfl rfl rfl (by decide +kernel) ⟨h1, h2⟩
theorem cw_X10_41 {R : Room} {s : State} {args : Array Value} {fr lo : Nat} (hts : ∀ w ∈ tb, w.before args s = true) (h1 : fr + 1 ≤ R.frames) (h2 : 8 + (3 + 11) + lo ≤ R.locals) : CallB R s args RX10 41 yX10_longer cX10_longer 3 (some .long) (.code yX10_longer cX10_longer 3 (some .long) :: tb) (mRm fr lo) 0 0 2 ∧ (Cond.static yX10_longer).before args s = true := cwS 2 hts (gd_S wd_87 wd_88 wd_2 wd_89) rfl rfl rfl (by decide +kernel) ⟨h1, h2⟩
theorem cw_X10_75 {R : Room} {s : State} {args : Array Value} {fr lo : Nat} (hts : ∀ w ∈ tb, w.before args s = true) (h1 : fr + 1 ≤ R.frames) (h2 : 8 + (4 + 11) + lo ≤ R.locals) : CallW R s args RX10 RX10 75 yX10_kindOf cX10_kindOf 4 (some .int) (.code yX10_kindOf cX10_kindOf 4 (some .int) :: tb) (mRm fr lo) 0 0 1 := cwV 1 hts (gd_V wd_523 wd_525 sl_X10_kindOf wd_2 wd_526) rfl rfl rfl (by decide +kernel) ⟨h1, h2⟩
set_option maxHeartbeats 4000000 in
set_option maxRecDepth 100000 in
theorem kt_X10_readWord (l : Launch) (S : kS) (t0 : Nat) (a0 : Int32) (K : kS → Int32 → Prop) (h : wp_X10_readWord t0 a0 S K) : kMi l yX10_readWord cX10_readWord 5 (some .int) 2 42 [.ref t0, .int a0] S K := by
  refine kv_ofi (own := RX10) (by decide) rfl (Nat.le_of_ble_eq_true rfl) ?_
  intro E p e R s m args below meth c A ls Q hRf hRl hX hC hl hret
  have hx := hX.1.1
  have hb := hX.1.2.1
  have hown := hX.1.2.2.2.1
  have hts := hX.1.2.2.2.2
  have cut71 : ∀ (x1 : Int32) (x2 : Int32) (x3 : Int64) (y0 : Nat) (y1 : Int32) (S : kS) (H : Heap) (locs : List Loc) (ls : Array Slot), wp_X10_readWord_71 K x1 x2 x3 y0 y1 S → cM E A s.heap S H locs → lv_has ls 5 [(1, .int x1), (2, .int x2), (3, .long x3)] → W p l e R s m args below meth c H locs 0 0 Q (F0 m 71 ls [.int y1, .ref y0]) := by
    intro x1 x2 x3 y0 y1 S H locs ls h hC hl
    unfold wp_X10_readWord_71 at h
    refine lv_iload_n hx hb dX10_readWord_71 rfl (lv_at hl 0 rfl) ?_
    refine lv_lload_n hx hb dX10_readWord_72 rfl (lv_at hl 2 rfl) ?_
    refine kv_callv [.int y1, .int x1, .long x3] (rest := []) (ci := 10) rfl hX hC h.1 (kt_X10_keep l S y0 y1 x1 x3 _ h.2 E _) (cw_X10_71 hts (by omega) (by omega)) rfl hl.1 (Nat.le_of_ble_eq_true rfl) ⟨Nat.zero_le _, Nat.zero_le _⟩ dX10_readWord_73 (fun S21 H locs hC h => ?_)
    refine lv_iload_n hx hb dX10_readWord_76 rfl (lv_at hl 1 rfl) ?_
    exact hret _ _ _ _ _ _ hC h dX10_readWord_77
  have cut53 : ∀ (x0 : Nat) (x1 : Int32) (x2 : Int32) (x3 : Int64) (S : kS) (H : Heap) (locs : List Loc) (ls : Array Slot), wp_X10_readWord_53 K x0 x1 x2 x3 S → cM E A s.heap S H locs → lv_has ls 5 [(0, .ref x0), (1, .int x1), (2, .int x2), (3, .long x3)] → W p l e R s m args below meth c H locs 0 0 Q (F0 m 53 ls []) := by
    intro x0 x1 x2 x3 S H locs ls h hC hl
    unfold wp_X10_readWord_53 at h
    refine lv_aload_n hx hb dX10_readWord_53 rfl (lv_at hl 0 rfl) ?_
    refine lv_iload_n hx hb dX10_readWord_54 rfl (lv_at hl 2 rfl) ?_
    refine lv_iload_n hx hb dX10_readWord_55 rfl (lv_at hl 1 rfl) ?_
    refine lq_isub hx hb dX10_readWord_56 h (fun z18 h => ?_)
    refine lv_bipush (v := 12) hx hb dX10_readWord_57 (by decide) ?_
    refine lv_icmp_le (tgt := 66) hx hb dX10_readWord_59 (by decide) (fun c19 => ?_) (fun c19 => ?_)
    · have h := h.1 c19
      refine lv_aload_n hx hb dX10_readWord_66 rfl (lv_at hl 0 rfl) ?_
      refine lv_lload_n hx hb dX10_readWord_67 rfl (lv_at hl 3 rfl) ?_
      refine kv_calli [.long x3] (rest := [.ref x0]) (ci := 10) rfl hX hC h.1 (kt_X10_kindOf l S x0 x3 _ h.2 E _) (cw_X10_75 hts (by omega) (by omega)) rfl hl.1 (Nat.le_of_ble_eq_true rfl) ⟨Nat.zero_le _, Nat.zero_le _⟩ dX10_readWord_68 (fun r20 S20 H locs hC h => ?_)
      exact cut71 x1 x2 x3 x0 r20 S20 _ _ _ h hC (lv_sub hl [1, 2, 3] rfl)
    · have h := h.2 c19
      refine lv_iconst (v := 1) hx hb dX10_readWord_62 (by decide) ?_
      refine lv_goto (tgt := 71) hx hb dX10_readWord_63 (by decide) ?_
      exact cut71 x1 x2 x3 x0 1 S _ _ _ h hC (lv_sub hl [1, 2, 3] rfl)
  have cut4 : ∀ (n4 : Nat) (x0 : Nat) (x1 : Int32) (x2 : Int32) (x3 : Int64) (S : kS) (H : Heap) (locs : List Loc) (ls : Array Slot), it (ls_X10_readWord_4 K) n4 (x0, x1, x2, x3, S) → cM E A s.heap S H locs → lv_has ls 5 [(0, .ref x0), (1, .int x1), (2, .int x2), (3, .long x3)] → W p l e R s m args below meth c H locs 0 0 Q (F0 m 4 ls []) := by
    intro n4
    induction n4 with
    | zero => intro x0 x1 x2 x3 S H locs ls h hC hl; exact h.elim
    | succ n4 ih4 =>
      have cut36 : ∀ (x0 : Nat) (x1 : Int32) (x2 : Int32) (x3 : Int64) (S : kS) (H : Heap) (locs : List Loc) (ls : Array Slot), wp_X10_readWord_36 K (it (ls_X10_readWord_4 K) n4) x0 x1 x2 x3 S → cM E A s.heap S H locs → lv_has ls 5 [(0, .ref x0), (1, .int x1), (2, .int x2), (3, .long x3)] → W p l e R s m args below meth c H locs 0 0 Q (F0 m 36 ls []) := by
        intro x0 x1 x2 x3 S H locs ls h hC hl
        unfold wp_X10_readWord_36 at h
        refine lv_lload_n hx hb dX10_readWord_36 rfl (lv_at hl 3 rfl) ?_
        refine lv_aload_n hx hb dX10_readWord_37 rfl (lv_at hl 0 rfl) ?_
        refine cq_getr (ci := 10) (k := 5) (f := 67) hX hC rfl in_X10 (by decide) wd_104 (fun _ h9 => h9) (fun _ _ => rfl) dX10_readWord_38 h (fun z13 h => ?_)
        refine lv_iload_n hx hb dX10_readWord_41 rfl (lv_at hl 2 rfl) ?_
        obtain ⟨q14, e9, hh⟩ := h
        subst e9
        have h := hh
        clear hh
        refine cq_cld hX hC dX10_readWord_42 h (fun z15 h => ?_)
        refine kv_callsl [.long x3, .int z15] (rest := []) hX hC (kt_X10_longer l S x3 z15 _ h E _) (cw_X10_41 hts (by omega) (by omega)) rfl hl.1 (Nat.le_of_ble_eq_true rfl) ⟨Nat.zero_le _, Nat.zero_le _⟩ dX10_readWord_43 (fun r16 S16 H locs hC h => ?_)
        refine lv_lstore_n (lv' := [(3, .long r16), (0, .ref x0), (1, .int x1), (2, .int x2)]) hx hb dX10_readWord_46 rfl hl (by decide) rfl (fun ls hl => ?_)
        obtain ⟨z17, ez17⟩ : ∃ y : Int32, y = x2 + 1 := ⟨_, rfl⟩
        have h := h z17 ez17
        refine lv_iinc (v := z17) (lv' := [(2, .int z17), (3, .long r16), (0, .ref x0), (1, .int x1)]) hx hb dX10_readWord_47 hl (k := 3) rfl (by rw [ez17]; rfl) (by decide) rfl (fun ls hl => ?_)
        refine lv_goto (tgt := 4) hx hb dX10_readWord_50 (by decide) ?_
        exact ih4 x0 x1 z17 r16 S16 _ _ _ h hC (lv_sub hl [2, 3, 0, 1] rfl)
      intro x0 x1 x2 x3 S H locs ls h hC hl
      have h : wp_X10_readWord_4 K (it (ls_X10_readWord_4 K) n4) x0 x1 x2 x3 S := h
      unfold wp_X10_readWord_4 at h
      refine lv_iload_n hx hb dX10_readWord_4 rfl (lv_at hl 2 rfl) ?_
      refine lv_aload_n hx hb dX10_readWord_5 rfl (lv_at hl 0 rfl) ?_
      refine cq_geti (ci := 10) (k := 4) (f := 41) hX hC rfl in_X10 (by decide) wd_103 (fun _ h9 => h9) (fun _ _ => rfl) dX10_readWord_6 h (fun z1 h => ?_)
      refine lv_icmp_ge (tgt := 53) hx hb dX10_readWord_9 (by decide) (fun c2 => ?_) (fun c2 => ?_)
      · have h := h.1 c2
        exact cut53 x0 x1 x2 x3 S _ _ _ h hC (lv_sub hl [0, 1, 2, 3] rfl)
      · have h := h.2 c2
        refine lv_aload_n hx hb dX10_readWord_12 rfl (lv_at hl 0 rfl) ?_
        refine cq_getr (ci := 10) (k := 5) (f := 67) hX hC rfl in_X10 (by decide) wd_104 (fun _ h9 => h9) (fun _ _ => rfl) dX10_readWord_13 h (fun z3 h => ?_)
        refine lv_iload_n hx hb dX10_readWord_16 rfl (lv_at hl 2 rfl) ?_
        obtain ⟨q4, e9, hh⟩ := h
        subst e9
        have h := hh
        clear hh
        refine cq_cld hX hC dX10_readWord_17 h (fun z5 h => ?_)
        refine kv_callsi [.int z5] (rest := []) hX hC (kt_X10_isLetter l S z5 _ h E _) (cw_X10_52 hts (by omega) (by omega)) rfl hl.1 (Nat.le_of_ble_eq_true rfl) ⟨Nat.zero_le _, Nat.zero_le _⟩ dX10_readWord_18 (fun r6 S6 H locs hC h => ?_)
        refine lv_if_ne (tgt := 36) hx hb dX10_readWord_21 (by decide) (fun c7 => ?_) (fun c7 => ?_)
        · have h := h.1 c7
          exact cut36 x0 x1 x2 x3 S6 _ _ _ h hC (lv_sub hl [0, 1, 2, 3] rfl)
        · have h := h.2 c7
          refine lv_aload_n hx hb dX10_readWord_24 rfl (lv_at hl 0 rfl) ?_
          refine cq_getr (ci := 10) (k := 5) (f := 67) hX hC rfl in_X10 (by decide) wd_104 (fun _ h9 => h9) (fun _ _ => rfl) dX10_readWord_25 h (fun z8 h => ?_)
          refine lv_iload_n hx hb dX10_readWord_28 rfl (lv_at hl 2 rfl) ?_
          obtain ⟨q9, e9, hh⟩ := h
          subst e9
          have h := hh
          clear hh
          refine cq_cld hX hC dX10_readWord_29 h (fun z10 h => ?_)
          refine kv_callsi [.int z10] (rest := []) hX hC (kt_X10_isDigit l S6 z10 _ h E _) (cw_X10_60 hts (by omega) (by omega)) rfl hl.1 (Nat.le_of_ble_eq_true rfl) ⟨Nat.zero_le _, Nat.zero_le _⟩ dX10_readWord_30 (fun r11 S11 H locs hC h => ?_)
          refine lv_if_eq (tgt := 53) hx hb dX10_readWord_33 (by decide) (fun c12 => ?_) (fun c12 => ?_)
          · have h := h.1 c12
            exact cut53 x0 x1 x2 x3 S11 _ _ _ h hC (lv_sub hl [0, 1, 2, 3] rfl)
          · have h := h.2 c12
            exact cut36 x0 x1 x2 x3 S11 _ _ _ h hC (lv_sub hl [0, 1, 2, 3] rfl)
  have hl : lv_has ls 5 [(0, .ref t0), (1, .int a0)] := hl
  unfold wp_X10_readWord at h
  refine lv_iload_n hx hb dX10_readWord_0 rfl (lv_at hl 1 rfl) ?_
  refine lv_istore_n (lv' := [(2, .int a0), (0, .ref t0), (1, .int a0)]) hx hb dX10_readWord_1 rfl hl (by decide) rfl (fun ls hl => ?_)
  refine lv_lconst (v := 0) hx hb dX10_readWord_2 (by decide) ?_
  refine lv_lstore_n (lv' := [(3, .long 0), (2, .int a0), (0, .ref t0), (1, .int a0)]) hx hb dX10_readWord_3 rfl hl (by decide) rfl (fun ls hl => ?_)
  obtain ⟨n9, h⟩ := h
  exact cut4 n9 t0 a0 a0 0 S _ _ _ h hC (lv_sub hl [2, 3, 1, 0] rfl)
