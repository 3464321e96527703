theorem wd_95 : (Jvm.Cond.fieldLink "Sleepers$Parser" (84 : Nat) "Sleepers$Tokens" "kind" "[I") ∈ tb := tb_at 95 (by decide +kernel) (by decide +kernel)
theorem wd_97 : (Jvm.Cond.fieldLink "Sleepers$Parser" (93 : Nat) "Sleepers$Tokens" "place" "[I") ∈ tb := tb_at 97 (by decide +kernel) (by decide +kernel)
theorem wd_99 : (Jvm.Cond.fieldLink "Sleepers$Parser" (106 : Nat) "Sleepers$Tokens" "value" "[J") ∈ tb := tb_at 99 (by decide +kernel) (by decide +kernel)
theorem wd_101 : (Jvm.Cond.fieldLink "Sleepers$Parser" (86 : Nat) "Sleepers$Tokens" "count" "I") ∈ tb := tb_at 101 (by decide +kernel) (by decide +kernel)
theorem wd_132 : (Jvm.Cond.fieldLink "Sleepers$Parser" (29 : Nat) "Sleepers$Parser" "program" "LSleepers$Program;") ∈ tb := tb_at 132 (by decide +kernel) (by decide +kernel)
theorem wd_134 : (Jvm.Cond.fieldLink "Sleepers$Parser" (43 : Nat) "Sleepers$Parser" "at" "I") ∈ tb := tb_at 134 (by decide +kernel) (by decide +kernel)
theorem wd_135 : (Jvm.Cond.fieldLink "Sleepers$Parser" (47 : Nat) "Sleepers$Parser" "fault" "I") ∈ tb := tb_at 135 (by decide +kernel) (by decide +kernel)
theorem wd_136 : (Jvm.Cond.fieldLink "Sleepers$Parser" (50 : Nat) "Sleepers$Parser" "scope" "I") ∈ tb := tb_at 136 (by decide +kernel) (by decide +kernel)
theorem wd_395 : (Jvm.Cond.fieldLink "Sleepers$Program" (53 : Nat) "Sleepers$Program" "size" "I") ∈ tb := tb_at 395 (by decide +kernel) (by decide +kernel)
theorem wd_608 : (Jvm.Cond.methodLink "Sleepers$Parser" (62 : Nat) ({ cls := "Sleepers$Parser", name := "kind", desc := "()I" } : Jvm.MethodName)) ∈ tb := tb_at 608 (by decide +kernel) (by decide +kernel)
theorem wd_610 : (Jvm.Cond.instanceMethod ({ cls := "Sleepers$Parser", name := "kind", desc := "()I" } : Jvm.MethodName)) ∈ tb := tb_at 610 (by decide +kernel) (by decide +kernel)
theorem wd_611 : (Jvm.Cond.code ({ cls := "Sleepers$Parser", name := "kind", desc := "()I" } : Jvm.MethodName) prog_5_method_3_code (1 : Nat) (Option.some Jvm.ClassFile.FieldType.int)) ∈ tb := tb_at 611 (by decide +kernel) (by decide +kernel)
theorem wd_616 : (Jvm.Cond.methodLink "Sleepers$Parser" (78 : Nat) ({ cls := "Sleepers$Parser", name := "wrong", desc := "(I)V" } : Jvm.MethodName)) ∈ tb := tb_at 616 (by decide +kernel) (by decide +kernel)
theorem wd_618 : (Jvm.Cond.instanceMethod ({ cls := "Sleepers$Parser", name := "wrong", desc := "(I)V" } : Jvm.MethodName)) ∈ tb := tb_at 618 (by decide +kernel) (by decide +kernel)
theorem wd_619 : (Jvm.Cond.code ({ cls := "Sleepers$Parser", name := "wrong", desc := "(I)V" } : Jvm.MethodName) prog_5_method_7_code (2 : Nat) (Option.none : Option Jvm.ClassFile.FieldType)) ∈ tb := tb_at 619 (by decide +kernel) (by decide +kernel)
theorem wd_620 : (Jvm.Cond.methodLink "Sleepers$Parser" (103 : Nat) ({ cls := "Sleepers$Parser", name := "step", desc := "()V" } : Jvm.MethodName)) ∈ tb := tb_at 620 (by decide +kernel) (by decide +kernel)
theorem wd_622 : (Jvm.Cond.instanceMethod ({ cls := "Sleepers$Parser", name := "step", desc := "()V" } : Jvm.MethodName)) ∈ tb := tb_at 622 (by decide +kernel) (by decide +kernel)
theorem wd_623 : (Jvm.Cond.code ({ cls := "Sleepers$Parser", name := "step", desc := "()V" } : Jvm.MethodName) prog_5_method_4_code (1 : Nat) (Option.none : Option Jvm.ClassFile.FieldType)) ∈ tb := tb_at 623 (by decide +kernel) (by decide +kernel)
theorem wd_636 : (Jvm.Cond.methodLink "Sleepers$Parser" (89 : Nat) ({ cls := "Sleepers$Parser", name := "take", desc := "(I)Z" } : Jvm.MethodName)) ∈ tb := tb_at 636 (by decide +kernel) (by decide +kernel)
theorem wd_638 : (Jvm.Cond.instanceMethod ({ cls := "Sleepers$Parser", name := "take", desc := "(I)Z" } : Jvm.MethodName)) ∈ tb := tb_at 638 (by decide +kernel) (by decide +kernel)
theorem wd_639 : (Jvm.Cond.code ({ cls := "Sleepers$Parser", name := "take", desc := "(I)Z" } : Jvm.MethodName) prog_5_method_5_code (2 : Nat) (Option.some Jvm.ClassFile.FieldType.boolean)) ∈ tb := tb_at 639 (by decide +kernel) (by decide +kernel)
theorem wd_652 : (Jvm.Cond.methodLink "Sleepers$Parser" (127 : Nat) ({ cls := "Sleepers$Program", name := "cellOf", desc := "(J)I" } : Jvm.MethodName)) ∈ tb := tb_at 652 (by decide +kernel) (by decide +kernel)
theorem wd_653 : (Jvm.Cond.instanceMethod ({ cls := "Sleepers$Program", name := "cellOf", desc := "(J)I" } : Jvm.MethodName)) ∈ tb := tb_at 653 (by decide +kernel) (by decide +kernel)
theorem wd_654 : (Jvm.Cond.selects "Sleepers$Program" ({ cls := "Sleepers$Program", name := "cellOf", desc := "(J)I" } : Jvm.MethodName) ({ cls := "Sleepers$Program", name := "cellOf", desc := "(J)I" } : Jvm.MethodName)) ∈ tb := tb_at 654 (by decide +kernel) (by decide +kernel)
theorem wd_655 : (Jvm.Cond.code ({ cls := "Sleepers$Program", name := "cellOf", desc := "(J)I" } : Jvm.MethodName) prog_7_method_12_code (5 : Nat) (Option.some Jvm.ClassFile.FieldType.int)) ∈ tb := tb_at 655 (by decide +kernel) (by decide +kernel)
theorem wd_671 : (Jvm.Cond.methodLink "Sleepers$Parser" (96 : Nat) ({ cls := "Sleepers$Program", name := "emit", desc := "(III)I" } : Jvm.MethodName)) ∈ tb := tb_at 671 (by decide +kernel) (by decide +kernel)
theorem wd_672 : (Jvm.Cond.instanceMethod ({ cls := "Sleepers$Program", name := "emit", desc := "(III)I" } : Jvm.MethodName)) ∈ tb := tb_at 672 (by decide +kernel) (by decide +kernel)
theorem wd_673 : (Jvm.Cond.selects "Sleepers$Program" ({ cls := "Sleepers$Program", name := "emit", desc := "(III)I" } : Jvm.MethodName) ({ cls := "Sleepers$Program", name := "emit", desc := "(III)I" } : Jvm.MethodName)) ∈ tb := tb_at 673 (by decide +kernel) (by decide +kernel)
theorem wd_674 : (Jvm.Cond.code ({ cls := "Sleepers$Program", name := "emit", desc := "(III)I" } : Jvm.MethodName) prog_7_method_7_code (4 : Nat) (Option.some Jvm.ClassFile.FieldType.int)) ∈ tb := tb_at 674 (by decide +kernel) (by decide +kernel)
theorem sl_X3_kind : Cond.selects RX3 yX3_kind yX3_kind ∈ tb := sl_of (y := ⟨"Sleepers$Parser", "kind", "()I"⟩) (n := 13) (by decide +kernel) (by decide +kernel)
theorem sl_X3_step : Cond.selects RX3 yX3_step yX3_step ∈ tb := sl_of (y := ⟨"Sleepers$Parser", "step", "()V"⟩) (n := 13) (by decide +kernel) (by decide +kernel)
theorem sl_X3_take : Cond.selects RX3 yX3_take yX3_take ∈ tb := sl_of (y := ⟨"Sleepers$Parser", "take", "(I)Z"⟩) (n := 13) (by decide +kernel) (by decide +kernel)
theorem sl_X3_wrong : Cond.selects RX3 yX3_wrong yX3_wrong ∈ tb := sl_of (y := ⟨"Sleepers$Parser", "wrong", "(I)V"⟩) (n := 13) (by decide +kernel) (by decide +kernel)
theorem dX1_stand_0 : decode cX1_stand 0 = .ok (.aload_n 1, 1) := by decide +kernel
theorem dX1_stand_1 : decode cX1_stand 1 = .ok (.iconst 1, 1) := by decide +kernel
theorem dX1_stand_2 : decode cX1_stand 2 = .ok (.putfield 128, 3) := by decide +kernel
theorem dX1_stand_5 : decode cX1_stand 5 = .ok (.aload_n 0, 1) := by decide +kernel
theorem dX1_stand_6 : decode cX1_stand 6 = .ok (.aload_n 1, 1) := by decide +kernel
theorem dX1_stand_7 : decode cX1_stand 7 = .ok (.getfield 125, 3) := by decide +kernel
theorem dX1_stand_10 : decode cX1_stand 10 = .ok (.iconst (-1), 1) := by decide +kernel
theorem dX1_stand_11 : decode cX1_stand 11 = .ok (.ixor, 1) := by decide +kernel
theorem dX1_stand_12 : decode cX1_stand 12 = .ok (.invokevirtual 198, 3) := by decide +kernel
theorem dX1_stand_15 : decode cX1_stand 15 = .ok (.aload_n 0, 1) := by decide +kernel
theorem dX1_stand_16 : decode cX1_stand 16 = .ok (.aload_n 1, 1) := by decide +kernel
theorem dX1_stand_17 : decode cX1_stand 17 = .ok (.iconst 0, 1) := by decide +kernel
theorem dX1_stand_18 : decode cX1_stand 18 = .ok (.invokevirtual 204, 3) := by decide +kernel
theorem dX1_stand_21 : decode cX1_stand 21 = .ok (.aload_n 1, 1) := by decide +kernel
theorem dX1_stand_22 : decode cX1_stand 22 = .ok (.getfield 175, 3) := by decide +kernel
theorem dX1_stand_25 : decode cX1_stand 25 = .ok (.ifnull 35, 3) := by decide +kernel
theorem dX1_stand_28 : decode cX1_stand 28 = .ok (.aload_n 1, 1) := by decide +kernel
theorem dX1_stand_29 : decode cX1_stand 29 = .ok (.getfield 175, 3) := by decide +kernel
theorem dX1_stand_32 : decode cX1_stand 32 = .ok (.getfield 144, 3) := by decide +kernel
theorem dX1_stand_35 : decode cX1_stand 35 = .ok (.ifCond .eq 25, 3) := by decide +kernel
theorem dX1_stand_38 : decode cX1_stand 38 = .ok (.aload_n 1, 1) := by decide +kernel
theorem dX1_stand_39 : decode cX1_stand 39 = .ok (.aload_n 1, 1) := by decide +kernel
theorem dX1_stand_40 : decode cX1_stand 40 = .ok (.getfield 175, 3) := by decide +kernel
theorem dX1_stand_43 : decode cX1_stand 43 = .ok (.getfield 144, 3) := by decide +kernel
theorem dX1_stand_46 : decode cX1_stand 46 = .ok (.putfield 119, 3) := by decide +kernel
theorem dX1_stand_49 : decode cX1_stand 49 = .ok (.aload_n 1, 1) := by decide +kernel
theorem dX1_stand_50 : decode cX1_stand 50 = .ok (.aload_n 1, 1) := by decide +kernel
theorem dX1_stand_51 : decode cX1_stand 51 = .ok (.getfield 175, 3) := by decide +kernel
theorem dX1_stand_54 : decode cX1_stand 54 = .ok (.getfield 147, 3) := by decide +kernel
theorem dX1_stand_57 : decode cX1_stand 57 = .ok (.putfield 208, 3) := by decide +kernel
theorem dX1_stand_60 : decode cX1_stand 60 = .ok (.aload_n 0, 1) := by decide +kernel
theorem dX1_stand_61 : decode cX1_stand 61 = .ok (.invokevirtual 190, 3) := by decide +kernel
theorem dX1_stand_64 : decode cX1_stand 64 = .ok (.return_, 1) := by decide +kernel
theorem dX1_takeLetter_0 : decode cX1_takeLetter 0 = .ok (.iload_n 1, 1) := by decide +kernel
theorem dX1_takeLetter_1 : decode cX1_takeLetter 1 = .ok (.bipush 50, 2) := by decide +kernel
theorem dX1_takeLetter_3 : decode cX1_takeLetter 3 = .ok (.imul, 1) := by decide +kernel
theorem dX1_takeLetter_4 : decode cX1_takeLetter 4 = .ok (.istore_n 2, 1) := by decide +kernel
theorem dX1_takeLetter_5 : decode cX1_takeLetter 5 = .ok (.aload_n 0, 1) := by decide +kernel
theorem dX1_takeLetter_6 : decode cX1_takeLetter 6 = .ok (.getfield 21, 3) := by decide +kernel
theorem dX1_takeLetter_9 : decode cX1_takeLetter 9 = .ok (.iload_n 2, 1) := by decide +kernel
theorem dX1_takeLetter_10 : decode cX1_takeLetter 10 = .ok (.iaload, 1) := by decide +kernel
theorem dX1_takeLetter_11 : decode cX1_takeLetter 11 = .ok (.istore_n 3, 1) := by decide +kernel
theorem dX1_takeLetter_12 : decode cX1_takeLetter 12 = .ok (.aload_n 0, 1) := by decide +kernel
theorem dX1_takeLetter_13 : decode cX1_takeLetter 13 = .ok (.getfield 24, 3) := by decide +kernel
theorem dX1_takeLetter_16 : decode cX1_takeLetter 16 = .ok (.iload_n 1, 1) := by decide +kernel
theorem dX1_takeLetter_17 : decode cX1_takeLetter 17 = .ok (.dup2, 1) := by decide +kernel
theorem dX1_takeLetter_18 : decode cX1_takeLetter 18 = .ok (.iaload, 1) := by decide +kernel
theorem dX1_takeLetter_19 : decode cX1_takeLetter 19 = .ok (.iconst 1, 1) := by decide +kernel
theorem dX1_takeLetter_20 : decode cX1_takeLetter 20 = .ok (.isub, 1) := by decide +kernel
theorem dX1_takeLetter_21 : decode cX1_takeLetter 21 = .ok (.iastore, 1) := by decide +kernel
theorem dX1_takeLetter_22 : decode cX1_takeLetter 22 = .ok (.iconst 0, 1) := by decide +kernel
theorem dX1_takeLetter_23 : decode cX1_takeLetter 23 = .ok (.istore 4, 2) := by decide +kernel
theorem dX1_takeLetter_25 : decode cX1_takeLetter 25 = .ok (.iload 4, 2) := by decide +kernel
theorem dX1_takeLetter_27 : decode cX1_takeLetter 27 = .ok (.aload_n 0, 1) := by decide +kernel
theorem dX1_takeLetter_28 : decode cX1_takeLetter 28 = .ok (.getfield 24, 3) := by decide +kernel
theorem dX1_takeLetter_31 : decode cX1_takeLetter 31 = .ok (.iload_n 1, 1) := by decide +kernel
theorem dX1_takeLetter_32 : decode cX1_takeLetter 32 = .ok (.iaload, 1) := by decide +kernel
theorem dX1_takeLetter_33 : decode cX1_takeLetter 33 = .ok (.if_icmp .ge 29, 3) := by decide +kernel
theorem dX1_takeLetter_36 : decode cX1_takeLetter 36 = .ok (.aload_n 0, 1) := by decide +kernel
theorem dX1_takeLetter_37 : decode cX1_takeLetter 37 = .ok (.getfield 21, 3) := by decide +kernel
theorem dX1_takeLetter_40 : decode cX1_takeLetter 40 = .ok (.iload_n 2, 1) := by decide +kernel
theorem dX1_takeLetter_41 : decode cX1_takeLetter 41 = .ok (.iload 4, 2) := by decide +kernel
theorem dX1_takeLetter_43 : decode cX1_takeLetter 43 = .ok (.iadd, 1) := by decide +kernel
theorem dX1_takeLetter_44 : decode cX1_takeLetter 44 = .ok (.aload_n 0, 1) := by decide +kernel
theorem dX1_takeLetter_45 : decode cX1_takeLetter 45 = .ok (.getfield 21, 3) := by decide +kernel
theorem dX1_takeLetter_48 : decode cX1_takeLetter 48 = .ok (.iload_n 2, 1) := by decide +kernel
theorem dX1_takeLetter_49 : decode cX1_takeLetter 49 = .ok (.iload 4, 2) := by decide +kernel
theorem dX1_takeLetter_51 : decode cX1_takeLetter 51 = .ok (.iadd, 1) := by decide +kernel
theorem dX1_takeLetter_52 : decode cX1_takeLetter 52 = .ok (.iconst 1, 1) := by decide +kernel
theorem dX1_takeLetter_53 : decode cX1_takeLetter 53 = .ok (.iadd, 1) := by decide +kernel
theorem dX1_takeLetter_54 : decode cX1_takeLetter 54 = .ok (.iaload, 1) := by decide +kernel
theorem dX1_takeLetter_55 : decode cX1_takeLetter 55 = .ok (.iastore, 1) := by decide +kernel
theorem dX1_takeLetter_56 : decode cX1_takeLetter 56 = .ok (.iinc 4 1, 3) := by decide +kernel
theorem dX1_takeLetter_59 : decode cX1_takeLetter 59 = .ok (.goto (-34), 3) := by decide +kernel
theorem dX1_takeLetter_62 : decode cX1_takeLetter 62 = .ok (.iload_n 3, 1) := by decide +kernel
theorem dX1_takeLetter_63 : decode cX1_takeLetter 63 = .ok (.ireturn, 1) := by decide +kernel
theorem dX3_cellHere_0 : decode cX3_cellHere 0 = .ok (.aload_n 0, 1) := by decide +kernel
theorem dX3_cellHere_1 : decode cX3_cellHere 1 = .ok (.invokevirtual 62, 3) := by decide +kernel
theorem dX3_cellHere_4 : decode cX3_cellHere 4 = .ok (.iconst 3, 1) := by decide +kernel
theorem dX3_cellHere_5 : decode cX3_cellHere 5 = .ok (.if_icmp .eq 10, 3) := by decide +kernel
theorem dX3_cellHere_8 : decode cX3_cellHere 8 = .ok (.aload_n 0, 1) := by decide +kernel
theorem dX3_cellHere_9 : decode cX3_cellHere 9 = .ok (.iconst 1, 1) := by decide +kernel
theorem dX3_cellHere_10 : decode cX3_cellHere 10 = .ok (.invokevirtual 78, 3) := by decide +kernel
theorem dX3_cellHere_13 : decode cX3_cellHere 13 = .ok (.iconst 0, 1) := by decide +kernel
theorem dX3_cellHere_14 : decode cX3_cellHere 14 = .ok (.ireturn, 1) := by decide +kernel
theorem dX3_cellHere_15 : decode cX3_cellHere 15 = .ok (.aload_n 0, 1) := by decide +kernel
theorem dX3_cellHere_16 : decode cX3_cellHere 16 = .ok (.getfield 29, 3) := by decide +kernel
theorem dX3_cellHere_19 : decode cX3_cellHere 19 = .ok (.aload_n 0, 1) := by decide +kernel
theorem dX3_cellHere_20 : decode cX3_cellHere 20 = .ok (.getfield 25, 3) := by decide +kernel
theorem dX3_cellHere_23 : decode cX3_cellHere 23 = .ok (.getfield 106, 3) := by decide +kernel
theorem dX3_cellHere_26 : decode cX3_cellHere 26 = .ok (.aload_n 0, 1) := by decide +kernel
theorem dX3_cellHere_27 : decode cX3_cellHere 27 = .ok (.getfield 43, 3) := by decide +kernel
theorem dX3_cellHere_30 : decode cX3_cellHere 30 = .ok (.laload, 1) := by decide +kernel
theorem dX3_cellHere_31 : decode cX3_cellHere 31 = .ok (.invokevirtual 127, 3) := by decide +kernel
theorem dX3_cellHere_34 : decode cX3_cellHere 34 = .ok (.istore_n 1, 1) := by decide +kernel
theorem dX3_cellHere_35 : decode cX3_cellHere 35 = .ok (.iload_n 1, 1) := by decide +kernel
theorem dX3_cellHere_36 : decode cX3_cellHere 36 = .ok (.iconst (-1), 1) := by decide +kernel
theorem dX3_cellHere_37 : decode cX3_cellHere 37 = .ok (.if_icmp .ne 10, 3) := by decide +kernel
theorem dX3_cellHere_40 : decode cX3_cellHere 40 = .ok (.aload_n 0, 1) := by decide +kernel
theorem dX3_cellHere_41 : decode cX3_cellHere 41 = .ok (.iconst 5, 1) := by decide +kernel
theorem dX3_cellHere_42 : decode cX3_cellHere 42 = .ok (.invokevirtual 78, 3) := by decide +kernel
theorem dX3_cellHere_45 : decode cX3_cellHere 45 = .ok (.iconst 0, 1) := by decide +kernel
theorem dX3_cellHere_46 : decode cX3_cellHere 46 = .ok (.ireturn, 1) := by decide +kernel
theorem dX3_cellHere_47 : decode cX3_cellHere 47 = .ok (.aload_n 0, 1) := by decide +kernel
theorem dX3_cellHere_48 : decode cX3_cellHere 48 = .ok (.invokevirtual 103, 3) := by decide +kernel
theorem dX3_cellHere_51 : decode cX3_cellHere 51 = .ok (.iload_n 1, 1) := by decide +kernel
theorem dX3_cellHere_52 : decode cX3_cellHere 52 = .ok (.ireturn, 1) := by decide +kernel
theorem dX3_emit_0 : decode cX3_emit 0 = .ok (.aload_n 0, 1) := by decide +kernel
theorem dX3_emit_1 : decode cX3_emit 1 = .ok (.getfield 29, 3) := by decide +kernel
theorem dX3_emit_4 : decode cX3_emit 4 = .ok (.iload_n 1, 1) := by decide +kernel
theorem dX3_emit_5 : decode cX3_emit 5 = .ok (.iload_n 2, 1) := by decide +kernel
theorem dX3_emit_6 : decode cX3_emit 6 = .ok (.aload_n 0, 1) := by decide +kernel
theorem dX3_emit_7 : decode cX3_emit 7 = .ok (.getfield 50, 3) := by decide +kernel
theorem dX3_emit_10 : decode cX3_emit 10 = .ok (.invokevirtual 96, 3) := by decide +kernel
theorem dX3_emit_13 : decode cX3_emit 13 = .ok (.ireturn, 1) := by decide +kernel
theorem dX3_kind_0 : decode cX3_kind 0 = .ok (.aload_n 0, 1) := by decide +kernel
theorem dX3_kind_1 : decode cX3_kind 1 = .ok (.getfield 25, 3) := by decide +kernel
theorem dX3_kind_4 : decode cX3_kind 4 = .ok (.getfield 84, 3) := by decide +kernel
theorem dX3_kind_7 : decode cX3_kind 7 = .ok (.aload_n 0, 1) := by decide +kernel
theorem dX3_kind_8 : decode cX3_kind 8 = .ok (.getfield 43, 3) := by decide +kernel
theorem dX3_kind_11 : decode cX3_kind 11 = .ok (.iaload, 1) := by decide +kernel
theorem dX3_kind_12 : decode cX3_kind 12 = .ok (.ireturn, 1) := by decide +kernel
theorem dX3_need_0 : decode cX3_need 0 = .ok (.aload_n 0, 1) := by decide +kernel
theorem dX3_need_1 : decode cX3_need 1 = .ok (.iload_n 1, 1) := by decide +kernel
theorem dX3_need_2 : decode cX3_need 2 = .ok (.invokevirtual 89, 3) := by decide +kernel
theorem dX3_need_5 : decode cX3_need 5 = .ok (.ifCond .ne 8, 3) := by decide +kernel
theorem dX3_need_8 : decode cX3_need 8 = .ok (.aload_n 0, 1) := by decide +kernel
theorem dX3_need_9 : decode cX3_need 9 = .ok (.iconst 1, 1) := by decide +kernel
theorem dX3_need_10 : decode cX3_need 10 = .ok (.invokevirtual 78, 3) := by decide +kernel
theorem dX3_need_13 : decode cX3_need 13 = .ok (.return_, 1) := by decide +kernel
theorem dX3_step_0 : decode cX3_step 0 = .ok (.aload_n 0, 1) := by decide +kernel
theorem dX3_step_1 : decode cX3_step 1 = .ok (.getfield 43, 3) := by decide +kernel
theorem dX3_step_4 : decode cX3_step 4 = .ok (.iconst 1, 1) := by decide +kernel
theorem dX3_step_5 : decode cX3_step 5 = .ok (.iadd, 1) := by decide +kernel
theorem dX3_step_6 : decode cX3_step 6 = .ok (.aload_n 0, 1) := by decide +kernel
theorem dX3_step_7 : decode cX3_step 7 = .ok (.getfield 25, 3) := by decide +kernel
theorem dX3_step_10 : decode cX3_step 10 = .ok (.getfield 86, 3) := by decide +kernel
theorem dX3_step_13 : decode cX3_step 13 = .ok (.if_icmp .ge 13, 3) := by decide +kernel
theorem dX3_step_16 : decode cX3_step 16 = .ok (.aload_n 0, 1) := by decide +kernel
theorem dX3_step_17 : decode cX3_step 17 = .ok (.dup, 1) := by decide +kernel
theorem dX3_step_18 : decode cX3_step 18 = .ok (.getfield 43, 3) := by decide +kernel
theorem dX3_step_21 : decode cX3_step 21 = .ok (.iconst 1, 1) := by decide +kernel
theorem dX3_step_22 : decode cX3_step 22 = .ok (.iadd, 1) := by decide +kernel
theorem dX3_step_23 : decode cX3_step 23 = .ok (.putfield 43, 3) := by decide +kernel
theorem dX3_step_26 : decode cX3_step 26 = .ok (.return_, 1) := by decide +kernel
theorem dX3_take_0 : decode cX3_take 0 = .ok (.aload_n 0, 1) := by decide +kernel
theorem dX3_take_1 : decode cX3_take 1 = .ok (.getfield 25, 3) := by decide +kernel
theorem dX3_take_4 : decode cX3_take 4 = .ok (.getfield 84, 3) := by decide +kernel
theorem dX3_take_7 : decode cX3_take 7 = .ok (.aload_n 0, 1) := by decide +kernel
theorem dX3_take_8 : decode cX3_take 8 = .ok (.getfield 43, 3) := by decide +kernel
theorem dX3_take_11 : decode cX3_take 11 = .ok (.iaload, 1) := by decide +kernel
theorem dX3_take_12 : decode cX3_take 12 = .ok (.iload_n 1, 1) := by decide +kernel
theorem dX3_take_13 : decode cX3_take 13 = .ok (.if_icmp .ne 19, 3) := by decide +kernel
theorem dX3_take_16 : decode cX3_take 16 = .ok (.aload_n 0, 1) := by decide +kernel
theorem dX3_take_17 : decode cX3_take 17 = .ok (.getfield 43, 3) := by decide +kernel
theorem dX3_take_20 : decode cX3_take 20 = .ok (.iconst 1, 1) := by decide +kernel
theorem dX3_take_21 : decode cX3_take 21 = .ok (.iadd, 1) := by decide +kernel
theorem dX3_take_22 : decode cX3_take 22 = .ok (.aload_n 0, 1) := by decide +kernel
theorem dX3_take_23 : decode cX3_take 23 = .ok (.getfield 25, 3) := by decide +kernel
theorem dX3_take_26 : decode cX3_take 26 = .ok (.getfield 86, 3) := by decide +kernel
theorem dX3_take_29 : decode cX3_take 29 = .ok (.if_icmp .lt 5, 3) := by decide +kernel
theorem dX3_take_32 : decode cX3_take 32 = .ok (.iconst 0, 1) := by decide +kernel
theorem dX3_take_33 : decode cX3_take 33 = .ok (.ireturn, 1) := by decide +kernel
theorem dX3_take_34 : decode cX3_take 34 = .ok (.aload_n 0, 1) := by decide +kernel
theorem dX3_take_35 : decode cX3_take 35 = .ok (.dup, 1) := by decide +kernel
theorem dX3_take_36 : decode cX3_take 36 = .ok (.getfield 43, 3) := by decide +kernel
theorem dX3_take_39 : decode cX3_take 39 = .ok (.iconst 1, 1) := by decide +kernel
theorem dX3_take_40 : decode cX3_take 40 = .ok (.iadd, 1) := by decide +kernel
theorem dX3_take_41 : decode cX3_take 41 = .ok (.putfield 43, 3) := by decide +kernel
theorem dX3_take_44 : decode cX3_take 44 = .ok (.iconst 1, 1) := by decide +kernel
theorem dX3_take_45 : decode cX3_take 45 = .ok (.ireturn, 1) := by decide +kernel
theorem dX3_wrong_0 : decode cX3_wrong 0 = .ok (.aload_n 0, 1) := by decide +kernel
theorem dX3_wrong_1 : decode cX3_wrong 1 = .ok (.getfield 47, 3) := by decide +kernel
theorem dX3_wrong_4 : decode cX3_wrong 4 = .ok (.ifCond .ne 31, 3) := by decide +kernel
theorem dX3_wrong_7 : decode cX3_wrong 7 = .ok (.aload_n 0, 1) := by decide +kernel
theorem dX3_wrong_8 : decode cX3_wrong 8 = .ok (.iload_n 1, 1) := by decide +kernel
theorem dX3_wrong_9 : decode cX3_wrong 9 = .ok (.bipush 16, 2) := by decide +kernel
theorem dX3_wrong_11 : decode cX3_wrong 11 = .ok (.aload_n 0, 1) := by decide +kernel
theorem dX3_wrong_12 : decode cX3_wrong 12 = .ok (.getfield 25, 3) := by decide +kernel
theorem dX3_wrong_15 : decode cX3_wrong 15 = .ok (.getfield 93, 3) := by decide +kernel
theorem dX3_wrong_18 : decode cX3_wrong 18 = .ok (.aload_n 0, 1) := by decide +kernel
theorem dX3_wrong_19 : decode cX3_wrong 19 = .ok (.getfield 43, 3) := by decide +kernel
theorem dX3_wrong_22 : decode cX3_wrong 22 = .ok (.iaload, 1) := by decide +kernel
theorem dX3_wrong_23 : decode cX3_wrong 23 = .ok (.imul, 1) := by decide +kernel
theorem dX3_wrong_24 : decode cX3_wrong 24 = .ok (.iadd, 1) := by decide +kernel
theorem dX3_wrong_25 : decode cX3_wrong 25 = .ok (.putfield 47, 3) := by decide +kernel
theorem dX3_wrong_28 : decode cX3_wrong 28 = .ok (.aload_n 0, 1) := by decide +kernel
theorem dX3_wrong_29 : decode cX3_wrong 29 = .ok (.sipush 4001, 3) := by decide +kernel
theorem dX3_wrong_32 : decode cX3_wrong 32 = .ok (.putfield 43, 3) := by decide +kernel
theorem dX3_wrong_35 : decode cX3_wrong 35 = .ok (.return_, 1) := by decide +kernel
theorem dX5_cellOf_0 : decode cX5_cellOf 0 = .ok (.aload_n 0, 1) := by decide +kernel
theorem dX5_cellOf_1 : decode cX5_cellOf 1 = .ok (.getfield 57, 3) := by decide +kernel
theorem dX5_cellOf_4 : decode cX5_cellOf 4 = .ok (.iconst 1, 1) := by decide +kernel
theorem dX5_cellOf_5 : decode cX5_cellOf 5 = .ok (.isub, 1) := by decide +kernel
theorem dX5_cellOf_6 : decode cX5_cellOf 6 = .ok (.istore_n 3, 1) := by decide +kernel
theorem dX5_cellOf_7 : decode cX5_cellOf 7 = .ok (.iload_n 3, 1) := by decide +kernel
theorem dX5_cellOf_8 : decode cX5_cellOf 8 = .ok (.ifCond .ge 5, 3) := by decide +kernel
theorem dX5_cellOf_11 : decode cX5_cellOf 11 = .ok (.iconst (-1), 1) := by decide +kernel
theorem dX5_cellOf_12 : decode cX5_cellOf 12 = .ok (.ireturn, 1) := by decide +kernel
theorem dX5_cellOf_13 : decode cX5_cellOf 13 = .ok (.iconst 0, 1) := by decide +kernel
theorem dX5_cellOf_14 : decode cX5_cellOf 14 = .ok (.istore 4, 2) := by decide +kernel
theorem dX5_cellOf_16 : decode cX5_cellOf 16 = .ok (.iload 4, 2) := by decide +kernel
theorem dX5_cellOf_18 : decode cX5_cellOf 18 = .ok (.aload_n 0, 1) := by decide +kernel
theorem dX5_cellOf_19 : decode cX5_cellOf 19 = .ok (.getfield 37, 3) := by decide +kernel
theorem dX5_cellOf_22 : decode cX5_cellOf 22 = .ok (.iload_n 3, 1) := by decide +kernel
theorem dX5_cellOf_23 : decode cX5_cellOf 23 = .ok (.iaload, 1) := by decide +kernel
theorem dX5_cellOf_24 : decode cX5_cellOf 24 = .ok (.if_icmp .ge 29, 3) := by decide +kernel
theorem dX5_cellOf_27 : decode cX5_cellOf 27 = .ok (.aload_n 0, 1) := by decide +kernel
theorem dX5_cellOf_28 : decode cX5_cellOf 28 = .ok (.getfield 50, 3) := by decide +kernel
theorem dX5_cellOf_31 : decode cX5_cellOf 31 = .ok (.iload_n 3, 1) := by decide +kernel
theorem dX5_cellOf_32 : decode cX5_cellOf 32 = .ok (.bipush 12, 2) := by decide +kernel
theorem dX5_cellOf_34 : decode cX5_cellOf 34 = .ok (.imul, 1) := by decide +kernel
theorem dX5_cellOf_35 : decode cX5_cellOf 35 = .ok (.iload 4, 2) := by decide +kernel
theorem dX5_cellOf_37 : decode cX5_cellOf 37 = .ok (.iadd, 1) := by decide +kernel
theorem dX5_cellOf_38 : decode cX5_cellOf 38 = .ok (.laload, 1) := by decide +kernel
theorem dX5_cellOf_39 : decode cX5_cellOf 39 = .ok (.lload_n 1, 1) := by decide +kernel
theorem dX5_cellOf_40 : decode cX5_cellOf 40 = .ok (.lcmp, 1) := by decide +kernel
theorem dX5_cellOf_41 : decode cX5_cellOf 41 = .ok (.ifCond .ne 6, 3) := by decide +kernel
theorem dX5_cellOf_44 : decode cX5_cellOf 44 = .ok (.iload 4, 2) := by decide +kernel
theorem dX5_cellOf_46 : decode cX5_cellOf 46 = .ok (.ireturn, 1) := by decide +kernel
theorem dX5_cellOf_47 : decode cX5_cellOf 47 = .ok (.iinc 4 1, 3) := by decide +kernel
theorem dX5_cellOf_50 : decode cX5_cellOf 50 = .ok (.goto (-34), 3) := by decide +kernel
theorem dX5_cellOf_53 : decode cX5_cellOf 53 = .ok (.aload_n 0, 1) := by decide +kernel
theorem dX5_cellOf_54 : decode cX5_cellOf 54 = .ok (.getfield 37, 3) := by decide +kernel
theorem dX5_cellOf_57 : decode cX5_cellOf 57 = .ok (.iload_n 3, 1) := by decide +kernel
theorem dX5_cellOf_58 : decode cX5_cellOf 58 = .ok (.iaload, 1) := by decide +kernel
theorem dX5_cellOf_59 : decode cX5_cellOf 59 = .ok (.bipush 12, 2) := by decide +kernel
theorem dX5_cellOf_61 : decode cX5_cellOf 61 = .ok (.if_icmp .lt 5, 3) := by decide +kernel
theorem dX5_cellOf_64 : decode cX5_cellOf 64 = .ok (.iconst (-1), 1) := by decide +kernel
theorem dX5_cellOf_65 : decode cX5_cellOf 65 = .ok (.ireturn, 1) := by decide +kernel
theorem dX5_cellOf_66 : decode cX5_cellOf 66 = .ok (.aload_n 0, 1) := by decide +kernel
theorem dX5_cellOf_67 : decode cX5_cellOf 67 = .ok (.getfield 50, 3) := by decide +kernel
theorem dX5_cellOf_70 : decode cX5_cellOf 70 = .ok (.iload_n 3, 1) := by decide +kernel
theorem dX5_cellOf_71 : decode cX5_cellOf 71 = .ok (.bipush 12, 2) := by decide +kernel
theorem dX5_cellOf_73 : decode cX5_cellOf 73 = .ok (.imul, 1) := by decide +kernel
theorem dX5_cellOf_74 : decode cX5_cellOf 74 = .ok (.aload_n 0, 1) := by decide +kernel
theorem dX5_cellOf_75 : decode cX5_cellOf 75 = .ok (.getfield 37, 3) := by decide +kernel
theorem dX5_cellOf_78 : decode cX5_cellOf 78 = .ok (.iload_n 3, 1) := by decide +kernel
theorem dX5_cellOf_79 : decode cX5_cellOf 79 = .ok (.iaload, 1) := by decide +kernel
theorem dX5_cellOf_80 : decode cX5_cellOf 80 = .ok (.iadd, 1) := by decide +kernel
theorem dX5_cellOf_81 : decode cX5_cellOf 81 = .ok (.lload_n 1, 1) := by decide +kernel
theorem dX5_cellOf_82 : decode cX5_cellOf 82 = .ok (.lastore, 1) := by decide +kernel
theorem dX5_cellOf_83 : decode cX5_cellOf 83 = .ok (.aload_n 0, 1) := by decide +kernel
theorem dX5_cellOf_84 : decode cX5_cellOf 84 = .ok (.getfield 37, 3) := by decide +kernel
theorem dX5_cellOf_87 : decode cX5_cellOf 87 = .ok (.iload_n 3, 1) := by decide +kernel
theorem dX5_cellOf_88 : decode cX5_cellOf 88 = .ok (.dup2, 1) := by decide +kernel
theorem dX5_cellOf_89 : decode cX5_cellOf 89 = .ok (.iaload, 1) := by decide +kernel
theorem dX5_cellOf_90 : decode cX5_cellOf 90 = .ok (.iconst 1, 1) := by decide +kernel
theorem dX5_cellOf_91 : decode cX5_cellOf 91 = .ok (.iadd, 1) := by decide +kernel
theorem dX5_cellOf_92 : decode cX5_cellOf 92 = .ok (.iastore, 1) := by decide +kernel
theorem dX5_cellOf_93 : decode cX5_cellOf 93 = .ok (.aload_n 0, 1) := by decide +kernel
theorem dX5_cellOf_94 : decode cX5_cellOf 94 = .ok (.getfield 37, 3) := by decide +kernel
theorem dX5_cellOf_97 : decode cX5_cellOf 97 = .ok (.iload_n 3, 1) := by decide +kernel
theorem dX5_cellOf_98 : decode cX5_cellOf 98 = .ok (.iaload, 1) := by decide +kernel
theorem dX5_cellOf_99 : decode cX5_cellOf 99 = .ok (.iconst 1, 1) := by decide +kernel
theorem dX5_cellOf_100 : decode cX5_cellOf 100 = .ok (.isub, 1) := by decide +kernel
theorem dX5_cellOf_101 : decode cX5_cellOf 101 = .ok (.ireturn, 1) := by decide +kernel
theorem dX5_emit_0 : decode cX5_emit 0 = .ok (.aload_n 0, 1) := by decide +kernel
theorem dX5_emit_1 : decode cX5_emit 1 = .ok (.getfield 53, 3) := by decide +kernel
theorem dX5_emit_4 : decode cX5_emit 4 = .ok (.sipush 8064, 3) := by decide +kernel
theorem dX5_emit_7 : decode cX5_emit 7 = .ok (.if_icmp .lt 7, 3) := by decide +kernel
theorem dX5_emit_10 : decode cX5_emit 10 = .ok (.sipush 8063, 3) := by decide +kernel
theorem dX5_emit_13 : decode cX5_emit 13 = .ok (.ireturn, 1) := by decide +kernel
theorem dX5_emit_14 : decode cX5_emit 14 = .ok (.aload_n 0, 1) := by decide +kernel
theorem dX5_emit_15 : decode cX5_emit 15 = .ok (.getfield 11, 3) := by decide +kernel
theorem dX5_emit_18 : decode cX5_emit 18 = .ok (.aload_n 0, 1) := by decide +kernel
theorem dX5_emit_19 : decode cX5_emit 19 = .ok (.getfield 53, 3) := by decide +kernel
theorem dX5_emit_22 : decode cX5_emit 22 = .ok (.iload_n 1, 1) := by decide +kernel
theorem dX5_emit_23 : decode cX5_emit 23 = .ok (.iastore, 1) := by decide +kernel
theorem dX5_emit_24 : decode cX5_emit 24 = .ok (.aload_n 0, 1) := by decide +kernel
theorem dX5_emit_25 : decode cX5_emit 25 = .ok (.getfield 15, 3) := by decide +kernel
theorem dX5_emit_28 : decode cX5_emit 28 = .ok (.aload_n 0, 1) := by decide +kernel
theorem dX5_emit_29 : decode cX5_emit 29 = .ok (.getfield 53, 3) := by decide +kernel
theorem dX5_emit_32 : decode cX5_emit 32 = .ok (.iload_n 2, 1) := by decide +kernel
theorem dX5_emit_33 : decode cX5_emit 33 = .ok (.iastore, 1) := by decide +kernel
theorem dX5_emit_34 : decode cX5_emit 34 = .ok (.aload_n 0, 1) := by decide +kernel
theorem dX5_emit_35 : decode cX5_emit 35 = .ok (.getfield 18, 3) := by decide +kernel
theorem dX5_emit_38 : decode cX5_emit 38 = .ok (.aload_n 0, 1) := by decide +kernel
theorem dX5_emit_39 : decode cX5_emit 39 = .ok (.getfield 53, 3) := by decide +kernel
theorem dX5_emit_42 : decode cX5_emit 42 = .ok (.iload_n 3, 1) := by decide +kernel
theorem dX5_emit_43 : decode cX5_emit 43 = .ok (.iastore, 1) := by decide +kernel
theorem dX5_emit_44 : decode cX5_emit 44 = .ok (.aload_n 0, 1) := by decide +kernel
theorem dX5_emit_45 : decode cX5_emit 45 = .ok (.dup, 1) := by decide +kernel
theorem dX5_emit_46 : decode cX5_emit 46 = .ok (.getfield 53, 3) := by decide +kernel
theorem dX5_emit_49 : decode cX5_emit 49 = .ok (.iconst 1, 1) := by decide +kernel
theorem dX5_emit_50 : decode cX5_emit 50 = .ok (.iadd, 1) := by decide +kernel
theorem dX5_emit_51 : decode cX5_emit 51 = .ok (.putfield 53, 3) := by decide +kernel
theorem dX5_emit_54 : decode cX5_emit 54 = .ok (.aload_n 0, 1) := by decide +kernel
theorem dX5_emit_55 : decode cX5_emit 55 = .ok (.getfield 53, 3) := by decide +kernel
theorem dX5_emit_58 : decode cX5_emit 58 = .ok (.iconst 1, 1) := by decide +kernel
theorem dX5_emit_59 : decode cX5_emit 59 = .ok (.isub, 1) := by decide +kernel
theorem dX5_emit_60 : decode cX5_emit 60 = .ok (.ireturn, 1) := by decide +kernel
def wp_X1_stand_60 (K : kS → Prop) (x0 : Nat) (S : kS) : Prop := hasO S x0 1 ∧ wp_X1_work x0 S (fun (S20 : kS) => K S20)
def wp_X1_stand (t0 : Nat) (a0 : Nat) (S : kS) (K : kS → Prop) : Prop := hasO S a0 9 ∧ ∀ S1 : kS, S1 = cI S 30 a0 1 → hasO S1 a0 9 ∧ ∀ z2 : Int32, z2 = S1.1 28 a0 → ∀ z3 : Int32, z3 = z2 ^^^ (-1) → hasO S1 t0 1 ∧ wp_X1_plan t0 z3 S1 (fun (S4 : kS) => hasO S4 t0 1 ∧ wp_X1_letGo t0 a0 0 S4 (fun (S5 : kS) => hasO S5 a0 9 ∧ ∀ z6 : Option Nat, z6 = S5.2.1 62 a0 → ((z6 = none → wp_X1_stand_60 K t0 S5) ∧ (∀ q7 : Nat, z6 = some q7 → hasO S5 a0 9 ∧ ∀ z8 : Option Nat, z8 = S5.2.1 62 a0 → ∃ q9 : Nat, z8 = some q9 ∧ hasO S5 q9 4 ∧ ∀ z10 : Int32, z10 = S5.1 13 q9 → ((z10 = 0 → wp_X1_stand_60 K t0 S5) ∧ (¬ z10 = 0 → hasO S5 a0 9 ∧ ∀ z12 : Option Nat, z12 = S5.2.1 62 a0 → ∃ q13 : Nat, z12 = some q13 ∧ hasO S5 q13 4 ∧ ∀ z14 : Int32, z14 = S5.1 13 q13 → hasO S5 a0 9 ∧ ∀ S15 : kS, S15 = cI S5 38 a0 z14 → hasO S15 a0 9 ∧ ∀ z16 : Option Nat, z16 = S15.2.1 62 a0 → ∃ q17 : Nat, z16 = some q17 ∧ hasO S15 q17 4 ∧ ∀ z18 : Int32, z18 = S15.1 14 q17 → hasO S15 a0 9 ∧ ∀ S19 : kS, S19 = cI S15 39 a0 z18 → wp_X1_stand_60 K t0 S19))))))
set_option maxHeartbeats 4000000 in
set_option maxRecDepth 100000 in
theorem kt_X1_stand (l : Launch) (S : kS) (t0 : Nat) (a0 : Nat) (K : kS → Prop) (h : wp_X1_stand t0 a0 S K) : kMv l yX1_stand cX1_stand 2 none 5 110 [.ref t0, .ref a0] S K := by
  refine kv_ofv (own := RX1) (by decide) rfl (Nat.le_of_ble_eq_true rfl) ?_
  intro E p e R s m args below meth c A ls Q hRf hRl hX hC hl hret
  have hx := hX.1.1
  have hb := hX.1.2.1
  have hown := hX.1.2.2.2.1
  have hts := hX.1.2.2.2.2
  have cut60 : ∀ (x0 : Nat) (S : kS) (H : Heap) (locs : List Loc) (ls : Array Slot), wp_X1_stand_60 K x0 S → cM E A s.heap S H locs → lv_has ls 2 [(0, .ref x0)] → W p l e R s m args below meth c H locs 0 0 Q (F0 m 60 ls []) := by
    intro x0 S H locs ls h hC hl
    unfold wp_X1_stand_60 at h
    refine lv_aload_n hx hb dX1_stand_60 rfl (lv_at hl 0 rfl) ?_
    refine kv_callv [] (rest := []) (ci := 1) rfl hX hC h.1 (kt_X1_work l S x0 _ h.2 E _) (cw_X1_190 hts (by omega) (by omega)) rfl hl.1 (Nat.le_of_ble_eq_true rfl) ⟨Nat.zero_le _, Nat.zero_le _⟩ dX1_stand_61 (fun S20 H locs hC h => ?_)
    exact hret _ _ _ _ _ hC h dX1_stand_64
  have hl : lv_has ls 2 [(0, .ref t0), (1, .ref a0)] := hl
  unfold wp_X1_stand at h
  refine lv_aload_n hx hb dX1_stand_0 rfl (lv_at hl 1 rfl) ?_
  refine lv_iconst (v := 1) hx hb dX1_stand_1 (by decide) ?_
  refine cq_puti (v := 1) (ci := 9) (k := 4) (f := 30) hX hC rfl in_X9 (by decide) wd_875 (fun _ h9 => h9) tyX9 tyX9_ok nmX9 rfl rfl rfl (fun _ _ => Nat.le_of_ble_eq_true rfl) (fun _ _ _ => rfl) dX1_stand_2 h.1 h.2 (fun S1 H locs hC h => ?_)
  refine lv_aload_n hx hb dX1_stand_5 rfl (lv_at hl 0 rfl) ?_
  refine lv_aload_n hx hb dX1_stand_6 rfl (lv_at hl 1 rfl) ?_
  refine cq_geti (ci := 9) (k := 0) (f := 28) hX hC rfl in_X9 (by decide) wd_864 (fun _ h9 => h9) (fun _ _ => rfl) dX1_stand_7 h (fun z2 h => ?_)
  refine lv_iconst (v := -1) hx hb dX1_stand_10 (by decide) ?_
  refine lq_ixor hx hb dX1_stand_11 h (fun z3 h => ?_)
  refine kv_callv [.int z3] (rest := []) (ci := 1) rfl hX hC h.1 (kt_X1_plan l S1 t0 z3 _ h.2 E _) (cw_X1_198 hts (by omega) (by omega)) rfl hl.1 (Nat.le_of_ble_eq_true rfl) ⟨Nat.zero_le _, Nat.zero_le _⟩ dX1_stand_12 (fun S4 H locs hC h => ?_)
  refine lv_aload_n hx hb dX1_stand_15 rfl (lv_at hl 0 rfl) ?_
  refine lv_aload_n hx hb dX1_stand_16 rfl (lv_at hl 1 rfl) ?_
  refine lv_iconst (v := 0) hx hb dX1_stand_17 (by decide) ?_
  refine kv_callv [.ref a0, .int 0] (rest := []) (ci := 1) rfl hX hC h.1 (kt_X1_letGo l S4 t0 a0 0 _ h.2 E _) (cw_X1_204 hts (by omega) (by omega)) rfl hl.1 (Nat.le_of_ble_eq_true rfl) ⟨Nat.zero_le _, Nat.zero_le _⟩ dX1_stand_18 (fun S5 H locs hC h => ?_)
  refine lv_aload_n hx hb dX1_stand_21 rfl (lv_at hl 1 rfl) ?_
  refine cq_getr (ci := 9) (k := 15) (f := 62) hX hC rfl in_X9 (by decide) wd_899 (fun _ h9 => h9) (fun _ _ => rfl) dX1_stand_22 h (fun z6 h => ?_)
  rcases z6 with _ | q7
  · have h := h.1 rfl
    refine lv_ifnullN (tgt := 60) hx hb dX1_stand_25 (by decide) ?_
    exact cut60 t0 S5 _ _ _ h hC (lv_sub hl [0] rfl)
  · have h := h.2 q7 rfl
    refine lv_ifnull hx hb dX1_stand_25 ?_
    refine lv_aload_n hx hb dX1_stand_28 rfl (lv_at hl 1 rfl) ?_
    refine cq_getr (ci := 9) (k := 15) (f := 62) hX hC rfl in_X9 (by decide) wd_899 (fun _ h9 => h9) (fun _ _ => rfl) dX1_stand_29 h (fun z8 h => ?_)
    obtain ⟨q9, e9, hh⟩ := h
    subst e9
    have h := hh
    clear hh
    refine cq_geti (ci := 4) (k := 2) (f := 13) hX hC rfl in_X4 (by decide) wd_1062 (fun _ h9 => h9) (fun _ _ => rfl) dX1_stand_32 h (fun z10 h => ?_)
    refine lv_if_eq (tgt := 60) hx hb dX1_stand_35 (by decide) (fun c11 => ?_) (fun c11 => ?_)
    · have h := h.1 c11
      exact cut60 t0 S5 _ _ _ h hC (lv_sub hl [0] rfl)
    · have h := h.2 c11
      refine lv_aload_n hx hb dX1_stand_38 rfl (lv_at hl 1 rfl) ?_
      refine lv_aload_n hx hb dX1_stand_39 rfl (lv_at hl 1 rfl) ?_
      refine cq_getr (ci := 9) (k := 15) (f := 62) hX hC rfl in_X9 (by decide) wd_899 (fun _ h9 => h9) (fun _ _ => rfl) dX1_stand_40 h (fun z12 h => ?_)
      obtain ⟨q13, e9, hh⟩ := h
      subst e9
      have h := hh
      clear hh
      refine cq_geti (ci := 4) (k := 2) (f := 13) hX hC rfl in_X4 (by decide) wd_1062 (fun _ h9 => h9) (fun _ _ => rfl) dX1_stand_43 h (fun z14 h => ?_)
      refine cq_puti (v := z14) (ci := 9) (k := 18) (f := 38) hX hC rfl in_X9 (by decide) wd_905 (fun _ h9 => h9) tyX9 tyX9_ok nmX9 rfl rfl rfl (fun _ _ => Nat.le_of_ble_eq_true rfl) (fun _ _ _ => rfl) dX1_stand_46 h.1 h.2 (fun S15 H locs hC h => ?_)
      refine lv_aload_n hx hb dX1_stand_49 rfl (lv_at hl 1 rfl) ?_
      refine lv_aload_n hx hb dX1_stand_50 rfl (lv_at hl 1 rfl) ?_
      refine cq_getr (ci := 9) (k := 15) (f := 62) hX hC rfl in_X9 (by decide) wd_899 (fun _ h9 => h9) (fun _ _ => rfl) dX1_stand_51 h (fun z16 h => ?_)
      obtain ⟨q17, e9, hh⟩ := h
      subst e9
      have h := hh
      clear hh
      refine cq_geti (ci := 4) (k := 3) (f := 14) hX hC rfl in_X4 (by decide) wd_1065 (fun _ h9 => h9) (fun _ _ => rfl) dX1_stand_54 h (fun z18 h => ?_)
      refine cq_puti (v := z18) (ci := 9) (k := 19) (f := 39) hX hC rfl in_X9 (by decide) wd_907 (fun _ h9 => h9) tyX9 tyX9_ok nmX9 rfl rfl rfl (fun _ _ => Nat.le_of_ble_eq_true rfl) (fun _ _ _ => rfl) dX1_stand_57 h.1 h.2 (fun S19 H locs hC h => ?_)
      exact cut60 t0 S19 _ _ _ h hC (lv_sub hl [0] rfl)
def wp_X1_takeLetter_25 (K : kS → Int32 → Prop) (k25 : Nat × Int32 × Int32 × Int32 × Int32 × kS → Prop) (x0 : Nat) (x1 : Int32) (x2 : Int32) (x3 : Int32) (x4 : Int32) (S : kS) : Prop := hasO S x0 1 ∧ ∀ z10 : Option Nat, z10 = S.2.1 6 x0 → ∃ q11 : Nat, z10 = some q11 ∧ hasA S q11 8 0 ∧ inR x1 8 ∧ ∀ z12 : Int32, z12 = S.2.2.1 q11 (ix x1) → ((z12 ≤ x4 → K S x3) ∧ (¬ z12 ≤ x4 → hasO S x0 1 ∧ ∀ z14 : Option Nat, z14 = S.2.1 5 x0 → ∀ z15 : Int32, z15 = x2 + x4 → hasO S x0 1 ∧ ∀ z16 : Option Nat, z16 = S.2.1 5 x0 → ∀ z17 : Int32, z17 = x2 + x4 → ∀ z18 : Int32, z18 = z17 + 1 → ∃ q19 : Nat, z16 = some q19 ∧ hasA S q19 400 0 ∧ inR z18 400 ∧ ∀ z20 : Int32, z20 = S.2.2.1 q19 (ix z18) → ∃ q21 : Nat, z14 = some q21 ∧ hasA S q21 400 0 ∧ inR z15 400 ∧ ∀ S22 : kS, S22 = cA S q21 (ix z15) z20 → ∀ z23 : Int32, z23 = x4 + 1 → k25 (x0, x1, x2, x3, z23, S22)))
def ls_X1_takeLetter_25 (K : kS → Int32 → Prop) (k25 : Nat × Int32 × Int32 × Int32 × Int32 × kS → Prop) (u : Nat × Int32 × Int32 × Int32 × Int32 × kS) : Prop := wp_X1_takeLetter_25 K k25 u.1 u.2.1 u.2.2.1 u.2.2.2.1 u.2.2.2.2.1 u.2.2.2.2.2
def wp_X1_takeLetter (t0 : Nat) (a0 : Int32) (S : kS) (K : kS → Int32 → Prop) : Prop := ∀ z1 : Int32, z1 = a0 * 50 → hasO S t0 1 ∧ ∀ z2 : Option Nat, z2 = S.2.1 5 t0 → ∃ q3 : Nat, z2 = some q3 ∧ hasA S q3 400 0 ∧ inR z1 400 ∧ ∀ z4 : Int32, z4 = S.2.2.1 q3 (ix z1) → hasO S t0 1 ∧ ∀ z5 : Option Nat, z5 = S.2.1 6 t0 → ∃ q6 : Nat, z5 = some q6 ∧ hasA S q6 8 0 ∧ inR a0 8 ∧ ∀ z7 : Int32, z7 = S.2.2.1 q6 (ix a0) → ∀ z8 : Int32, z8 = z7 - 1 → hasA S q6 8 0 ∧ inR a0 8 ∧ ∀ S9 : kS, S9 = cA S q6 (ix a0) z8 → (∃ n9, it (ls_X1_takeLetter_25 K) n9 (t0, a0, z1, z4, 0, S9))
set_option maxHeartbeats 4000000 in
set_option maxRecDepth 100000 in
theorem kt_X1_takeLetter (l : Launch) (S : kS) (t0 : Nat) (a0 : Int32) (K : kS → Int32 → Prop) (h : wp_X1_takeLetter t0 a0 S K) : kMi l yX1_takeLetter cX1_takeLetter 5 (some .int) 0 0 [.ref t0, .int a0] S K := by
  refine kv_ofi (own := RX1) (by decide) rfl (Nat.le_of_ble_eq_true rfl) ?_
  intro E p e R s m args below meth c A ls Q hRf hRl hX hC hl hret
  have hx := hX.1.1
  have hb := hX.1.2.1
  have hown := hX.1.2.2.2.1
  have hts := hX.1.2.2.2.2
  have cut25 : ∀ (n25 : Nat) (x0 : Nat) (x1 : Int32) (x2 : Int32) (x3 : Int32) (x4 : Int32) (S : kS) (H : Heap) (locs : List Loc) (ls : Array Slot), it (ls_X1_takeLetter_25 K) n25 (x0, x1, x2, x3, x4, S) → cM E A s.heap S H locs → lv_has ls 5 [(0, .ref x0), (1, .int x1), (2, .int x2), (3, .int x3), (4, .int x4)] → W p l e R s m args below meth c H locs 0 0 Q (F0 m 25 ls []) := by
    intro n25
    induction n25 with
    | zero => intro x0 x1 x2 x3 x4 S H locs ls h hC hl; exact h.elim
    | succ n25 ih25 =>
      intro x0 x1 x2 x3 x4 S H locs ls h hC hl
      have h : wp_X1_takeLetter_25 K (it (ls_X1_takeLetter_25 K) n25) x0 x1 x2 x3 x4 S := h
      unfold wp_X1_takeLetter_25 at h
      refine lv_iload hx hb dX1_takeLetter_25 (lv_at hl 4 rfl) ?_
      refine lv_aload_n hx hb dX1_takeLetter_27 rfl (lv_at hl 0 rfl) ?_
      refine cq_getr (ci := 1) (k := 8) (f := 6) hX hC rfl in_X1 (by decide) wd_250 (fun _ h9 => h9) (fun _ _ => rfl) dX1_takeLetter_28 h (fun z10 h => ?_)
      refine lv_iload_n hx hb dX1_takeLetter_31 rfl (lv_at hl 1 rfl) ?_
      obtain ⟨q11, e9, hh⟩ := h
      subst e9
      have h := hh
      clear hh
      refine cq_ild hX hC dX1_takeLetter_32 h (fun z12 h => ?_)
      refine lv_icmp_ge (tgt := 62) hx hb dX1_takeLetter_33 (by decide) (fun c13 => ?_) (fun c13 => ?_)
      · have h := h.1 c13
        refine lv_iload_n hx hb dX1_takeLetter_62 rfl (lv_at hl 3 rfl) ?_
        exact hret _ _ _ _ _ _ hC h dX1_takeLetter_63
      · have h := h.2 c13
        refine lv_aload_n hx hb dX1_takeLetter_36 rfl (lv_at hl 0 rfl) ?_
        refine cq_getr (ci := 1) (k := 7) (f := 5) hX hC rfl in_X1 (by decide) wd_248 (fun _ h9 => h9) (fun _ _ => rfl) dX1_takeLetter_37 h (fun z14 h => ?_)
        refine lv_iload_n hx hb dX1_takeLetter_40 rfl (lv_at hl 2 rfl) ?_
        refine lv_iload hx hb dX1_takeLetter_41 (lv_at hl 4 rfl) ?_
        refine lq_iadd hx hb dX1_takeLetter_43 h (fun z15 h => ?_)
        refine lv_aload_n hx hb dX1_takeLetter_44 rfl (lv_at hl 0 rfl) ?_
        refine cq_getr (ci := 1) (k := 7) (f := 5) hX hC rfl in_X1 (by decide) wd_248 (fun _ h9 => h9) (fun _ _ => rfl) dX1_takeLetter_45 h (fun z16 h => ?_)
        refine lv_iload_n hx hb dX1_takeLetter_48 rfl (lv_at hl 2 rfl) ?_
        refine lv_iload hx hb dX1_takeLetter_49 (lv_at hl 4 rfl) ?_
        refine lq_iadd hx hb dX1_takeLetter_51 h (fun z17 h => ?_)
        refine lv_iconst (v := 1) hx hb dX1_takeLetter_52 (by decide) ?_
        refine lq_iadd hx hb dX1_takeLetter_53 h (fun z18 h => ?_)
        obtain ⟨q19, e9, hh⟩ := h
        subst e9
        have h := hh
        clear hh
        refine cq_ild hX hC dX1_takeLetter_54 h (fun z20 h => ?_)
        obtain ⟨q21, e9, hh⟩ := h
        subst e9
        have h := hh
        clear hh
        refine cq_ist hX hC dX1_takeLetter_55 h.1 h.2.1 h.2.2 (fun S22 H locs hC h => ?_)
        obtain ⟨z23, ez23⟩ : ∃ y : Int32, y = x4 + 1 := ⟨_, rfl⟩
        have h := h z23 ez23
        refine lv_iinc (v := z23) (lv' := [(4, .int z23), (0, .ref x0), (1, .int x1), (2, .int x2), (3, .int x3)]) hx hb dX1_takeLetter_56 hl (k := 4) rfl (by rw [ez23]; rfl) (by decide) rfl (fun ls hl => ?_)
        refine lv_goto (tgt := 25) hx hb dX1_takeLetter_59 (by decide) ?_
        exact ih25 x0 x1 x2 x3 z23 S22 _ _ _ h hC (lv_sub hl [1, 2, 3, 4, 0] rfl)
  have hl : lv_has ls 5 [(0, .ref t0), (1, .int a0)] := hl
  unfold wp_X1_takeLetter at h
  refine lv_iload_n hx hb dX1_takeLetter_0 rfl (lv_at hl 1 rfl) ?_
  refine lv_bipush (v := 50) hx hb dX1_takeLetter_1 (by decide) ?_
  refine lq_imul hx hb dX1_takeLetter_3 h (fun z1 h => ?_)
  refine lv_istore_n (lv' := [(2, .int z1), (0, .ref t0), (1, .int a0)]) hx hb dX1_takeLetter_4 rfl hl (by decide) rfl (fun ls hl => ?_)
  refine lv_aload_n hx hb dX1_takeLetter_5 rfl (lv_at hl 1 rfl) ?_
  refine cq_getr (ci := 1) (k := 7) (f := 5) hX hC rfl in_X1 (by decide) wd_248 (fun _ h9 => h9) (fun _ _ => rfl) dX1_takeLetter_6 h (fun z2 h => ?_)
  refine lv_iload_n hx hb dX1_takeLetter_9 rfl (lv_at hl 0 rfl) ?_
  obtain ⟨q3, e9, hh⟩ := h
  subst e9
  have h := hh
  clear hh
  refine cq_ild hX hC dX1_takeLetter_10 h (fun z4 h => ?_)
  refine lv_istore_n (lv' := [(3, .int z4), (2, .int z1), (0, .ref t0), (1, .int a0)]) hx hb dX1_takeLetter_11 rfl hl (by decide) rfl (fun ls hl => ?_)
  refine lv_aload_n hx hb dX1_takeLetter_12 rfl (lv_at hl 2 rfl) ?_
  refine cq_getr (ci := 1) (k := 8) (f := 6) hX hC rfl in_X1 (by decide) wd_250 (fun _ h9 => h9) (fun _ _ => rfl) dX1_takeLetter_13 h (fun z5 h => ?_)
  refine lv_iload_n hx hb dX1_takeLetter_16 rfl (lv_at hl 3 rfl) ?_
  refine lv_dup2_11 hx hb dX1_takeLetter_17 (by first | rfl | exact cat_o) (by first | rfl | exact cat_o) ?_
  obtain ⟨q6, e9, hh⟩ := h
  subst e9
  have h := hh
  clear hh
  refine cq_ild hX hC dX1_takeLetter_18 h (fun z7 h => ?_)
  refine lv_iconst (v := 1) hx hb dX1_takeLetter_19 (by decide) ?_
  refine lq_isub hx hb dX1_takeLetter_20 h (fun z8 h => ?_)
  refine cq_ist hX hC dX1_takeLetter_21 h.1 h.2.1 h.2.2 (fun S9 H locs hC h => ?_)
  refine lv_iconst (v := 0) hx hb dX1_takeLetter_22 (by decide) ?_
  refine lv_istore (lv' := [(4, .int 0), (3, .int z4), (2, .int z1), (0, .ref t0), (1, .int a0)]) hx hb dX1_takeLetter_23 hl (by decide) rfl (fun ls hl => ?_)
  obtain ⟨n9, h⟩ := h
  exact cut25 n9 t0 a0 z1 z4 0 S9 _ _ _ h hC (lv_sub hl [3, 4, 2, 1, 0] rfl)
def wp_X3_kind (t0 : Nat) (S : kS) (K : kS → Int32 → Prop) : Prop := hasO S t0 3 ∧ ∀ z1 : Option Nat, z1 = S.2.1 14 t0 → ∃ q2 : Nat, z1 = some q2 ∧ hasO S q2 10 ∧ ∀ z3 : Option Nat, z3 = S.2.1 64 q2 → hasO S t0 3 ∧ ∀ z4 : Int32, z4 = S.1 6 t0 → ∃ q5 : Nat, z3 = some q5 ∧ hasA S q5 4002 0 ∧ inR z4 4002 ∧ ∀ z6 : Int32, z6 = S.2.2.1 q5 (ix z4) → K S z6
set_option maxHeartbeats 4000000 in
set_option maxRecDepth 100000 in
theorem kt_X3_kind (l : Launch) (S : kS) (t0 : Nat) (K : kS → Int32 → Prop) (h : wp_X3_kind t0 S K) : kMi l yX3_kind cX3_kind 1 (some .int) 0 0 [.ref t0] S K := by
  refine kv_ofi (own := RX3) (by decide) rfl (Nat.le_of_ble_eq_true rfl) ?_
  intro E p e R s m args below meth c A ls Q hRf hRl hX hC hl hret
  have hx := hX.1.1
  have hb := hX.1.2.1
  have hown := hX.1.2.2.2.1
  have hts := hX.1.2.2.2.2
  have hl : lv_has ls 1 [(0, .ref t0)] := hl
  unfold wp_X3_kind at h
  refine lv_aload_n hx hb dX3_kind_0 rfl (lv_at hl 0 rfl) ?_
  refine cq_getr (ci := 3) (k := 0) (f := 14) hX hC rfl in_X3 (by decide) wd_131 (fun _ h9 => h9) (fun _ _ => rfl) dX3_kind_1 h (fun z1 h => ?_)
  obtain ⟨q2, e9, hh⟩ := h
  subst e9
  have h := hh
  clear hh
  refine cq_getr (ci := 10) (k := 0) (f := 64) hX hC rfl in_X10 (by decide) wd_95 (fun _ h9 => h9) (fun _ _ => rfl) dX3_kind_4 h (fun z3 h => ?_)
  refine lv_aload_n hx hb dX3_kind_7 rfl (lv_at hl 0 rfl) ?_
  refine cq_geti (ci := 3) (k := 3) (f := 6) hX hC rfl in_X3 (by decide) wd_134 (fun _ h9 => h9) (fun _ _ => rfl) dX3_kind_8 h (fun z4 h => ?_)
  obtain ⟨q5, e9, hh⟩ := h
  subst e9
  have h := hh
  clear hh
  refine cq_ild hX hC dX3_kind_11 h (fun z6 h => ?_)
  exact hret _ _ _ _ _ _ hC h dX3_kind_12
def wp_X3_step (t0 : Nat) (S : kS) (K : kS → Prop) : Prop := hasO S t0 3 ∧ ∀ z1 : Int32, z1 = S.1 6 t0 → ∀ z2 : Int32, z2 = z1 + 1 → hasO S t0 3 ∧ ∀ z3 : Option Nat, z3 = S.2.1 14 t0 → ∃ q4 : Nat, z3 = some q4 ∧ hasO S q4 10 ∧ ∀ z5 : Int32, z5 = S.1 40 q4 → ((z5 ≤ z2 → K S) ∧ (¬ z5 ≤ z2 → hasO S t0 3 ∧ ∀ z7 : Int32, z7 = S.1 6 t0 → ∀ z8 : Int32, z8 = z7 + 1 → hasO S t0 3 ∧ ∀ S9 : kS, S9 = cI S 6 t0 z8 → K S9))
set_option maxHeartbeats 4000000 in
set_option maxRecDepth 100000 in
theorem kt_X3_step (l : Launch) (S : kS) (t0 : Nat) (K : kS → Prop) (h : wp_X3_step t0 S K) : kMv l yX3_step cX3_step 1 none 0 0 [.ref t0] S K := by
  refine kv_ofv (own := RX3) (by decide) rfl (Nat.le_of_ble_eq_true rfl) ?_
  intro E p e R s m args below meth c A ls Q hRf hRl hX hC hl hret
  have hx := hX.1.1
  have hb := hX.1.2.1
  have hown := hX.1.2.2.2.1
  have hts := hX.1.2.2.2.2
  have hl : lv_has ls 1 [(0, .ref t0)] := hl
  unfold wp_X3_step at h
  refine lv_aload_n hx hb dX3_step_0 rfl (lv_at hl 0 rfl) ?_
  refine cq_geti (ci := 3) (k := 3) (f := 6) hX hC rfl in_X3 (by decide) wd_134 (fun _ h9 => h9) (fun _ _ => rfl) dX3_step_1 h (fun z1 h => ?_)
  refine lv_iconst (v := 1) hx hb dX3_step_4 (by decide) ?_
  refine lq_iadd hx hb dX3_step_5 h (fun z2 h => ?_)
  refine lv_aload_n hx hb dX3_step_6 rfl (lv_at hl 0 rfl) ?_
  refine cq_getr (ci := 3) (k := 0) (f := 14) hX hC rfl in_X3 (by decide) wd_131 (fun _ h9 => h9) (fun _ _ => rfl) dX3_step_7 h (fun z3 h => ?_)
  obtain ⟨q4, e9, hh⟩ := h
  subst e9
  have h := hh
  clear hh
  refine cq_geti (ci := 10) (k := 3) (f := 40) hX hC rfl in_X10 (by decide) wd_101 (fun _ h9 => h9) (fun _ _ => rfl) dX3_step_10 h (fun z5 h => ?_)
  refine lv_icmp_ge (tgt := 26) hx hb dX3_step_13 (by decide) (fun c6 => ?_) (fun c6 => ?_)
  · have h := h.1 c6
    exact hret _ _ _ _ _ hC h dX3_step_26
  · have h := h.2 c6
    refine lv_aload_n hx hb dX3_step_16 rfl (lv_at hl 0 rfl) ?_
    refine lv_dup hx hb dX3_step_17 rfl ?_
    refine cq_geti (ci := 3) (k := 3) (f := 6) hX hC rfl in_X3 (by decide) wd_134 (fun _ h9 => h9) (fun _ _ => rfl) dX3_step_18 h (fun z7 h => ?_)
    refine lv_iconst (v := 1) hx hb dX3_step_21 (by decide) ?_
    refine lq_iadd hx hb dX3_step_22 h (fun z8 h => ?_)
    refine cq_puti (v := z8) (ci := 3) (k := 3) (f := 6) hX hC rfl in_X3 (by decide) wd_134 (fun _ h9 => h9) tyX3 tyX3_ok nmX3 rfl rfl rfl (fun _ _ => Nat.le_of_ble_eq_true rfl) (fun _ _ _ => rfl) dX3_step_23 h.1 h.2 (fun S9 H locs hC h => ?_)
    exact hret _ _ _ _ _ hC h dX3_step_26
def wp_X3_wrong (t0 : Nat) (a0 : Int32) (S : kS) (K : kS → Prop) : Prop := hasO S t0 3 ∧ ∀ z1 : Int32, z1 = S.1 7 t0 → ((¬ z1 = 0 → K S) ∧ (z1 = 0 → hasO S t0 3 ∧ ∀ z3 : Option Nat, z3 = S.2.1 14 t0 → ∃ q4 : Nat, z3 = some q4 ∧ hasO S q4 10 ∧ ∀ z5 : Option Nat, z5 = S.2.1 65 q4 → hasO S t0 3 ∧ ∀ z6 : Int32, z6 = S.1 6 t0 → ∃ q7 : Nat, z5 = some q7 ∧ hasA S q7 4002 0 ∧ inR z6 4002 ∧ ∀ z8 : Int32, z8 = S.2.2.1 q7 (ix z6) → ∀ z9 : Int32, z9 = 16 * z8 → ∀ z10 : Int32, z10 = a0 + z9 → hasO S t0 3 ∧ ∀ S11 : kS, S11 = cI S 7 t0 z10 → hasO S11 t0 3 ∧ ∀ S12 : kS, S12 = cI S11 6 t0 4001 → K S12))
set_option maxHeartbeats 4000000 in
set_option maxRecDepth 100000 in
theorem kt_X3_wrong (l : Launch) (S : kS) (t0 : Nat) (a0 : Int32) (K : kS → Prop) (h : wp_X3_wrong t0 a0 S K) : kMv l yX3_wrong cX3_wrong 2 none 0 0 [.ref t0, .int a0] S K := by
  refine kv_ofv (own := RX3) (by decide) rfl (Nat.le_of_ble_eq_true rfl) ?_
  intro E p e R s m args below meth c A ls Q hRf hRl hX hC hl hret
  have hx := hX.1.1
  have hb := hX.1.2.1
  have hown := hX.1.2.2.2.1
  have hts := hX.1.2.2.2.2
  have hl : lv_has ls 2 [(0, .ref t0), (1, .int a0)] := hl
  unfold wp_X3_wrong at h
  refine lv_aload_n hx hb dX3_wrong_0 rfl (lv_at hl 0 rfl) ?_
  refine cq_geti (ci := 3) (k := 4) (f := 7) hX hC rfl in_X3 (by decide) wd_135 (fun _ h9 => h9) (fun _ _ => rfl) dX3_wrong_1 h (fun z1 h => ?_)
  refine lv_if_ne (tgt := 35) hx hb dX3_wrong_4 (by decide) (fun c2 => ?_) (fun c2 => ?_)
  · have h := h.1 c2
    exact hret _ _ _ _ _ hC h dX3_wrong_35
  · have h := h.2 c2
    refine lv_aload_n hx hb dX3_wrong_7 rfl (lv_at hl 0 rfl) ?_
    refine lv_iload_n hx hb dX3_wrong_8 rfl (lv_at hl 1 rfl) ?_
    refine lv_bipush (v := 16) hx hb dX3_wrong_9 (by decide) ?_
    refine lv_aload_n hx hb dX3_wrong_11 rfl (lv_at hl 0 rfl) ?_
    refine cq_getr (ci := 3) (k := 0) (f := 14) hX hC rfl in_X3 (by decide) wd_131 (fun _ h9 => h9) (fun _ _ => rfl) dX3_wrong_12 h (fun z3 h => ?_)
    obtain ⟨q4, e9, hh⟩ := h
    subst e9
    have h := hh
    clear hh
    refine cq_getr (ci := 10) (k := 1) (f := 65) hX hC rfl in_X10 (by decide) wd_97 (fun _ h9 => h9) (fun _ _ => rfl) dX3_wrong_15 h (fun z5 h => ?_)
    refine lv_aload_n hx hb dX3_wrong_18 rfl (lv_at hl 0 rfl) ?_
    refine cq_geti (ci := 3) (k := 3) (f := 6) hX hC rfl in_X3 (by decide) wd_134 (fun _ h9 => h9) (fun _ _ => rfl) dX3_wrong_19 h (fun z6 h => ?_)
    obtain ⟨q7, e9, hh⟩ := h
    subst e9
    have h := hh
    clear hh
    refine cq_ild hX hC dX3_wrong_22 h (fun z8 h => ?_)
    refine lq_imul hx hb dX3_wrong_23 h (fun z9 h => ?_)
    refine lq_iadd hx hb dX3_wrong_24 h (fun z10 h => ?_)
    refine cq_puti (v := z10) (ci := 3) (k := 4) (f := 7) hX hC rfl in_X3 (by decide) wd_135 (fun _ h9 => h9) tyX3 tyX3_ok nmX3 rfl rfl rfl (fun _ _ => Nat.le_of_ble_eq_true rfl) (fun _ _ _ => rfl) dX3_wrong_25 h.1 h.2 (fun S11 H locs hC h => ?_)
    refine lv_aload_n hx hb dX3_wrong_28 rfl (lv_at hl 0 rfl) ?_
    refine lv_sipush (v := 4001) hx hb dX3_wrong_29 (by decide) ?_
    refine cq_puti (v := 4001) (ci := 3) (k := 3) (f := 6) hX hC rfl in_X3 (by decide) wd_134 (fun _ h9 => h9) tyX3 tyX3_ok nmX3 rfl rfl rfl (fun _ _ => Nat.le_of_ble_eq_true rfl) (fun _ _ _ => rfl) dX3_wrong_32 h.1 h.2 (fun S12 H locs hC h => ?_)
    exact hret _ _ _ _ _ hC h dX3_wrong_35
def wp_X5_cellOf_16 (K : kS → Int32 → Prop) (k16 : Nat × Int64 × Int32 × Int32 × kS → Prop) (x0 : Nat) (x1 : Int64) (x3 : Int32) (x4 : Int32) (S : kS) : Prop := hasO S x0 5 ∧ ∀ z4 : Option Nat, z4 = S.2.1 35 x0 → ∃ q5 : Nat, z4 = some q5 ∧ hasA S q5 12 0 ∧ inR x3 12 ∧ ∀ z6 : Int32, z6 = S.2.2.1 q5 (ix x3) → ((z6 ≤ x4 → hasO S x0 5 ∧ ∀ z8 : Option Nat, z8 = S.2.1 35 x0 → ∃ q9 : Nat, z8 = some q9 ∧ hasA S q9 12 0 ∧ inR x3 12 ∧ ∀ z10 : Int32, z10 = S.2.2.1 q9 (ix x3) → ((z10 < 12 → hasO S x0 5 ∧ ∀ z12 : Option Nat, z12 = S.2.1 39 x0 → ∀ z13 : Int32, z13 = x3 * 12 → hasO S x0 5 ∧ ∀ z14 : Option Nat, z14 = S.2.1 35 x0 → ∃ q15 : Nat, z14 = some q15 ∧ hasA S q15 12 0 ∧ inR x3 12 ∧ ∀ z16 : Int32, z16 = S.2.2.1 q15 (ix x3) → ∀ z17 : Int32, z17 = z13 + z16 → ∃ q18 : Nat, z12 = some q18 ∧ hasA S q18 144 1 ∧ inR z17 144 ∧ ∀ S19 : kS, S19 = cL S q18 (ix z17) x1 → hasO S19 x0 5 ∧ ∀ z20 : Option Nat, z20 = S19.2.1 35 x0 → ∃ q21 : Nat, z20 = some q21 ∧ hasA S19 q21 12 0 ∧ inR x3 12 ∧ ∀ z22 : Int32, z22 = S19.2.2.1 q21 (ix x3) → ∀ z23 : Int32, z23 = z22 + 1 → hasA S19 q21 12 0 ∧ inR x3 12 ∧ ∀ S24 : kS, S24 = cA S19 q21 (ix x3) z23 → hasO S24 x0 5 ∧ ∀ z25 : Option Nat, z25 = S24.2.1 35 x0 → ∃ q26 : Nat, z25 = some q26 ∧ hasA S24 q26 12 0 ∧ inR x3 12 ∧ ∀ z27 : Int32, z27 = S24.2.2.1 q26 (ix x3) → ∀ z28 : Int32, z28 = z27 - 1 → K S24 z28) ∧ (¬ z10 < 12 → K S (-1)))) ∧ (¬ z6 ≤ x4 → hasO S x0 5 ∧ ∀ z29 : Option Nat, z29 = S.2.1 39 x0 → ∀ z30 : Int32, z30 = x3 * 12 → ∀ z31 : Int32, z31 = z30 + x4 → ∃ q32 : Nat, z29 = some q32 ∧ hasA S q32 144 1 ∧ inR z31 144 ∧ ∀ z33 : Int64, z33 = S.2.2.2.1 q32 (ix z31) → ∀ z34 : Int32, z34 = lg_cmp z33 x1 → ((¬ z34 = 0 → ∀ z36 : Int32, z36 = x4 + 1 → k16 (x0, x1, x3, z36, S)) ∧ (z34 = 0 → K S x4))))
def ls_X5_cellOf_16 (K : kS → Int32 → Prop) (k16 : Nat × Int64 × Int32 × Int32 × kS → Prop) (u : Nat × Int64 × Int32 × Int32 × kS) : Prop := wp_X5_cellOf_16 K k16 u.1 u.2.1 u.2.2.1 u.2.2.2.1 u.2.2.2.2
def wp_X5_cellOf (t0 : Nat) (a0 : Int64) (S : kS) (K : kS → Int32 → Prop) : Prop := hasO S t0 5 ∧ ∀ z1 : Int32, z1 = S.1 18 t0 → ∀ z2 : Int32, z2 = z1 - 1 → ((0 ≤ z2 → (∃ n9, it (ls_X5_cellOf_16 K) n9 (t0, a0, z2, 0, S))) ∧ (¬ 0 ≤ z2 → K S (-1)))
set_option maxHeartbeats 4000000 in
set_option maxRecDepth 100000 in
theorem kt_X5_cellOf (l : Launch) (S : kS) (t0 : Nat) (a0 : Int64) (K : kS → Int32 → Prop) (h : wp_X5_cellOf t0 a0 S K) : kMi l yX5_cellOf cX5_cellOf 5 (some .int) 0 0 [.ref t0, .long a0] S K := by
  refine kv_ofi (own := RX5) (by decide) rfl (Nat.le_of_ble_eq_true rfl) ?_
  intro E p e R s m args below meth c A ls Q hRf hRl hX hC hl hret
  have hx := hX.1.1
  have hb := hX.1.2.1
  have hown := hX.1.2.2.2.1
  have hts := hX.1.2.2.2.2
  have cut16 : ∀ (n16 : Nat) (x0 : Nat) (x1 : Int64) (x3 : Int32) (x4 : Int32) (S : kS) (H : Heap) (locs : List Loc) (ls : Array Slot), it (ls_X5_cellOf_16 K) n16 (x0, x1, x3, x4, S) → cM E A s.heap S H locs → lv_has ls 5 [(0, .ref x0), (1, .long x1), (3, .int x3), (4, .int x4)] → W p l e R s m args below meth c H locs 0 0 Q (F0 m 16 ls []) := by
    intro n16
    induction n16 with
    | zero => intro x0 x1 x3 x4 S H locs ls h hC hl; exact h.elim
    | succ n16 ih16 =>
      intro x0 x1 x3 x4 S H locs ls h hC hl
      have h : wp_X5_cellOf_16 K (it (ls_X5_cellOf_16 K) n16) x0 x1 x3 x4 S := h
      unfold wp_X5_cellOf_16 at h
      refine lv_iload hx hb dX5_cellOf_16 (lv_at hl 3 rfl) ?_
      refine lv_aload_n hx hb dX5_cellOf_18 rfl (lv_at hl 0 rfl) ?_
      refine cq_getr (ci := 5) (k := 9) (f := 35) hX hC rfl in_X5 (by decide) wd_425 (fun _ h9 => h9) (fun _ _ => rfl) dX5_cellOf_19 h (fun z4 h => ?_)
      refine lv_iload_n hx hb dX5_cellOf_22 rfl (lv_at hl 2 rfl) ?_
      obtain ⟨q5, e9, hh⟩ := h
      subst e9
      have h := hh
      clear hh
      refine cq_ild hX hC dX5_cellOf_23 h (fun z6 h => ?_)
      refine lv_icmp_ge (tgt := 53) hx hb dX5_cellOf_24 (by decide) (fun c7 => ?_) (fun c7 => ?_)
      · have h := h.1 c7
        refine lv_aload_n hx hb dX5_cellOf_53 rfl (lv_at hl 0 rfl) ?_
        refine cq_getr (ci := 5) (k := 9) (f := 35) hX hC rfl in_X5 (by decide) wd_425 (fun _ h9 => h9) (fun _ _ => rfl) dX5_cellOf_54 h (fun z8 h => ?_)
        refine lv_iload_n hx hb dX5_cellOf_57 rfl (lv_at hl 2 rfl) ?_
        obtain ⟨q9, e9, hh⟩ := h
        subst e9
        have h := hh
        clear hh
        refine cq_ild hX hC dX5_cellOf_58 h (fun z10 h => ?_)
        refine lv_bipush (v := 12) hx hb dX5_cellOf_59 (by decide) ?_
        refine lv_icmp_lt (tgt := 66) hx hb dX5_cellOf_61 (by decide) (fun c11 => ?_) (fun c11 => ?_)
        · have h := h.1 c11
          refine lv_aload_n hx hb dX5_cellOf_66 rfl (lv_at hl 0 rfl) ?_
          refine cq_getr (ci := 5) (k := 13) (f := 39) hX hC rfl in_X5 (by decide) wd_432 (fun _ h9 => h9) (fun _ _ => rfl) dX5_cellOf_67 h (fun z12 h => ?_)
          refine lv_iload_n hx hb dX5_cellOf_70 rfl (lv_at hl 2 rfl) ?_
          refine lv_bipush (v := 12) hx hb dX5_cellOf_71 (by decide) ?_
          refine lq_imul hx hb dX5_cellOf_73 h (fun z13 h => ?_)
          refine lv_aload_n hx hb dX5_cellOf_74 rfl (lv_at hl 0 rfl) ?_
          refine cq_getr (ci := 5) (k := 9) (f := 35) hX hC rfl in_X5 (by decide) wd_425 (fun _ h9 => h9) (fun _ _ => rfl) dX5_cellOf_75 h (fun z14 h => ?_)
          refine lv_iload_n hx hb dX5_cellOf_78 rfl (lv_at hl 2 rfl) ?_
          obtain ⟨q15, e9, hh⟩ := h
          subst e9
          have h := hh
          clear hh
          refine cq_ild hX hC dX5_cellOf_79 h (fun z16 h => ?_)
          refine lq_iadd hx hb dX5_cellOf_80 h (fun z17 h => ?_)
          refine lv_lload_n hx hb dX5_cellOf_81 rfl (lv_at hl 1 rfl) ?_
          obtain ⟨q18, e9, hh⟩ := h
          subst e9
          have h := hh
          clear hh
          refine cq_lst hX hC dX5_cellOf_82 h.1 h.2.1 h.2.2 (fun S19 H locs hC h => ?_)
          refine lv_aload_n hx hb dX5_cellOf_83 rfl (lv_at hl 0 rfl) ?_
          refine cq_getr (ci := 5) (k := 9) (f := 35) hX hC rfl in_X5 (by decide) wd_425 (fun _ h9 => h9) (fun _ _ => rfl) dX5_cellOf_84 h (fun z20 h => ?_)
          refine lv_iload_n hx hb dX5_cellOf_87 rfl (lv_at hl 2 rfl) ?_
          refine lv_dup2_11 hx hb dX5_cellOf_88 (by first | rfl | exact cat_o) (by first | rfl | exact cat_o) ?_
          obtain ⟨q21, e9, hh⟩ := h
          subst e9
          have h := hh
          clear hh
          refine cq_ild hX hC dX5_cellOf_89 h (fun z22 h => ?_)
          refine lv_iconst (v := 1) hx hb dX5_cellOf_90 (by decide) ?_
          refine lq_iadd hx hb dX5_cellOf_91 h (fun z23 h => ?_)
          refine cq_ist hX hC dX5_cellOf_92 h.1 h.2.1 h.2.2 (fun S24 H locs hC h => ?_)
          refine lv_aload_n hx hb dX5_cellOf_93 rfl (lv_at hl 0 rfl) ?_
          refine cq_getr (ci := 5) (k := 9) (f := 35) hX hC rfl in_X5 (by decide) wd_425 (fun _ h9 => h9) (fun _ _ => rfl) dX5_cellOf_94 h (fun z25 h => ?_)
          refine lv_iload_n hx hb dX5_cellOf_97 rfl (lv_at hl 2 rfl) ?_
          obtain ⟨q26, e9, hh⟩ := h
          subst e9
          have h := hh
          clear hh
          refine cq_ild hX hC dX5_cellOf_98 h (fun z27 h => ?_)
          refine lv_iconst (v := 1) hx hb dX5_cellOf_99 (by decide) ?_
          refine lq_isub hx hb dX5_cellOf_100 h (fun z28 h => ?_)
          exact hret _ _ _ _ _ _ hC h dX5_cellOf_101
        · have h := h.2 c11
          refine lv_iconst (v := -1) hx hb dX5_cellOf_64 (by decide) ?_
          exact hret _ _ _ _ _ _ hC h dX5_cellOf_65
      · have h := h.2 c7
        refine lv_aload_n hx hb dX5_cellOf_27 rfl (lv_at hl 0 rfl) ?_
        refine cq_getr (ci := 5) (k := 13) (f := 39) hX hC rfl in_X5 (by decide) wd_432 (fun _ h9 => h9) (fun _ _ => rfl) dX5_cellOf_28 h (fun z29 h => ?_)
        refine lv_iload_n hx hb dX5_cellOf_31 rfl (lv_at hl 2 rfl) ?_
        refine lv_bipush (v := 12) hx hb dX5_cellOf_32 (by decide) ?_
        refine lq_imul hx hb dX5_cellOf_34 h (fun z30 h => ?_)
        refine lv_iload hx hb dX5_cellOf_35 (lv_at hl 3 rfl) ?_
        refine lq_iadd hx hb dX5_cellOf_37 h (fun z31 h => ?_)
        obtain ⟨q32, e9, hh⟩ := h
        subst e9
        have h := hh
        clear hh
        refine cq_lld hX hC dX5_cellOf_38 h (fun z33 h => ?_)
        refine lv_lload_n hx hb dX5_cellOf_39 rfl (lv_at hl 1 rfl) ?_
        refine lq_lcmp hx hb dX5_cellOf_40 h (fun z34 h => ?_)
        refine lv_if_ne (tgt := 47) hx hb dX5_cellOf_41 (by decide) (fun c35 => ?_) (fun c35 => ?_)
        · have h := h.1 c35
          obtain ⟨z36, ez36⟩ : ∃ y : Int32, y = x4 + 1 := ⟨_, rfl⟩
          have h := h z36 ez36
          refine lv_iinc (v := z36) (lv' := [(4, .int z36), (0, .ref x0), (1, .long x1), (3, .int x3)]) hx hb dX5_cellOf_47 hl (k := 3) rfl (by rw [ez36]; rfl) (by decide) rfl (fun ls hl => ?_)
          refine lv_goto (tgt := 16) hx hb dX5_cellOf_50 (by decide) ?_
          exact ih16 x0 x1 x3 z36 S _ _ _ h hC (lv_sub hl [1, 2, 3, 0] rfl)
        · have h := h.2 c35
          refine lv_iload hx hb dX5_cellOf_44 (lv_at hl 3 rfl) ?_
          exact hret _ _ _ _ _ _ hC h dX5_cellOf_46
  have hl : lv_has ls 5 [(0, .ref t0), (1, .long a0)] := hl
  unfold wp_X5_cellOf at h
  refine lv_aload_n hx hb dX5_cellOf_0 rfl (lv_at hl 0 rfl) ?_
  refine cq_geti (ci := 5) (k := 5) (f := 18) hX hC rfl in_X5 (by decide) wd_413 (fun _ h9 => h9) (fun _ _ => rfl) dX5_cellOf_1 h (fun z1 h => ?_)
  refine lv_iconst (v := 1) hx hb dX5_cellOf_4 (by decide) ?_
  refine lq_isub hx hb dX5_cellOf_5 h (fun z2 h => ?_)
  refine lv_istore_n (lv' := [(3, .int z2), (0, .ref t0), (1, .long a0)]) hx hb dX5_cellOf_6 rfl hl (by decide) rfl (fun ls hl => ?_)
  refine lv_iload_n hx hb dX5_cellOf_7 rfl (lv_at hl 0 rfl) ?_
  refine lv_if_ge (tgt := 13) hx hb dX5_cellOf_8 (by decide) (fun c3 => ?_) (fun c3 => ?_)
  · have h := h.1 c3
    refine lv_iconst (v := 0) hx hb dX5_cellOf_13 (by decide) ?_
    refine lv_istore (lv' := [(4, .int 0), (3, .int z2), (0, .ref t0), (1, .long a0)]) hx hb dX5_cellOf_14 hl (by decide) rfl (fun ls hl => ?_)
    obtain ⟨n9, h⟩ := h
    exact cut16 n9 t0 a0 z2 0 S _ _ _ h hC (lv_sub hl [2, 3, 1, 0] rfl)
  · have h := h.2 c3
    refine lv_iconst (v := -1) hx hb dX5_cellOf_11 (by decide) ?_
    exact hret _ _ _ _ _ _ hC h dX5_cellOf_12
def wp_X3_cellHere (t0 : Nat) (S : kS) (K : kS → Int32 → Prop) : Prop := hasO S t0 3 ∧ wp_X3_kind t0 S (fun (S1 : kS) (r1 : Int32) => ((r1 = 3 → hasO S1 t0 3 ∧ ∀ z3 : Option Nat, z3 = S1.2.1 15 t0 → hasO S1 t0 3 ∧ ∀ z4 : Option Nat, z4 = S1.2.1 14 t0 → ∃ q5 : Nat, z4 = some q5 ∧ hasO S1 q5 10 ∧ ∀ z6 : Option Nat, z6 = S1.2.1 66 q5 → hasO S1 t0 3 ∧ ∀ z7 : Int32, z7 = S1.1 6 t0 → ∃ q8 : Nat, z6 = some q8 ∧ hasA S1 q8 4002 1 ∧ inR z7 4002 ∧ ∀ z9 : Int64, z9 = S1.2.2.2.1 q8 (ix z7) → ∃ q10 : Nat, z3 = some q10 ∧ hasO S1 q10 5 ∧ wp_X5_cellOf q10 z9 S1 (fun (S11 : kS) (r11 : Int32) => ((¬ r11 = (-1) → hasO S11 t0 3 ∧ wp_X3_step t0 S11 (fun (S13 : kS) => K S13 r11)) ∧ (r11 = (-1) → hasO S11 t0 3 ∧ wp_X3_wrong t0 5 S11 (fun (S14 : kS) => K S14 0))))) ∧ (¬ r1 = 3 → hasO S1 t0 3 ∧ wp_X3_wrong t0 1 S1 (fun (S15 : kS) => K S15 0))))
theorem cw_X3_62 {R : Room} {s : State} {args : Array Value} {fr lo : Nat} (hts : ∀ w ∈ tb, w.before args s = true) (h1 : fr + 1 ≤ R.frames) (h2 : 8 + (1 + 11) + lo ≤ R.locals) : CallW R s args RX3 RX3 62 yX3_kind cX3_kind 1 (some .int) (.code yX3_kind cX3_kind 1 (some .int) :: tb) (mRm fr lo) 0 0 0 := cwV 0 hts (gd_V wd_608 wd_610 sl_X3_kind wd_7 wd_611) rfl rfl rfl (by decide +kernel) ⟨h1, h2⟩
theorem cw_X3_127 {R : Room} {s : State} {args : Array Value} {fr lo : Nat} (hts : ∀ w ∈ tb, w.before args s = true) (h1 : fr + 1 ≤ R.frames) (h2 : 8 + (5 + 11) + lo ≤ R.locals) : CallW R s args RX3 RX5 127 yX5_cellOf cX5_cellOf 5 (some .int) (.code yX5_cellOf cX5_cellOf 5 (some .int) :: tb) (mRm fr lo) 0 0 1 := cwV 1 hts (gd_V wd_652 wd_653 wd_654 wd_13 wd_655) rfl rfl rfl (by decide +kernel) ⟨h1, h2⟩
theorem cw_X3_103 {R : Room} {s : State} {args : Array Value} {fr lo : Nat} (hts : ∀ w ∈ tb, w.before args s = true) (h1 : fr + 1 ≤ R.frames) (h2 : 8 + (1 + 11) + lo ≤ R.locals) : CallW R s args RX3 RX3 103 yX3_step cX3_step 1 none (.code yX3_step cX3_step 1 none :: tb) (mRm fr lo) 0 0 0 := cwV 0 hts (gd_V wd_620 wd_622 sl_X3_step wd_7 wd_623) rfl rfl rfl (by decide +kernel) ⟨h1, h2⟩
theorem cw_X3_78 {R : Room} {s : State} {args : Array Value} {fr lo : Nat} (hts : ∀ w ∈ tb, w.before args s = true) (h1 : fr + 1 ≤ R.frames) (h2 : 8 + (2 + 11) + lo ≤ R.locals) : CallW R s args RX3 RX3 78 yX3_wrong cX3_wrong 2 none (.code yX3_wrong cX3_wrong 2 none :: tb) (mRm fr lo) 0 0 1 := cwV 1 hts (gd_V wd_616 wd_618 sl_X3_wrong wd_7 wd_619) rfl rfl rfl (by decide +kernel) ⟨h1, h2⟩
set_option maxHeartbeats 4000000 in
set_option maxRecDepth 100000 in
theorem kt_X3_cellHere (l : Launch) (S : kS) (t0 : Nat) (K : kS → Int32 → Prop) (h : wp_X3_cellHere t0 S K) : kMi l yX3_cellHere cX3_cellHere 2 (some .int) 1 24 [.ref t0] S K := by
  refine kv_ofi (own := RX3) (by decide) rfl (Nat.le_of_ble_eq_true rfl) ?_
  intro E p e R s m args below meth c A ls Q hRf hRl hX hC hl hret
  have hx := hX.1.1
  have hb := hX.1.2.1
  have hown := hX.1.2.2.2.1
  have hts := hX.1.2.2.2.2
  have hl : lv_has ls 2 [(0, .ref t0)] := hl
  unfold wp_X3_cellHere at h
  refine lv_aload_n hx hb dX3_cellHere_0 rfl (lv_at hl 0 rfl) ?_
  refine kv_calli [] (rest := []) (ci := 3) rfl hX hC h.1 (kt_X3_kind l S t0 _ h.2 E _) (cw_X3_62 hts (by omega) (by omega)) rfl hl.1 (Nat.le_of_ble_eq_true rfl) ⟨Nat.zero_le _, Nat.zero_le _⟩ dX3_cellHere_1 (fun r1 S1 H locs hC h => ?_)
  refine lv_iconst (v := 3) hx hb dX3_cellHere_4 (by decide) ?_
  refine lv_icmp_eq (tgt := 15) hx hb dX3_cellHere_5 (by decide) (fun c2 => ?_) (fun c2 => ?_)
  · have h := h.1 c2
    refine lv_aload_n hx hb dX3_cellHere_15 rfl (lv_at hl 0 rfl) ?_
    refine cq_getr (ci := 3) (k := 1) (f := 15) hX hC rfl in_X3 (by decide) wd_132 (fun _ h9 => h9) (fun _ _ => rfl) dX3_cellHere_16 h (fun z3 h => ?_)
    refine lv_aload_n hx hb dX3_cellHere_19 rfl (lv_at hl 0 rfl) ?_
    refine cq_getr (ci := 3) (k := 0) (f := 14) hX hC rfl in_X3 (by decide) wd_131 (fun _ h9 => h9) (fun _ _ => rfl) dX3_cellHere_20 h (fun z4 h => ?_)
    obtain ⟨q5, e9, hh⟩ := h
    subst e9
    have h := hh
    clear hh
    refine cq_getr (ci := 10) (k := 2) (f := 66) hX hC rfl in_X10 (by decide) wd_99 (fun _ h9 => h9) (fun _ _ => rfl) dX3_cellHere_23 h (fun z6 h => ?_)
    refine lv_aload_n hx hb dX3_cellHere_26 rfl (lv_at hl 0 rfl) ?_
    refine cq_geti (ci := 3) (k := 3) (f := 6) hX hC rfl in_X3 (by decide) wd_134 (fun _ h9 => h9) (fun _ _ => rfl) dX3_cellHere_27 h (fun z7 h => ?_)
    obtain ⟨q8, e9, hh⟩ := h
    subst e9
    have h := hh
    clear hh
    refine cq_lld hX hC dX3_cellHere_30 h (fun z9 h => ?_)
    obtain ⟨q10, e9, hh⟩ := h
    subst e9
    have h := hh
    clear hh
    refine kv_calli [.long z9] (rest := []) (ci := 5) rfl hX hC h.1 (kt_X5_cellOf l S1 q10 z9 _ h.2 E _) (cw_X3_127 hts (by omega) (by omega)) rfl hl.1 (Nat.le_of_ble_eq_true rfl) ⟨Nat.zero_le _, Nat.zero_le _⟩ dX3_cellHere_31 (fun r11 S11 H locs hC h => ?_)
    refine lv_istore_n (lv' := [(1, .int r11), (0, .ref t0)]) hx hb dX3_cellHere_34 rfl hl (by decide) rfl (fun ls hl => ?_)
    refine lv_iload_n hx hb dX3_cellHere_35 rfl (lv_at hl 0 rfl) ?_
    refine lv_iconst (v := -1) hx hb dX3_cellHere_36 (by decide) ?_
    refine lv_icmp_ne (tgt := 47) hx hb dX3_cellHere_37 (by decide) (fun c12 => ?_) (fun c12 => ?_)
    · have h := h.1 c12
      refine lv_aload_n hx hb dX3_cellHere_47 rfl (lv_at hl 1 rfl) ?_
      refine kv_callv [] (rest := []) (ci := 3) rfl hX hC h.1 (kt_X3_step l S11 t0 _ h.2 E _) (cw_X3_103 hts (by omega) (by omega)) rfl hl.1 (Nat.le_of_ble_eq_true rfl) ⟨Nat.zero_le _, Nat.zero_le _⟩ dX3_cellHere_48 (fun S13 H locs hC h => ?_)
      refine lv_iload_n hx hb dX3_cellHere_51 rfl (lv_at hl 0 rfl) ?_
      exact hret _ _ _ _ _ _ hC h dX3_cellHere_52
    · have h := h.2 c12
      refine lv_aload_n hx hb dX3_cellHere_40 rfl (lv_at hl 1 rfl) ?_
      refine lv_iconst (v := 5) hx hb dX3_cellHere_41 (by decide) ?_
      refine kv_callv [.int 5] (rest := []) (ci := 3) rfl hX hC h.1 (kt_X3_wrong l S11 t0 5 _ h.2 E _) (cw_X3_78 hts (by omega) (by omega)) rfl hl.1 (Nat.le_of_ble_eq_true rfl) ⟨Nat.zero_le _, Nat.zero_le _⟩ dX3_cellHere_42 (fun S14 H locs hC h => ?_)
      refine lv_iconst (v := 0) hx hb dX3_cellHere_45 (by decide) ?_
      exact hret _ _ _ _ _ _ hC h dX3_cellHere_46
  · have h := h.2 c2
    refine lv_aload_n hx hb dX3_cellHere_8 rfl (lv_at hl 0 rfl) ?_
    refine lv_iconst (v := 1) hx hb dX3_cellHere_9 (by decide) ?_
    refine kv_callv [.int 1] (rest := []) (ci := 3) rfl hX hC h.1 (kt_X3_wrong l S1 t0 1 _ h.2 E _) (cw_X3_78 hts (by omega) (by omega)) rfl hl.1 (Nat.le_of_ble_eq_true rfl) ⟨Nat.zero_le _, Nat.zero_le _⟩ dX3_cellHere_10 (fun S15 H locs hC h => ?_)
    refine lv_iconst (v := 0) hx hb dX3_cellHere_13 (by decide) ?_
    exact hret _ _ _ _ _ _ hC h dX3_cellHere_14
def wp_X5_emit (t0 : Nat) (a0 : Int32) (a1 : Int32) (a2 : Int32) (S : kS) (K : kS → Int32 → Prop) : Prop := hasO S t0 5 ∧ ∀ z1 : Int32, z1 = S.1 17 t0 → ((z1 < 8064 → hasO S t0 5 ∧ ∀ z3 : Option Nat, z3 = S.2.1 28 t0 → hasO S t0 5 ∧ ∀ z4 : Int32, z4 = S.1 17 t0 → ∃ q5 : Nat, z3 = some q5 ∧ hasA S q5 8064 0 ∧ inR z4 8064 ∧ ∀ S6 : kS, S6 = cA S q5 (ix z4) a0 → hasO S6 t0 5 ∧ ∀ z7 : Option Nat, z7 = S6.2.1 29 t0 → hasO S6 t0 5 ∧ ∀ z8 : Int32, z8 = S6.1 17 t0 → ∃ q9 : Nat, z7 = some q9 ∧ hasA S6 q9 8064 0 ∧ inR z8 8064 ∧ ∀ S10 : kS, S10 = cA S6 q9 (ix z8) a1 → hasO S10 t0 5 ∧ ∀ z11 : Option Nat, z11 = S10.2.1 30 t0 → hasO S10 t0 5 ∧ ∀ z12 : Int32, z12 = S10.1 17 t0 → ∃ q13 : Nat, z11 = some q13 ∧ hasA S10 q13 8064 0 ∧ inR z12 8064 ∧ ∀ S14 : kS, S14 = cA S10 q13 (ix z12) a2 → hasO S14 t0 5 ∧ ∀ z15 : Int32, z15 = S14.1 17 t0 → ∀ z16 : Int32, z16 = z15 + 1 → hasO S14 t0 5 ∧ ∀ S17 : kS, S17 = cI S14 17 t0 z16 → hasO S17 t0 5 ∧ ∀ z18 : Int32, z18 = S17.1 17 t0 → ∀ z19 : Int32, z19 = z18 - 1 → K S17 z19) ∧ (¬ z1 < 8064 → K S 8063))
set_option maxHeartbeats 4000000 in
set_option maxRecDepth 100000 in
theorem kt_X5_emit (l : Launch) (S : kS) (t0 : Nat) (a0 : Int32) (a1 : Int32) (a2 : Int32) (K : kS → Int32 → Prop) (h : wp_X5_emit t0 a0 a1 a2 S K) : kMi l yX5_emit cX5_emit 4 (some .int) 0 0 [.ref t0, .int a0, .int a1, .int a2] S K := by
  refine kv_ofi (own := RX5) (by decide) rfl (Nat.le_of_ble_eq_true rfl) ?_
  intro E p e R s m args below meth c A ls Q hRf hRl hX hC hl hret
  have hx := hX.1.1
  have hb := hX.1.2.1
  have hown := hX.1.2.2.2.1
  have hts := hX.1.2.2.2.2
  have hl : lv_has ls 4 [(0, .ref t0), (1, .int a0), (2, .int a1), (3, .int a2)] := hl
  unfold wp_X5_emit at h
  refine lv_aload_n hx hb dX5_emit_0 rfl (lv_at hl 0 rfl) ?_
  refine cq_geti (ci := 5) (k := 0) (f := 17) hX hC rfl in_X5 (by decide) wd_395 (fun _ h9 => h9) (fun _ _ => rfl) dX5_emit_1 h (fun z1 h => ?_)
  refine lv_sipush (v := 8064) hx hb dX5_emit_4 (by decide) ?_
  refine lv_icmp_lt (tgt := 14) hx hb dX5_emit_7 (by decide) (fun c2 => ?_) (fun c2 => ?_)
  · have h := h.1 c2
    refine lv_aload_n hx hb dX5_emit_14 rfl (lv_at hl 0 rfl) ?_
    refine cq_getr (ci := 5) (k := 1) (f := 28) hX hC rfl in_X5 (by decide) wd_399 (fun _ h9 => h9) (fun _ _ => rfl) dX5_emit_15 h (fun z3 h => ?_)
    refine lv_aload_n hx hb dX5_emit_18 rfl (lv_at hl 0 rfl) ?_
    refine cq_geti (ci := 5) (k := 0) (f := 17) hX hC rfl in_X5 (by decide) wd_395 (fun _ h9 => h9) (fun _ _ => rfl) dX5_emit_19 h (fun z4 h => ?_)
    refine lv_iload_n hx hb dX5_emit_22 rfl (lv_at hl 1 rfl) ?_
    obtain ⟨q5, e9, hh⟩ := h
    subst e9
    have h := hh
    clear hh
    refine cq_ist hX hC dX5_emit_23 h.1 h.2.1 h.2.2 (fun S6 H locs hC h => ?_)
    refine lv_aload_n hx hb dX5_emit_24 rfl (lv_at hl 0 rfl) ?_
    refine cq_getr (ci := 5) (k := 2) (f := 29) hX hC rfl in_X5 (by decide) wd_402 (fun _ h9 => h9) (fun _ _ => rfl) dX5_emit_25 h (fun z7 h => ?_)
    refine lv_aload_n hx hb dX5_emit_28 rfl (lv_at hl 0 rfl) ?_
    refine cq_geti (ci := 5) (k := 0) (f := 17) hX hC rfl in_X5 (by decide) wd_395 (fun _ h9 => h9) (fun _ _ => rfl) dX5_emit_29 h (fun z8 h => ?_)
    refine lv_iload_n hx hb dX5_emit_32 rfl (lv_at hl 2 rfl) ?_
    obtain ⟨q9, e9, hh⟩ := h
    subst e9
    have h := hh
    clear hh
    refine cq_ist hX hC dX5_emit_33 h.1 h.2.1 h.2.2 (fun S10 H locs hC h => ?_)
    refine lv_aload_n hx hb dX5_emit_34 rfl (lv_at hl 0 rfl) ?_
    refine cq_getr (ci := 5) (k := 3) (f := 30) hX hC rfl in_X5 (by decide) wd_406 (fun _ h9 => h9) (fun _ _ => rfl) dX5_emit_35 h (fun z11 h => ?_)
    refine lv_aload_n hx hb dX5_emit_38 rfl (lv_at hl 0 rfl) ?_
    refine cq_geti (ci := 5) (k := 0) (f := 17) hX hC rfl in_X5 (by decide) wd_395 (fun _ h9 => h9) (fun _ _ => rfl) dX5_emit_39 h (fun z12 h => ?_)
    refine lv_iload_n hx hb dX5_emit_42 rfl (lv_at hl 3 rfl) ?_
    obtain ⟨q13, e9, hh⟩ := h
    subst e9
    have h := hh
    clear hh
    refine cq_ist hX hC dX5_emit_43 h.1 h.2.1 h.2.2 (fun S14 H locs hC h => ?_)
    refine lv_aload_n hx hb dX5_emit_44 rfl (lv_at hl 0 rfl) ?_
    refine lv_dup hx hb dX5_emit_45 rfl ?_
    refine cq_geti (ci := 5) (k := 0) (f := 17) hX hC rfl in_X5 (by decide) wd_395 (fun _ h9 => h9) (fun _ _ => rfl) dX5_emit_46 h (fun z15 h => ?_)
    refine lv_iconst (v := 1) hx hb dX5_emit_49 (by decide) ?_
    refine lq_iadd hx hb dX5_emit_50 h (fun z16 h => ?_)
    refine cq_puti (v := z16) (ci := 5) (k := 0) (f := 17) hX hC rfl in_X5 (by decide) wd_395 (fun _ h9 => h9) tyX5 tyX5_ok nmX5 rfl rfl rfl (fun _ _ => Nat.le_of_ble_eq_true rfl) (fun _ _ _ => rfl) dX5_emit_51 h.1 h.2 (fun S17 H locs hC h => ?_)
    refine lv_aload_n hx hb dX5_emit_54 rfl (lv_at hl 0 rfl) ?_
    refine cq_geti (ci := 5) (k := 0) (f := 17) hX hC rfl in_X5 (by decide) wd_395 (fun _ h9 => h9) (fun _ _ => rfl) dX5_emit_55 h (fun z18 h => ?_)
    refine lv_iconst (v := 1) hx hb dX5_emit_58 (by decide) ?_
    refine lq_isub hx hb dX5_emit_59 h (fun z19 h => ?_)
    exact hret _ _ _ _ _ _ hC h dX5_emit_60
  · have h := h.2 c2
    refine lv_sipush (v := 8063) hx hb dX5_emit_10 (by decide) ?_
    exact hret _ _ _ _ _ _ hC h dX5_emit_13
def wp_X3_emit (t0 : Nat) (a0 : Int32) (a1 : Int32) (S : kS) (K : kS → Int32 → Prop) : Prop := hasO S t0 3 ∧ ∀ z1 : Option Nat, z1 = S.2.1 15 t0 → hasO S t0 3 ∧ ∀ z2 : Int32, z2 = S.1 8 t0 → ∃ q3 : Nat, z1 = some q3 ∧ hasO S q3 5 ∧ wp_X5_emit q3 a0 a1 z2 S (fun (S4 : kS) (r4 : Int32) => K S4 r4)
theorem cw_X3_96 {R : Room} {s : State} {args : Array Value} {fr lo : Nat} (hts : ∀ w ∈ tb, w.before args s = true) (h1 : fr + 1 ≤ R.frames) (h2 : 8 + (4 + 11) + lo ≤ R.locals) : CallW R s args RX3 RX5 96 yX5_emit cX5_emit 4 (some .int) (.code yX5_emit cX5_emit 4 (some .int) :: tb) (mRm fr lo) 0 0 3 := cwV 3 hts (gd_V wd_671 wd_672 wd_673 wd_13 wd_674) rfl rfl rfl (by decide +kernel) ⟨h1, h2⟩
set_option maxHeartbeats 4000000 in
set_option maxRecDepth 100000 in
theorem kt_X3_emit (l : Launch) (S : kS) (t0 : Nat) (a0 : Int32) (a1 : Int32) (K : kS → Int32 → Prop) (h : wp_X3_emit t0 a0 a1 S K) : kMi l yX3_emit cX3_emit 3 (some .int) 1 23 [.ref t0, .int a0, .int a1] S K := by
  refine kv_ofi (own := RX3) (by decide) rfl (Nat.le_of_ble_eq_true rfl) ?_
  intro E p e R s m args below meth c A ls Q hRf hRl hX hC hl hret
  have hx := hX.1.1
  have hb := hX.1.2.1
  have hown := hX.1.2.2.2.1
  have hts := hX.1.2.2.2.2
  have hl : lv_has ls 3 [(0, .ref t0), (1, .int a0), (2, .int a1)] := hl
  unfold wp_X3_emit at h
  refine lv_aload_n hx hb dX3_emit_0 rfl (lv_at hl 0 rfl) ?_
  refine cq_getr (ci := 3) (k := 1) (f := 15) hX hC rfl in_X3 (by decide) wd_132 (fun _ h9 => h9) (fun _ _ => rfl) dX3_emit_1 h (fun z1 h => ?_)
  refine lv_iload_n hx hb dX3_emit_4 rfl (lv_at hl 1 rfl) ?_
  refine lv_iload_n hx hb dX3_emit_5 rfl (lv_at hl 2 rfl) ?_
  refine lv_aload_n hx hb dX3_emit_6 rfl (lv_at hl 0 rfl) ?_
  refine cq_geti (ci := 3) (k := 5) (f := 8) hX hC rfl in_X3 (by decide) wd_136 (fun _ h9 => h9) (fun _ _ => rfl) dX3_emit_7 h (fun z2 h => ?_)
  obtain ⟨q3, e9, hh⟩ := h
  subst e9
  have h := hh
  clear hh
  refine kv_calli [.int a0, .int a1, .int z2] (rest := []) (ci := 5) rfl hX hC h.1 (kt_X5_emit l S q3 a0 a1 z2 _ h.2 E _) (cw_X3_96 hts (by omega) (by omega)) rfl hl.1 (Nat.le_of_ble_eq_true rfl) ⟨Nat.zero_le _, Nat.zero_le _⟩ dX3_emit_10 (fun r4 S4 H locs hC h => ?_)
  exact hret _ _ _ _ _ _ hC h dX3_emit_13
def wp_X3_take (t0 : Nat) (a0 : Int32) (S : kS) (K : kS → Int32 → Prop) : Prop := hasO S t0 3 ∧ ∀ z1 : Option Nat, z1 = S.2.1 14 t0 → ∃ q2 : Nat, z1 = some q2 ∧ hasO S q2 10 ∧ ∀ z3 : Option Nat, z3 = S.2.1 64 q2 → hasO S t0 3 ∧ ∀ z4 : Int32, z4 = S.1 6 t0 → ∃ q5 : Nat, z3 = some q5 ∧ hasA S q5 4002 0 ∧ inR z4 4002 ∧ ∀ z6 : Int32, z6 = S.2.2.1 q5 (ix z4) → ((¬ z6 = a0 → K S 0) ∧ (z6 = a0 → hasO S t0 3 ∧ ∀ z8 : Int32, z8 = S.1 6 t0 → ∀ z9 : Int32, z9 = z8 + 1 → hasO S t0 3 ∧ ∀ z10 : Option Nat, z10 = S.2.1 14 t0 → ∃ q11 : Nat, z10 = some q11 ∧ hasO S q11 10 ∧ ∀ z12 : Int32, z12 = S.1 40 q11 → ((z9 < z12 → hasO S t0 3 ∧ ∀ z14 : Int32, z14 = S.1 6 t0 → ∀ z15 : Int32, z15 = z14 + 1 → hasO S t0 3 ∧ ∀ S16 : kS, S16 = cI S 6 t0 z15 → K S16 1) ∧ (¬ z9 < z12 → K S 0))))
set_option maxHeartbeats 4000000 in
set_option maxRecDepth 100000 in
theorem kt_X3_take (l : Launch) (S : kS) (t0 : Nat) (a0 : Int32) (K : kS → Int32 → Prop) (h : wp_X3_take t0 a0 S K) : kMi l yX3_take cX3_take 2 (some .boolean) 0 0 [.ref t0, .int a0] S K := by
  refine kv_ofz (own := RX3) (by decide) rfl (Nat.le_of_ble_eq_true rfl) ?_
  intro E p e R s m args below meth c A ls Q hRf hRl hX hC hl hret
  have hx := hX.1.1
  have hb := hX.1.2.1
  have hown := hX.1.2.2.2.1
  have hts := hX.1.2.2.2.2
  have hl : lv_has ls 2 [(0, .ref t0), (1, .int a0)] := hl
  unfold wp_X3_take at h
  refine lv_aload_n hx hb dX3_take_0 rfl (lv_at hl 0 rfl) ?_
  refine cq_getr (ci := 3) (k := 0) (f := 14) hX hC rfl in_X3 (by decide) wd_131 (fun _ h9 => h9) (fun _ _ => rfl) dX3_take_1 h (fun z1 h => ?_)
  obtain ⟨q2, e9, hh⟩ := h
  subst e9
  have h := hh
  clear hh
  refine cq_getr (ci := 10) (k := 0) (f := 64) hX hC rfl in_X10 (by decide) wd_95 (fun _ h9 => h9) (fun _ _ => rfl) dX3_take_4 h (fun z3 h => ?_)
  refine lv_aload_n hx hb dX3_take_7 rfl (lv_at hl 0 rfl) ?_
  refine cq_geti (ci := 3) (k := 3) (f := 6) hX hC rfl in_X3 (by decide) wd_134 (fun _ h9 => h9) (fun _ _ => rfl) dX3_take_8 h (fun z4 h => ?_)
  obtain ⟨q5, e9, hh⟩ := h
  subst e9
  have h := hh
  clear hh
  refine cq_ild hX hC dX3_take_11 h (fun z6 h => ?_)
  refine lv_iload_n hx hb dX3_take_12 rfl (lv_at hl 1 rfl) ?_
  refine lv_icmp_ne (tgt := 32) hx hb dX3_take_13 (by decide) (fun c7 => ?_) (fun c7 => ?_)
  · have h := h.1 c7
    refine lv_iconst (v := 0) hx hb dX3_take_32 (by decide) ?_
    exact hret _ _ _ _ _ _ hC (Or.inl rfl) h dX3_take_33
  · have h := h.2 c7
    refine lv_aload_n hx hb dX3_take_16 rfl (lv_at hl 0 rfl) ?_
    refine cq_geti (ci := 3) (k := 3) (f := 6) hX hC rfl in_X3 (by decide) wd_134 (fun _ h9 => h9) (fun _ _ => rfl) dX3_take_17 h (fun z8 h => ?_)
    refine lv_iconst (v := 1) hx hb dX3_take_20 (by decide) ?_
    refine lq_iadd hx hb dX3_take_21 h (fun z9 h => ?_)
    refine lv_aload_n hx hb dX3_take_22 rfl (lv_at hl 0 rfl) ?_
    refine cq_getr (ci := 3) (k := 0) (f := 14) hX hC rfl in_X3 (by decide) wd_131 (fun _ h9 => h9) (fun _ _ => rfl) dX3_take_23 h (fun z10 h => ?_)
    obtain ⟨q11, e9, hh⟩ := h
    subst e9
    have h := hh
    clear hh
    refine cq_geti (ci := 10) (k := 3) (f := 40) hX hC rfl in_X10 (by decide) wd_101 (fun _ h9 => h9) (fun _ _ => rfl) dX3_take_26 h (fun z12 h => ?_)
    refine lv_icmp_lt (tgt := 34) hx hb dX3_take_29 (by decide) (fun c13 => ?_) (fun c13 => ?_)
    · have h := h.1 c13
      refine lv_aload_n hx hb dX3_take_34 rfl (lv_at hl 0 rfl) ?_
      refine lv_dup hx hb dX3_take_35 rfl ?_
      refine cq_geti (ci := 3) (k := 3) (f := 6) hX hC rfl in_X3 (by decide) wd_134 (fun _ h9 => h9) (fun _ _ => rfl) dX3_take_36 h (fun z14 h => ?_)
      refine lv_iconst (v := 1) hx hb dX3_take_39 (by decide) ?_
      refine lq_iadd hx hb dX3_take_40 h (fun z15 h => ?_)
      refine cq_puti (v := z15) (ci := 3) (k := 3) (f := 6) hX hC rfl in_X3 (by decide) wd_134 (fun _ h9 => h9) tyX3 tyX3_ok nmX3 rfl rfl rfl (fun _ _ => Nat.le_of_ble_eq_true rfl) (fun _ _ _ => rfl) dX3_take_41 h.1 h.2 (fun S16 H locs hC h => ?_)
      refine lv_iconst (v := 1) hx hb dX3_take_44 (by decide) ?_
      exact hret _ _ _ _ _ _ hC (Or.inr rfl) h dX3_take_45
    · have h := h.2 c13
      refine lv_iconst (v := 0) hx hb dX3_take_32 (by decide) ?_
      exact hret _ _ _ _ _ _ hC (Or.inl rfl) h dX3_take_33
def wp_X3_need (t0 : Nat) (a0 : Int32) (S : kS) (K : kS → Prop) : Prop := hasO S t0 3 ∧ wp_X3_take t0 a0 S (fun (S1 : kS) (r1 : Int32) => ((¬ r1 = 0 → K S1) ∧ (r1 = 0 → hasO S1 t0 3 ∧ wp_X3_wrong t0 1 S1 (fun (S3 : kS) => K S3))))
theorem cw_X3_89 {R : Room} {s : State} {args : Array Value} {fr lo : Nat} (hts : ∀ w ∈ tb, w.before args s = true) (h1 : fr + 1 ≤ R.frames) (h2 : 8 + (2 + 11) + lo ≤ R.locals) : CallW R s args RX3 RX3 89 yX3_take cX3_take 2 (some .boolean) (.code yX3_take cX3_take 2 (some .boolean) :: tb) (mRm fr lo) 0 0 1 := cwV 1 hts (gd_V wd_636 wd_638 sl_X3_take wd_7 wd_639) rfl rfl rfl (by decide +kernel) ⟨h1, h2⟩
set_option maxHeartbeats 4000000 in
set_option maxRecDepth 100000 in
theorem kt_X3_need (l : Launch) (S : kS) (t0 : Nat) (a0 : Int32) (K : kS → Prop) (h : wp_X3_need t0 a0 S K) : kMv l yX3_need cX3_need 2 none 1 21 [.ref t0, .int a0] S K := by
  refine kv_ofv (own := RX3) (by decide) rfl (Nat.le_of_ble_eq_true rfl) ?_
  intro E p e R s m args below meth c A ls Q hRf hRl hX hC hl hret
  have hx := hX.1.1
  have hb := hX.1.2.1
  have hown := hX.1.2.2.2.1
  have hts := hX.1.2.2.2.2
  have hl : lv_has ls 2 [(0, .ref t0), (1, .int a0)] := hl
  unfold wp_X3_need at h
  refine lv_aload_n hx hb dX3_need_0 rfl (lv_at hl 0 rfl) ?_
  refine lv_iload_n hx hb dX3_need_1 rfl (lv_at hl 1 rfl) ?_
  refine kv_calli [.int a0] (rest := []) (ci := 3) rfl hX hC h.1 (kt_X3_take l S t0 a0 _ h.2 E _) (cw_X3_89 hts (by omega) (by omega)) rfl hl.1 (Nat.le_of_ble_eq_true rfl) ⟨Nat.zero_le _, Nat.zero_le _⟩ dX3_need_2 (fun r1 S1 H locs hC h => ?_)
  refine lv_if_ne (tgt := 13) hx hb dX3_need_5 (by decide) (fun c2 => ?_) (fun c2 => ?_)
  · have h := h.1 c2
    exact hret _ _ _ _ _ hC h dX3_need_13
  · have h := h.2 c2
    refine lv_aload_n hx hb dX3_need_8 rfl (lv_at hl 0 rfl) ?_
    refine lv_iconst (v := 1) hx hb dX3_need_9 (by decide) ?_
    refine kv_callv [.int 1] (rest := []) (ci := 3) rfl hX hC h.1 (kt_X3_wrong l S1 t0 1 _ h.2 E _) (cw_X3_78 hts (by omega) (by omega)) rfl hl.1 (Nat.le_of_ble_eq_true rfl) ⟨Nat.zero_le _, Nat.zero_le _⟩ dX3_need_10 (fun S3 H locs hC h => ?_)
    exact hret _ _ _ _ _ hC h dX3_need_13
