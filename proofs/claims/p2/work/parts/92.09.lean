theorem wd_139 : (Jvm.Cond.fieldLink "Sleepers$Parser" (59 : Nat) "Sleepers$Parser" "children" "I") ∈ tb := tb_at 139 (by decide +kernel) (by decide +kernel)
theorem wd_632 : (Jvm.Cond.methodLink "Sleepers$Parser" (117 : Nat) ({ cls := "Sleepers$Parser", name := "need", desc := "(I)V" } : Jvm.MethodName)) ∈ tb := tb_at 632 (by decide +kernel) (by decide +kernel)
theorem wd_634 : (Jvm.Cond.instanceMethod ({ cls := "Sleepers$Parser", name := "need", desc := "(I)V" } : Jvm.MethodName)) ∈ tb := tb_at 634 (by decide +kernel) (by decide +kernel)
theorem wd_635 : (Jvm.Cond.code ({ cls := "Sleepers$Parser", name := "need", desc := "(I)V" } : Jvm.MethodName) prog_5_method_6_code (2 : Nat) (Option.none : Option Jvm.ClassFile.FieldType)) ∈ tb := tb_at 635 (by decide +kernel) (by decide +kernel)
theorem wd_667 : (Jvm.Cond.methodLink "Sleepers$Parser" (139 : Nat) ({ cls := "Sleepers$Parser", name := "emit", desc := "(II)I" } : Jvm.MethodName)) ∈ tb := tb_at 667 (by decide +kernel) (by decide +kernel)
theorem wd_669 : (Jvm.Cond.instanceMethod ({ cls := "Sleepers$Parser", name := "emit", desc := "(II)I" } : Jvm.MethodName)) ∈ tb := tb_at 669 (by decide +kernel) (by decide +kernel)
theorem wd_670 : (Jvm.Cond.code ({ cls := "Sleepers$Parser", name := "emit", desc := "(II)I" } : Jvm.MethodName) prog_5_method_8_code (3 : Nat) (Option.some Jvm.ClassFile.FieldType.int)) ∈ tb := tb_at 670 (by decide +kernel) (by decide +kernel)
theorem wd_679 : (Jvm.Cond.methodLink "Sleepers$Parser" (155 : Nat) ({ cls := "Sleepers$Parser", name := "expression", desc := "(I)V" } : Jvm.MethodName)) ∈ tb := tb_at 679 (by decide +kernel) (by decide +kernel)
theorem wd_681 : (Jvm.Cond.instanceMethod ({ cls := "Sleepers$Parser", name := "expression", desc := "(I)V" } : Jvm.MethodName)) ∈ tb := tb_at 681 (by decide +kernel) (by decide +kernel)
theorem wd_682 : (Jvm.Cond.code ({ cls := "Sleepers$Parser", name := "expression", desc := "(I)V" } : Jvm.MethodName) prog_5_method_26_code (3 : Nat) (Option.none : Option Jvm.ClassFile.FieldType)) ∈ tb := tb_at 682 (by decide +kernel) (by decide +kernel)
theorem wd_683 : (Jvm.Cond.methodLink "Sleepers$Parser" (227 : Nat) ({ cls := "Sleepers$Parser", name := "sum", desc := "(I)V" } : Jvm.MethodName)) ∈ tb := tb_at 683 (by decide +kernel) (by decide +kernel)
theorem wd_685 : (Jvm.Cond.instanceMethod ({ cls := "Sleepers$Parser", name := "sum", desc := "(I)V" } : Jvm.MethodName)) ∈ tb := tb_at 685 (by decide +kernel) (by decide +kernel)
theorem wd_686 : (Jvm.Cond.code ({ cls := "Sleepers$Parser", name := "sum", desc := "(I)V" } : Jvm.MethodName) prog_5_method_27_code (4 : Nat) (Option.none : Option Jvm.ClassFile.FieldType)) ∈ tb := tb_at 686 (by decide +kernel) (by decide +kernel)
theorem wd_687 : (Jvm.Cond.methodLink "Sleepers$Parser" (230 : Nat) ({ cls := "Sleepers$Parser", name := "product", desc := "(I)V" } : Jvm.MethodName)) ∈ tb := tb_at 687 (by decide +kernel) (by decide +kernel)
theorem wd_689 : (Jvm.Cond.instanceMethod ({ cls := "Sleepers$Parser", name := "product", desc := "(I)V" } : Jvm.MethodName)) ∈ tb := tb_at 689 (by decide +kernel) (by decide +kernel)
theorem wd_690 : (Jvm.Cond.code ({ cls := "Sleepers$Parser", name := "product", desc := "(I)V" } : Jvm.MethodName) prog_5_method_28_code (4 : Nat) (Option.none : Option Jvm.ClassFile.FieldType)) ∈ tb := tb_at 690 (by decide +kernel) (by decide +kernel)
theorem wd_691 : (Jvm.Cond.methodLink "Sleepers$Parser" (233 : Nat) ({ cls := "Sleepers$Parser", name := "part", desc := "(I)V" } : Jvm.MethodName)) ∈ tb := tb_at 691 (by decide +kernel) (by decide +kernel)
theorem wd_693 : (Jvm.Cond.instanceMethod ({ cls := "Sleepers$Parser", name := "part", desc := "(I)V" } : Jvm.MethodName)) ∈ tb := tb_at 693 (by decide +kernel) (by decide +kernel)
theorem wd_694 : (Jvm.Cond.code ({ cls := "Sleepers$Parser", name := "part", desc := "(I)V" } : Jvm.MethodName) prog_5_method_29_code (5 : Nat) (Option.none : Option Jvm.ClassFile.FieldType)) ∈ tb := tb_at 694 (by decide +kernel) (by decide +kernel)
theorem wd_695 : (Jvm.Cond.methodLink "Sleepers$Parser" (167 : Nat) ({ cls := "Sleepers$Parser", name := "cellHere", desc := "()I" } : Jvm.MethodName)) ∈ tb := tb_at 695 (by decide +kernel) (by decide +kernel)
theorem wd_697 : (Jvm.Cond.instanceMethod ({ cls := "Sleepers$Parser", name := "cellHere", desc := "()I" } : Jvm.MethodName)) ∈ tb := tb_at 697 (by decide +kernel) (by decide +kernel)
theorem wd_698 : (Jvm.Cond.code ({ cls := "Sleepers$Parser", name := "cellHere", desc := "()I" } : Jvm.MethodName) prog_5_method_30_code (2 : Nat) (Option.some Jvm.ClassFile.FieldType.int)) ∈ tb := tb_at 698 (by decide +kernel) (by decide +kernel)
theorem sl_X3_cellHere : Cond.selects RX3 yX3_cellHere yX3_cellHere ∈ tb := sl_of (y := ⟨"Sleepers$Parser", "cellHere", "()I"⟩) (n := 13) (by decide +kernel) (by decide +kernel)
theorem sl_X3_emit : Cond.selects RX3 yX3_emit yX3_emit ∈ tb := sl_of (y := ⟨"Sleepers$Parser", "emit", "(II)I"⟩) (n := 13) (by decide +kernel) (by decide +kernel)
theorem sl_X3_expression : Cond.selects RX3 yX3_expression yX3_expression ∈ tb := sl_of (y := ⟨"Sleepers$Parser", "expression", "(I)V"⟩) (n := 13) (by decide +kernel) (by decide +kernel)
theorem sl_X3_need : Cond.selects RX3 yX3_need yX3_need ∈ tb := sl_of (y := ⟨"Sleepers$Parser", "need", "(I)V"⟩) (n := 13) (by decide +kernel) (by decide +kernel)
theorem sl_X3_part : Cond.selects RX3 yX3_part yX3_part ∈ tb := sl_of (y := ⟨"Sleepers$Parser", "part", "(I)V"⟩) (n := 13) (by decide +kernel) (by decide +kernel)
theorem sl_X3_product : Cond.selects RX3 yX3_product yX3_product ∈ tb := sl_of (y := ⟨"Sleepers$Parser", "product", "(I)V"⟩) (n := 13) (by decide +kernel) (by decide +kernel)
theorem sl_X3_sum : Cond.selects RX3 yX3_sum yX3_sum ∈ tb := sl_of (y := ⟨"Sleepers$Parser", "sum", "(I)V"⟩) (n := 13) (by decide +kernel) (by decide +kernel)
theorem dX3_expression_0 : decode cX3_expression 0 = .ok (.aload_n 0, 1) := by decide +kernel
theorem dX3_expression_1 : decode cX3_expression 1 = .ok (.iload_n 1, 1) := by decide +kernel
theorem dX3_expression_2 : decode cX3_expression 2 = .ok (.invokevirtual 227, 3) := by decide +kernel
theorem dX3_expression_5 : decode cX3_expression 5 = .ok (.aload_n 0, 1) := by decide +kernel
theorem dX3_expression_6 : decode cX3_expression 6 = .ok (.invokevirtual 62, 3) := by decide +kernel
theorem dX3_expression_9 : decode cX3_expression 9 = .ok (.istore_n 2, 1) := by decide +kernel
theorem dX3_expression_10 : decode cX3_expression 10 = .ok (.iload_n 2, 1) := by decide +kernel
theorem dX3_expression_11 : decode cX3_expression 11 = .ok (.bipush 60, 2) := by decide +kernel
theorem dX3_expression_13 : decode cX3_expression 13 = .ok (.if_icmp .eq 9, 3) := by decide +kernel
theorem dX3_expression_16 : decode cX3_expression 16 = .ok (.iload_n 2, 1) := by decide +kernel
theorem dX3_expression_17 : decode cX3_expression 17 = .ok (.bipush 61, 2) := by decide +kernel
theorem dX3_expression_19 : decode cX3_expression 19 = .ok (.if_icmp .ne 31, 3) := by decide +kernel
theorem dX3_expression_22 : decode cX3_expression 22 = .ok (.aload_n 0, 1) := by decide +kernel
theorem dX3_expression_23 : decode cX3_expression 23 = .ok (.invokevirtual 103, 3) := by decide +kernel
theorem dX3_expression_26 : decode cX3_expression 26 = .ok (.aload_n 0, 1) := by decide +kernel
theorem dX3_expression_27 : decode cX3_expression 27 = .ok (.iload_n 1, 1) := by decide +kernel
theorem dX3_expression_28 : decode cX3_expression 28 = .ok (.invokevirtual 227, 3) := by decide +kernel
theorem dX3_expression_31 : decode cX3_expression 31 = .ok (.aload_n 0, 1) := by decide +kernel
theorem dX3_expression_32 : decode cX3_expression 32 = .ok (.iload_n 2, 1) := by decide +kernel
theorem dX3_expression_33 : decode cX3_expression 33 = .ok (.bipush 60, 2) := by decide +kernel
theorem dX3_expression_35 : decode cX3_expression 35 = .ok (.if_icmp .ne 8, 3) := by decide +kernel
theorem dX3_expression_38 : decode cX3_expression 38 = .ok (.bipush 11, 2) := by decide +kernel
theorem dX3_expression_40 : decode cX3_expression 40 = .ok (.goto 5, 3) := by decide +kernel
theorem dX3_expression_43 : decode cX3_expression 43 = .ok (.bipush 12, 2) := by decide +kernel
theorem dX3_expression_45 : decode cX3_expression 45 = .ok (.iconst 0, 1) := by decide +kernel
theorem dX3_expression_46 : decode cX3_expression 46 = .ok (.invokevirtual 139, 3) := by decide +kernel
theorem dX3_expression_49 : decode cX3_expression 49 = .ok (.pop, 1) := by decide +kernel
theorem dX3_expression_50 : decode cX3_expression 50 = .ok (.return_, 1) := by decide +kernel
theorem dX3_keepChild_0 : decode cX3_keepChild 0 = .ok (.aload_n 0, 1) := by decide +kernel
theorem dX3_keepChild_1 : decode cX3_keepChild 1 = .ok (.getfield 59, 3) := by decide +kernel
theorem dX3_keepChild_4 : decode cX3_keepChild 4 = .ok (.sipush 460, 3) := by decide +kernel
theorem dX3_keepChild_7 : decode cX3_keepChild 7 = .ok (.if_icmp .ge 69, 3) := by decide +kernel
theorem dX3_keepChild_10 : decode cX3_keepChild 10 = .ok (.aload_n 0, 1) := by decide +kernel
theorem dX3_keepChild_11 : decode cX3_keepChild 11 = .ok (.getfield 9, 3) := by decide +kernel
theorem dX3_keepChild_14 : decode cX3_keepChild 14 = .ok (.aload_n 0, 1) := by decide +kernel
theorem dX3_keepChild_15 : decode cX3_keepChild 15 = .ok (.getfield 59, 3) := by decide +kernel
theorem dX3_keepChild_18 : decode cX3_keepChild 18 = .ok (.iload_n 3, 1) := by decide +kernel
theorem dX3_keepChild_19 : decode cX3_keepChild 19 = .ok (.iastore, 1) := by decide +kernel
theorem dX3_keepChild_20 : decode cX3_keepChild 20 = .ok (.aload_n 0, 1) := by decide +kernel
theorem dX3_keepChild_21 : decode cX3_keepChild 21 = .ok (.getfield 15, 3) := by decide +kernel
theorem dX3_keepChild_24 : decode cX3_keepChild 24 = .ok (.aload_n 0, 1) := by decide +kernel
theorem dX3_keepChild_25 : decode cX3_keepChild 25 = .ok (.getfield 59, 3) := by decide +kernel
theorem dX3_keepChild_28 : decode cX3_keepChild 28 = .ok (.aload_n 0, 1) := by decide +kernel
theorem dX3_keepChild_29 : decode cX3_keepChild 29 = .ok (.getfield 25, 3) := by decide +kernel
theorem dX3_keepChild_32 : decode cX3_keepChild 32 = .ok (.getfield 93, 3) := by decide +kernel
theorem dX3_keepChild_35 : decode cX3_keepChild 35 = .ok (.iload_n 1, 1) := by decide +kernel
theorem dX3_keepChild_36 : decode cX3_keepChild 36 = .ok (.iaload, 1) := by decide +kernel
theorem dX3_keepChild_37 : decode cX3_keepChild 37 = .ok (.iastore, 1) := by decide +kernel
theorem dX3_keepChild_38 : decode cX3_keepChild 38 = .ok (.aload_n 0, 1) := by decide +kernel
theorem dX3_keepChild_39 : decode cX3_keepChild 39 = .ok (.getfield 21, 3) := by decide +kernel
theorem dX3_keepChild_42 : decode cX3_keepChild 42 = .ok (.aload_n 0, 1) := by decide +kernel
theorem dX3_keepChild_43 : decode cX3_keepChild 43 = .ok (.getfield 59, 3) := by decide +kernel
theorem dX3_keepChild_46 : decode cX3_keepChild 46 = .ok (.aload_n 0, 1) := by decide +kernel
theorem dX3_keepChild_47 : decode cX3_keepChild 47 = .ok (.getfield 25, 3) := by decide +kernel
theorem dX3_keepChild_50 : decode cX3_keepChild 50 = .ok (.getfield 106, 3) := by decide +kernel
theorem dX3_keepChild_53 : decode cX3_keepChild 53 = .ok (.iload_n 1, 1) := by decide +kernel
theorem dX3_keepChild_54 : decode cX3_keepChild 54 = .ok (.laload, 1) := by decide +kernel
theorem dX3_keepChild_55 : decode cX3_keepChild 55 = .ok (.lastore, 1) := by decide +kernel
theorem dX3_keepChild_56 : decode cX3_keepChild 56 = .ok (.aload_n 0, 1) := by decide +kernel
theorem dX3_keepChild_57 : decode cX3_keepChild 57 = .ok (.getfield 18, 3) := by decide +kernel
theorem dX3_keepChild_60 : decode cX3_keepChild 60 = .ok (.aload_n 0, 1) := by decide +kernel
theorem dX3_keepChild_61 : decode cX3_keepChild 61 = .ok (.getfield 59, 3) := by decide +kernel
theorem dX3_keepChild_64 : decode cX3_keepChild 64 = .ok (.iload_n 2, 1) := by decide +kernel
theorem dX3_keepChild_65 : decode cX3_keepChild 65 = .ok (.iastore, 1) := by decide +kernel
theorem dX3_keepChild_66 : decode cX3_keepChild 66 = .ok (.aload_n 0, 1) := by decide +kernel
theorem dX3_keepChild_67 : decode cX3_keepChild 67 = .ok (.dup, 1) := by decide +kernel
theorem dX3_keepChild_68 : decode cX3_keepChild 68 = .ok (.getfield 59, 3) := by decide +kernel
theorem dX3_keepChild_71 : decode cX3_keepChild 71 = .ok (.iconst 1, 1) := by decide +kernel
theorem dX3_keepChild_72 : decode cX3_keepChild 72 = .ok (.iadd, 1) := by decide +kernel
theorem dX3_keepChild_73 : decode cX3_keepChild 73 = .ok (.putfield 59, 3) := by decide +kernel
theorem dX3_keepChild_76 : decode cX3_keepChild 76 = .ok (.return_, 1) := by decide +kernel
theorem dX3_part_0 : decode cX3_part 0 = .ok (.aload_n 0, 1) := by decide +kernel
theorem dX3_part_1 : decode cX3_part 1 = .ok (.invokevirtual 62, 3) := by decide +kernel
theorem dX3_part_4 : decode cX3_part 4 = .ok (.istore_n 2, 1) := by decide +kernel
theorem dX3_part_5 : decode cX3_part 5 = .ok (.iload_n 2, 1) := by decide +kernel
theorem dX3_part_6 : decode cX3_part 6 = .ok (.iconst 2, 1) := by decide +kernel
theorem dX3_part_7 : decode cX3_part 7 = .ok (.if_icmp .eq 27, 3) := by decide +kernel
theorem dX3_part_10 : decode cX3_part 10 = .ok (.iload_n 2, 1) := by decide +kernel
theorem dX3_part_11 : decode cX3_part 11 = .ok (.iconst 3, 1) := by decide +kernel
theorem dX3_part_12 : decode cX3_part 12 = .ok (.if_icmp .eq 22, 3) := by decide +kernel
theorem dX3_part_15 : decode cX3_part 15 = .ok (.iload_n 2, 1) := by decide +kernel
theorem dX3_part_16 : decode cX3_part 16 = .ok (.sipush 220, 3) := by decide +kernel
theorem dX3_part_19 : decode cX3_part 19 = .ok (.if_icmp .eq 15, 3) := by decide +kernel
theorem dX3_part_22 : decode cX3_part 22 = .ok (.iload_n 2, 1) := by decide +kernel
theorem dX3_part_23 : decode cX3_part 23 = .ok (.bipush 40, 2) := by decide +kernel
theorem dX3_part_25 : decode cX3_part 25 = .ok (.if_icmp .eq 9, 3) := by decide +kernel
theorem dX3_part_28 : decode cX3_part 28 = .ok (.iload_n 2, 1) := by decide +kernel
theorem dX3_part_29 : decode cX3_part 29 = .ok (.bipush 45, 2) := by decide +kernel
theorem dX3_part_31 : decode cX3_part 31 = .ok (.if_icmp .ne 7, 3) := by decide +kernel
theorem dX3_part_34 : decode cX3_part 34 = .ok (.iconst 1, 1) := by decide +kernel
theorem dX3_part_35 : decode cX3_part 35 = .ok (.goto 4, 3) := by decide +kernel
theorem dX3_part_38 : decode cX3_part 38 = .ok (.iconst 0, 1) := by decide +kernel
theorem dX3_part_39 : decode cX3_part 39 = .ok (.istore_n 3, 1) := by decide +kernel
theorem dX3_part_40 : decode cX3_part 40 = .ok (.iload_n 3, 1) := by decide +kernel
theorem dX3_part_41 : decode cX3_part 41 = .ok (.ifCond .eq 9, 3) := by decide +kernel
theorem dX3_part_44 : decode cX3_part 44 = .ok (.iload_n 1, 1) := by decide +kernel
theorem dX3_part_45 : decode cX3_part 45 = .ok (.bipush 10, 2) := by decide +kernel
theorem dX3_part_47 : decode cX3_part 47 = .ok (.if_icmp .lt 17, 3) := by decide +kernel
theorem dX3_part_50 : decode cX3_part 50 = .ok (.aload_n 0, 1) := by decide +kernel
theorem dX3_part_51 : decode cX3_part 51 = .ok (.iload_n 3, 1) := by decide +kernel
theorem dX3_part_52 : decode cX3_part 52 = .ok (.ifCond .eq 7, 3) := by decide +kernel
theorem dX3_part_55 : decode cX3_part 55 = .ok (.iconst 5, 1) := by decide +kernel
theorem dX3_part_56 : decode cX3_part 56 = .ok (.goto 4, 3) := by decide +kernel
theorem dX3_part_59 : decode cX3_part 59 = .ok (.iconst 1, 1) := by decide +kernel
theorem dX3_part_60 : decode cX3_part 60 = .ok (.invokevirtual 78, 3) := by decide +kernel
theorem dX3_part_63 : decode cX3_part 63 = .ok (.return_, 1) := by decide +kernel
theorem dX3_part_64 : decode cX3_part 64 = .ok (.iload_n 2, 1) := by decide +kernel
theorem dX3_part_65 : decode cX3_part 65 = .ok (.iconst 3, 1) := by decide +kernel
theorem dX3_part_66 : decode cX3_part 66 = .ok (.if_icmp .ne 14, 3) := by decide +kernel
theorem dX3_part_69 : decode cX3_part 69 = .ok (.aload_n 0, 1) := by decide +kernel
theorem dX3_part_70 : decode cX3_part 70 = .ok (.iconst 3, 1) := by decide +kernel
theorem dX3_part_71 : decode cX3_part 71 = .ok (.aload_n 0, 1) := by decide +kernel
theorem dX3_part_72 : decode cX3_part 72 = .ok (.invokevirtual 167, 3) := by decide +kernel
theorem dX3_part_75 : decode cX3_part 75 = .ok (.invokevirtual 139, 3) := by decide +kernel
theorem dX3_part_78 : decode cX3_part 78 = .ok (.pop, 1) := by decide +kernel
theorem dX3_part_79 : decode cX3_part 79 = .ok (.return_, 1) := by decide +kernel
theorem dX3_part_80 : decode cX3_part 80 = .ok (.aload_n 0, 1) := by decide +kernel
theorem dX3_part_81 : decode cX3_part 81 = .ok (.getfield 25, 3) := by decide +kernel
theorem dX3_part_84 : decode cX3_part 84 = .ok (.getfield 106, 3) := by decide +kernel
theorem dX3_part_87 : decode cX3_part 87 = .ok (.aload_n 0, 1) := by decide +kernel
theorem dX3_part_88 : decode cX3_part 88 = .ok (.getfield 43, 3) := by decide +kernel
theorem dX3_part_91 : decode cX3_part 91 = .ok (.laload, 1) := by decide +kernel
theorem dX3_part_92 : decode cX3_part 92 = .ok (.l2i, 1) := by decide +kernel
theorem dX3_part_93 : decode cX3_part 93 = .ok (.istore 4, 2) := by decide +kernel
theorem dX3_part_95 : decode cX3_part 95 = .ok (.aload_n 0, 1) := by decide +kernel
theorem dX3_part_96 : decode cX3_part 96 = .ok (.invokevirtual 103, 3) := by decide +kernel
theorem dX3_part_99 : decode cX3_part 99 = .ok (.iload_n 2, 1) := by decide +kernel
theorem dX3_part_100 : decode cX3_part 100 = .ok (.iconst 2, 1) := by decide +kernel
theorem dX3_part_101 : decode cX3_part 101 = .ok (.if_icmp .ne 14, 3) := by decide +kernel
theorem dX3_part_104 : decode cX3_part 104 = .ok (.aload_n 0, 1) := by decide +kernel
theorem dX3_part_105 : decode cX3_part 105 = .ok (.iconst 2, 1) := by decide +kernel
theorem dX3_part_106 : decode cX3_part 106 = .ok (.iload 4, 2) := by decide +kernel
theorem dX3_part_108 : decode cX3_part 108 = .ok (.invokevirtual 139, 3) := by decide +kernel
theorem dX3_part_111 : decode cX3_part 111 = .ok (.pop, 1) := by decide +kernel
theorem dX3_part_112 : decode cX3_part 112 = .ok (.goto 70, 3) := by decide +kernel
theorem dX3_part_115 : decode cX3_part 115 = .ok (.iload_n 2, 1) := by decide +kernel
theorem dX3_part_116 : decode cX3_part 116 = .ok (.sipush 220, 3) := by decide +kernel
theorem dX3_part_119 : decode cX3_part 119 = .ok (.if_icmp .ne 13, 3) := by decide +kernel
theorem dX3_part_122 : decode cX3_part 122 = .ok (.aload_n 0, 1) := by decide +kernel
theorem dX3_part_123 : decode cX3_part 123 = .ok (.iconst 4, 1) := by decide +kernel
theorem dX3_part_124 : decode cX3_part 124 = .ok (.iconst 0, 1) := by decide +kernel
theorem dX3_part_125 : decode cX3_part 125 = .ok (.invokevirtual 139, 3) := by decide +kernel
theorem dX3_part_128 : decode cX3_part 128 = .ok (.pop, 1) := by decide +kernel
theorem dX3_part_129 : decode cX3_part 129 = .ok (.goto 53, 3) := by decide +kernel
theorem dX3_part_132 : decode cX3_part 132 = .ok (.iload_n 2, 1) := by decide +kernel
theorem dX3_part_133 : decode cX3_part 133 = .ok (.bipush 40, 2) := by decide +kernel
theorem dX3_part_135 : decode cX3_part 135 = .ok (.if_icmp .ne 26, 3) := by decide +kernel
theorem dX3_part_138 : decode cX3_part 138 = .ok (.aload_n 0, 1) := by decide +kernel
theorem dX3_part_139 : decode cX3_part 139 = .ok (.iconst 1, 1) := by decide +kernel
theorem dX3_part_140 : decode cX3_part 140 = .ok (.iconst 0, 1) := by decide +kernel
theorem dX3_part_141 : decode cX3_part 141 = .ok (.invokevirtual 139, 3) := by decide +kernel
theorem dX3_part_144 : decode cX3_part 144 = .ok (.pop, 1) := by decide +kernel
theorem dX3_part_145 : decode cX3_part 145 = .ok (.aload_n 0, 1) := by decide +kernel
theorem dX3_part_146 : decode cX3_part 146 = .ok (.iload_n 1, 1) := by decide +kernel
theorem dX3_part_147 : decode cX3_part 147 = .ok (.iconst 1, 1) := by decide +kernel
theorem dX3_part_148 : decode cX3_part 148 = .ok (.iadd, 1) := by decide +kernel
theorem dX3_part_149 : decode cX3_part 149 = .ok (.invokevirtual 155, 3) := by decide +kernel
theorem dX3_part_152 : decode cX3_part 152 = .ok (.aload_n 0, 1) := by decide +kernel
theorem dX3_part_153 : decode cX3_part 153 = .ok (.bipush 41, 2) := by decide +kernel
theorem dX3_part_155 : decode cX3_part 155 = .ok (.invokevirtual 117, 3) := by decide +kernel
theorem dX3_part_158 : decode cX3_part 158 = .ok (.goto 24, 3) := by decide +kernel
theorem dX3_part_161 : decode cX3_part 161 = .ok (.aload_n 0, 1) := by decide +kernel
theorem dX3_part_162 : decode cX3_part 162 = .ok (.iconst 1, 1) := by decide +kernel
theorem dX3_part_163 : decode cX3_part 163 = .ok (.iconst 0, 1) := by decide +kernel
theorem dX3_part_164 : decode cX3_part 164 = .ok (.invokevirtual 139, 3) := by decide +kernel
theorem dX3_part_167 : decode cX3_part 167 = .ok (.pop, 1) := by decide +kernel
theorem dX3_part_168 : decode cX3_part 168 = .ok (.aload_n 0, 1) := by decide +kernel
theorem dX3_part_169 : decode cX3_part 169 = .ok (.iload_n 1, 1) := by decide +kernel
theorem dX3_part_170 : decode cX3_part 170 = .ok (.iconst 1, 1) := by decide +kernel
theorem dX3_part_171 : decode cX3_part 171 = .ok (.iadd, 1) := by decide +kernel
theorem dX3_part_172 : decode cX3_part 172 = .ok (.invokevirtual 233, 3) := by decide +kernel
theorem dX3_part_175 : decode cX3_part 175 = .ok (.aload_n 0, 1) := by decide +kernel
theorem dX3_part_176 : decode cX3_part 176 = .ok (.iconst 5, 1) := by decide +kernel
theorem dX3_part_177 : decode cX3_part 177 = .ok (.iconst 0, 1) := by decide +kernel
theorem dX3_part_178 : decode cX3_part 178 = .ok (.invokevirtual 139, 3) := by decide +kernel
theorem dX3_part_181 : decode cX3_part 181 = .ok (.pop, 1) := by decide +kernel
theorem dX3_part_182 : decode cX3_part 182 = .ok (.return_, 1) := by decide +kernel
theorem dX3_product_0 : decode cX3_product 0 = .ok (.aload_n 0, 1) := by decide +kernel
theorem dX3_product_1 : decode cX3_product 1 = .ok (.iload_n 1, 1) := by decide +kernel
theorem dX3_product_2 : decode cX3_product 2 = .ok (.invokevirtual 233, 3) := by decide +kernel
theorem dX3_product_5 : decode cX3_product 5 = .ok (.aload_n 0, 1) := by decide +kernel
theorem dX3_product_6 : decode cX3_product 6 = .ok (.invokevirtual 62, 3) := by decide +kernel
theorem dX3_product_9 : decode cX3_product 9 = .ok (.istore_n 2, 1) := by decide +kernel
theorem dX3_product_10 : decode cX3_product 10 = .ok (.iconst 0, 1) := by decide +kernel
theorem dX3_product_11 : decode cX3_product 11 = .ok (.istore_n 3, 1) := by decide +kernel
theorem dX3_product_12 : decode cX3_product 12 = .ok (.iload_n 3, 1) := by decide +kernel
theorem dX3_product_13 : decode cX3_product 13 = .ok (.sipush 4000, 3) := by decide +kernel
theorem dX3_product_16 : decode cX3_product 16 = .ok (.if_icmp .ge 77, 3) := by decide +kernel
theorem dX3_product_19 : decode cX3_product 19 = .ok (.iload_n 2, 1) := by decide +kernel
theorem dX3_product_20 : decode cX3_product 20 = .ok (.bipush 42, 2) := by decide +kernel
theorem dX3_product_22 : decode cX3_product 22 = .ok (.if_icmp .eq 15, 3) := by decide +kernel
theorem dX3_product_25 : decode cX3_product 25 = .ok (.iload_n 2, 1) := by decide +kernel
theorem dX3_product_26 : decode cX3_product 26 = .ok (.bipush 47, 2) := by decide +kernel
theorem dX3_product_28 : decode cX3_product 28 = .ok (.if_icmp .eq 9, 3) := by decide +kernel
theorem dX3_product_31 : decode cX3_product 31 = .ok (.iload_n 2, 1) := by decide +kernel
theorem dX3_product_32 : decode cX3_product 32 = .ok (.bipush 37, 2) := by decide +kernel
theorem dX3_product_34 : decode cX3_product 34 = .ok (.if_icmp .ne 59, 3) := by decide +kernel
theorem dX3_product_37 : decode cX3_product 37 = .ok (.aload_n 0, 1) := by decide +kernel
theorem dX3_product_38 : decode cX3_product 38 = .ok (.invokevirtual 103, 3) := by decide +kernel
theorem dX3_product_41 : decode cX3_product 41 = .ok (.aload_n 0, 1) := by decide +kernel
theorem dX3_product_42 : decode cX3_product 42 = .ok (.iload_n 1, 1) := by decide +kernel
theorem dX3_product_43 : decode cX3_product 43 = .ok (.invokevirtual 233, 3) := by decide +kernel
theorem dX3_product_46 : decode cX3_product 46 = .ok (.iload_n 2, 1) := by decide +kernel
theorem dX3_product_47 : decode cX3_product 47 = .ok (.bipush 42, 2) := by decide +kernel
theorem dX3_product_49 : decode cX3_product 49 = .ok (.if_icmp .ne 14, 3) := by decide +kernel
theorem dX3_product_52 : decode cX3_product 52 = .ok (.aload_n 0, 1) := by decide +kernel
theorem dX3_product_53 : decode cX3_product 53 = .ok (.bipush 8, 2) := by decide +kernel
theorem dX3_product_55 : decode cX3_product 55 = .ok (.iconst 0, 1) := by decide +kernel
theorem dX3_product_56 : decode cX3_product 56 = .ok (.invokevirtual 139, 3) := by decide +kernel
theorem dX3_product_59 : decode cX3_product 59 = .ok (.pop, 1) := by decide +kernel
theorem dX3_product_60 : decode cX3_product 60 = .ok (.goto 22, 3) := by decide +kernel
theorem dX3_product_63 : decode cX3_product 63 = .ok (.aload_n 0, 1) := by decide +kernel
theorem dX3_product_64 : decode cX3_product 64 = .ok (.iload_n 2, 1) := by decide +kernel
theorem dX3_product_65 : decode cX3_product 65 = .ok (.bipush 47, 2) := by decide +kernel
theorem dX3_product_67 : decode cX3_product 67 = .ok (.if_icmp .ne 8, 3) := by decide +kernel
theorem dX3_product_70 : decode cX3_product 70 = .ok (.bipush 9, 2) := by decide +kernel
theorem dX3_product_72 : decode cX3_product 72 = .ok (.goto 5, 3) := by decide +kernel
theorem dX3_product_75 : decode cX3_product 75 = .ok (.bipush 10, 2) := by decide +kernel
theorem dX3_product_77 : decode cX3_product 77 = .ok (.iconst 0, 1) := by decide +kernel
theorem dX3_product_78 : decode cX3_product 78 = .ok (.invokevirtual 139, 3) := by decide +kernel
theorem dX3_product_81 : decode cX3_product 81 = .ok (.pop, 1) := by decide +kernel
theorem dX3_product_82 : decode cX3_product 82 = .ok (.aload_n 0, 1) := by decide +kernel
theorem dX3_product_83 : decode cX3_product 83 = .ok (.invokevirtual 62, 3) := by decide +kernel
theorem dX3_product_86 : decode cX3_product 86 = .ok (.istore_n 2, 1) := by decide +kernel
theorem dX3_product_87 : decode cX3_product 87 = .ok (.iinc 3 1, 3) := by decide +kernel
theorem dX3_product_90 : decode cX3_product 90 = .ok (.goto (-78), 3) := by decide +kernel
theorem dX3_product_93 : decode cX3_product 93 = .ok (.return_, 1) := by decide +kernel
theorem dX3_startsWait_0 : decode cX3_startsWait 0 = .ok (.iload_n 0, 1) := by decide +kernel
theorem dX3_startsWait_1 : decode cX3_startsWait 1 = .ok (.sipush 213, 3) := by decide +kernel
theorem dX3_startsWait_4 : decode cX3_startsWait 4 = .ok (.if_icmp .lt 14, 3) := by decide +kernel
theorem dX3_startsWait_7 : decode cX3_startsWait 7 = .ok (.iload_n 0, 1) := by decide +kernel
theorem dX3_startsWait_8 : decode cX3_startsWait 8 = .ok (.sipush 219, 3) := by decide +kernel
theorem dX3_startsWait_11 : decode cX3_startsWait 11 = .ok (.if_icmp .gt 7, 3) := by decide +kernel
theorem dX3_startsWait_14 : decode cX3_startsWait 14 = .ok (.iconst 1, 1) := by decide +kernel
theorem dX3_startsWait_15 : decode cX3_startsWait 15 = .ok (.goto 4, 3) := by decide +kernel
theorem dX3_startsWait_18 : decode cX3_startsWait 18 = .ok (.iconst 0, 1) := by decide +kernel
theorem dX3_startsWait_19 : decode cX3_startsWait 19 = .ok (.ireturn, 1) := by decide +kernel
theorem dX3_sum_0 : decode cX3_sum 0 = .ok (.aload_n 0, 1) := by decide +kernel
theorem dX3_sum_1 : decode cX3_sum 1 = .ok (.iload_n 1, 1) := by decide +kernel
theorem dX3_sum_2 : decode cX3_sum 2 = .ok (.invokevirtual 230, 3) := by decide +kernel
theorem dX3_sum_5 : decode cX3_sum 5 = .ok (.aload_n 0, 1) := by decide +kernel
theorem dX3_sum_6 : decode cX3_sum 6 = .ok (.invokevirtual 62, 3) := by decide +kernel
theorem dX3_sum_9 : decode cX3_sum 9 = .ok (.istore_n 2, 1) := by decide +kernel
theorem dX3_sum_10 : decode cX3_sum 10 = .ok (.iconst 0, 1) := by decide +kernel
theorem dX3_sum_11 : decode cX3_sum 11 = .ok (.istore_n 3, 1) := by decide +kernel
theorem dX3_sum_12 : decode cX3_sum 12 = .ok (.iload_n 3, 1) := by decide +kernel
theorem dX3_sum_13 : decode cX3_sum 13 = .ok (.sipush 4000, 3) := by decide +kernel
theorem dX3_sum_16 : decode cX3_sum 16 = .ok (.if_icmp .ge 54, 3) := by decide +kernel
theorem dX3_sum_19 : decode cX3_sum 19 = .ok (.iload_n 2, 1) := by decide +kernel
theorem dX3_sum_20 : decode cX3_sum 20 = .ok (.bipush 43, 2) := by decide +kernel
theorem dX3_sum_22 : decode cX3_sum 22 = .ok (.if_icmp .eq 9, 3) := by decide +kernel
theorem dX3_sum_25 : decode cX3_sum 25 = .ok (.iload_n 2, 1) := by decide +kernel
theorem dX3_sum_26 : decode cX3_sum 26 = .ok (.bipush 45, 2) := by decide +kernel
theorem dX3_sum_28 : decode cX3_sum 28 = .ok (.if_icmp .ne 42, 3) := by decide +kernel
theorem dX3_sum_31 : decode cX3_sum 31 = .ok (.aload_n 0, 1) := by decide +kernel
theorem dX3_sum_32 : decode cX3_sum 32 = .ok (.invokevirtual 103, 3) := by decide +kernel
theorem dX3_sum_35 : decode cX3_sum 35 = .ok (.aload_n 0, 1) := by decide +kernel
theorem dX3_sum_36 : decode cX3_sum 36 = .ok (.iload_n 1, 1) := by decide +kernel
theorem dX3_sum_37 : decode cX3_sum 37 = .ok (.invokevirtual 230, 3) := by decide +kernel
theorem dX3_sum_40 : decode cX3_sum 40 = .ok (.aload_n 0, 1) := by decide +kernel
theorem dX3_sum_41 : decode cX3_sum 41 = .ok (.iload_n 2, 1) := by decide +kernel
theorem dX3_sum_42 : decode cX3_sum 42 = .ok (.bipush 43, 2) := by decide +kernel
theorem dX3_sum_44 : decode cX3_sum 44 = .ok (.if_icmp .ne 8, 3) := by decide +kernel
theorem dX3_sum_47 : decode cX3_sum 47 = .ok (.bipush 6, 2) := by decide +kernel
theorem dX3_sum_49 : decode cX3_sum 49 = .ok (.goto 5, 3) := by decide +kernel
theorem dX3_sum_52 : decode cX3_sum 52 = .ok (.bipush 7, 2) := by decide +kernel
theorem dX3_sum_54 : decode cX3_sum 54 = .ok (.iconst 0, 1) := by decide +kernel
theorem dX3_sum_55 : decode cX3_sum 55 = .ok (.invokevirtual 139, 3) := by decide +kernel
theorem dX3_sum_58 : decode cX3_sum 58 = .ok (.pop, 1) := by decide +kernel
theorem dX3_sum_59 : decode cX3_sum 59 = .ok (.aload_n 0, 1) := by decide +kernel
theorem dX3_sum_60 : decode cX3_sum 60 = .ok (.invokevirtual 62, 3) := by decide +kernel
theorem dX3_sum_63 : decode cX3_sum 63 = .ok (.istore_n 2, 1) := by decide +kernel
theorem dX3_sum_64 : decode cX3_sum 64 = .ok (.iinc 3 1, 3) := by decide +kernel
theorem dX3_sum_67 : decode cX3_sum 67 = .ok (.goto (-55), 3) := by decide +kernel
theorem dX3_sum_70 : decode cX3_sum 70 = .ok (.return_, 1) := by decide +kernel
def wp_X3_product_82 (r_X3_part : Nat → Int32 → kS → (kS → Prop) → Prop) (K : kS → Prop) (k12 : Nat × Int32 × Int32 × Int32 × kS → Prop) (x0 : Nat) (x1 : Int32) (x3 : Int32) (S : kS) : Prop := hasO S x0 3 ∧ wp_X3_kind x0 S (fun (S12 : kS) (r12 : Int32) => ∀ z13 : Int32, z13 = x3 + 1 → k12 (x0, x1, r12, z13, S12))
def wp_X3_product_77 (r_X3_part : Nat → Int32 → kS → (kS → Prop) → Prop) (K : kS → Prop) (k12 : Nat × Int32 × Int32 × Int32 × kS → Prop) (x0 : Nat) (x1 : Int32) (x3 : Int32) (y0 : Nat) (y1 : Int32) (S : kS) : Prop := hasO S y0 3 ∧ wp_X3_emit y0 y1 0 S (fun (S14 : kS) (r14 : Int32) => wp_X3_product_82 r_X3_part K k12 x0 x1 x3 S14)
def wp_X3_product_37 (r_X3_part : Nat → Int32 → kS → (kS → Prop) → Prop) (K : kS → Prop) (k12 : Nat × Int32 × Int32 × Int32 × kS → Prop) (x0 : Nat) (x1 : Int32) (x2 : Int32) (x3 : Int32) (S : kS) : Prop := hasO S x0 3 ∧ wp_X3_step x0 S (fun (S7 : kS) => hasO S7 x0 3 ∧ r_X3_part x0 x1 S7 (fun (S8 : kS) => ((¬ x2 = 42 → ((¬ x2 = 47 → wp_X3_product_77 r_X3_part K k12 x0 x1 x3 x0 10 S8) ∧ (x2 = 47 → wp_X3_product_77 r_X3_part K k12 x0 x1 x3 x0 9 S8))) ∧ (x2 = 42 → hasO S8 x0 3 ∧ wp_X3_emit x0 8 0 S8 (fun (S11 : kS) (r11 : Int32) => wp_X3_product_82 r_X3_part K k12 x0 x1 x3 S11)))))
def wp_X3_product_12 (r_X3_part : Nat → Int32 → kS → (kS → Prop) → Prop) (K : kS → Prop) (k12 : Nat × Int32 × Int32 × Int32 × kS → Prop) (x0 : Nat) (x1 : Int32) (x2 : Int32) (x3 : Int32) (S : kS) : Prop := ((4000 ≤ x3 → K S) ∧ (¬ 4000 ≤ x3 → ((x2 = 42 → wp_X3_product_37 r_X3_part K k12 x0 x1 x2 x3 S) ∧ (¬ x2 = 42 → ((x2 = 47 → wp_X3_product_37 r_X3_part K k12 x0 x1 x2 x3 S) ∧ (¬ x2 = 47 → ((¬ x2 = 37 → K S) ∧ (x2 = 37 → wp_X3_product_37 r_X3_part K k12 x0 x1 x2 x3 S))))))))
def ls_X3_product_12 (r_X3_part : Nat → Int32 → kS → (kS → Prop) → Prop) (K : kS → Prop) (k12 : Nat × Int32 × Int32 × Int32 × kS → Prop) (u : Nat × Int32 × Int32 × Int32 × kS) : Prop := wp_X3_product_12 r_X3_part K k12 u.1 u.2.1 u.2.2.1 u.2.2.2.1 u.2.2.2.2
def wp_X3_product (r_X3_part : Nat → Int32 → kS → (kS → Prop) → Prop) (t0 : Nat) (a0 : Int32) (S : kS) (K : kS → Prop) : Prop := hasO S t0 3 ∧ r_X3_part t0 a0 S (fun (S1 : kS) => hasO S1 t0 3 ∧ wp_X3_kind t0 S1 (fun (S2 : kS) (r2 : Int32) => (∃ n9, it (ls_X3_product_12 r_X3_part K) n9 (t0, a0, r2, 0, S2))))
theorem cw_X3_233 {R : Room} {s : State} {args : Array Value} {fr lo : Nat} (hts : ∀ w ∈ tb, w.before args s = true) (h1 : fr + 1 ≤ R.frames) (h2 : 8 + (5 + 11) + lo ≤ R.locals) : CallW R s args RX3 RX3 233 yX3_part cX3_part 5 none (.code yX3_part cX3_part 5 none :: tb) (mRm fr lo) 0 0 1 := cwV 1 hts (gd_V wd_691 wd_693 sl_X3_part wd_7 wd_694) rfl rfl rfl (by decide +kernel) ⟨h1, h2⟩
theorem cw_X3_139 {R : Room} {s : State} {args : Array Value} {fr lo : Nat} (hts : ∀ w ∈ tb, w.before args s = true) (h1 : fr + 1 ≤ R.frames) (h2 : 8 + (3 + 11) + lo ≤ R.locals) : CallW R s args RX3 RX3 139 yX3_emit cX3_emit 3 (some .int) (.code yX3_emit cX3_emit 3 (some .int) :: tb) (mRm fr lo) 0 0 2 := cwV 2 hts (gd_V wd_667 wd_669 sl_X3_emit wd_7 wd_670) rfl rfl rfl (by decide +kernel) ⟨h1, h2⟩
set_option maxHeartbeats 4000000 in
set_option maxRecDepth 100000 in
theorem ko_X3_product (l : Launch) (fr lo F Lo : Nat) (r_X3_part : Nat → Int32 → kS → (kS → Prop) → Prop) (hr_X3_part : ∀ (t0 : Nat) (a0 : Int32) (S : kS) (K : kS → Prop), r_X3_part t0 a0 S K → kMv l yX3_part cX3_part 5 none fr lo [.ref t0, .int a0] S K) (hF : fr + 1 ≤ F) (hL : lo + 24 ≤ Lo) (hF0 : 2 ≤ F) (hL0 : 45 ≤ Lo) (S : kS) (t0 : Nat) (a0 : Int32) (K : kS → Prop) (h : wp_X3_product r_X3_part t0 a0 S K) : kMv l yX3_product cX3_product 4 none F Lo [.ref t0, .int a0] S K := by
  refine kv_ofv (own := RX3) (by decide) rfl (Nat.le_of_ble_eq_true rfl) ?_
  intro E p e R s m args below meth c A ls Q hRf hRl hX hC hl hret
  have hx := hX.1.1
  have hb := hX.1.2.1
  have hown := hX.1.2.2.2.1
  have hts := hX.1.2.2.2.2
  have cut12 : ∀ (n12 : Nat) (x0 : Nat) (x1 : Int32) (x2 : Int32) (x3 : Int32) (S : kS) (H : Heap) (locs : List Loc) (ls : Array Slot), it (ls_X3_product_12 r_X3_part K) n12 (x0, x1, x2, x3, S) → cM E A s.heap S H locs → lv_has ls 4 [(0, .ref x0), (1, .int x1), (2, .int x2), (3, .int x3)] → W p l e R s m args below meth c H locs 0 0 Q (F0 m 12 ls []) := by
    intro n12
    induction n12 with
    | zero => intro x0 x1 x2 x3 S H locs ls h hC hl; exact h.elim
    | succ n12 ih12 =>
      have cut82 : ∀ (x0 : Nat) (x1 : Int32) (x3 : Int32) (S : kS) (H : Heap) (locs : List Loc) (ls : Array Slot), wp_X3_product_82 r_X3_part K (it (ls_X3_product_12 r_X3_part K) n12) x0 x1 x3 S → cM E A s.heap S H locs → lv_has ls 4 [(0, .ref x0), (1, .int x1), (3, .int x3)] → W p l e R s m args below meth c H locs 0 0 Q (F0 m 82 ls []) := by
        intro x0 x1 x3 S H locs ls h hC hl
        unfold wp_X3_product_82 at h
        refine lv_aload_n hx hb dX3_product_82 rfl (lv_at hl 0 rfl) ?_
        refine kv_calli [] (rest := []) (ci := 3) rfl hX hC h.1 (kt_X3_kind l S x0 _ h.2 E _) (cw_X3_62 hts (by omega) (by omega)) rfl hl.1 (Nat.le_of_ble_eq_true rfl) ⟨Nat.zero_le _, Nat.zero_le _⟩ dX3_product_83 (fun r12 S12 H locs hC h => ?_)
        refine lv_istore_n (lv' := [(2, .int r12), (0, .ref x0), (1, .int x1), (3, .int x3)]) hx hb dX3_product_86 rfl hl (by decide) rfl (fun ls hl => ?_)
        obtain ⟨z13, ez13⟩ : ∃ y : Int32, y = x3 + 1 := ⟨_, rfl⟩
        have h := h z13 ez13
        refine lv_iinc (v := z13) (lv' := [(3, .int z13), (2, .int r12), (0, .ref x0), (1, .int x1)]) hx hb dX3_product_87 hl (k := 3) rfl (by rw [ez13]; rfl) (by decide) rfl (fun ls hl => ?_)
        refine lv_goto (tgt := 12) hx hb dX3_product_90 (by decide) ?_
        exact ih12 x0 x1 r12 z13 S12 _ _ _ h hC (lv_sub hl [2, 3, 1, 0] rfl)
      have cut77 : ∀ (x0 : Nat) (x1 : Int32) (x3 : Int32) (y0 : Nat) (y1 : Int32) (S : kS) (H : Heap) (locs : List Loc) (ls : Array Slot), wp_X3_product_77 r_X3_part K (it (ls_X3_product_12 r_X3_part K) n12) x0 x1 x3 y0 y1 S → cM E A s.heap S H locs → lv_has ls 4 [(0, .ref x0), (1, .int x1), (3, .int x3)] → W p l e R s m args below meth c H locs 0 0 Q (F0 m 77 ls [.int y1, .ref y0]) := by
        intro x0 x1 x3 y0 y1 S H locs ls h hC hl
        unfold wp_X3_product_77 at h
        refine lv_iconst (v := 0) hx hb dX3_product_77 (by decide) ?_
        refine kv_calli [.int y1, .int 0] (rest := []) (ci := 3) rfl hX hC h.1 (kt_X3_emit l S y0 y1 0 _ h.2 E _) (cw_X3_139 hts (by omega) (by omega)) rfl hl.1 (Nat.le_of_ble_eq_true rfl) ⟨Nat.zero_le _, Nat.zero_le _⟩ dX3_product_78 (fun r14 S14 H locs hC h => ?_)
        refine lv_pop hx hb dX3_product_81 rfl ?_
        exact cut82 x0 x1 x3 S14 _ _ _ h hC (lv_sub hl [0, 1, 2] rfl)
      have cut37 : ∀ (x0 : Nat) (x1 : Int32) (x2 : Int32) (x3 : Int32) (S : kS) (H : Heap) (locs : List Loc) (ls : Array Slot), wp_X3_product_37 r_X3_part K (it (ls_X3_product_12 r_X3_part K) n12) x0 x1 x2 x3 S → cM E A s.heap S H locs → lv_has ls 4 [(0, .ref x0), (1, .int x1), (2, .int x2), (3, .int x3)] → W p l e R s m args below meth c H locs 0 0 Q (F0 m 37 ls []) := by
        intro x0 x1 x2 x3 S H locs ls h hC hl
        unfold wp_X3_product_37 at h
        refine lv_aload_n hx hb dX3_product_37 rfl (lv_at hl 0 rfl) ?_
        refine kv_callv [] (rest := []) (ci := 3) rfl hX hC h.1 (kt_X3_step l S x0 _ h.2 E _) (cw_X3_103 hts (by omega) (by omega)) rfl hl.1 (Nat.le_of_ble_eq_true rfl) ⟨Nat.zero_le _, Nat.zero_le _⟩ dX3_product_38 (fun S7 H locs hC h => ?_)
        refine lv_aload_n hx hb dX3_product_41 rfl (lv_at hl 0 rfl) ?_
        refine lv_iload_n hx hb dX3_product_42 rfl (lv_at hl 1 rfl) ?_
        refine kv_callv [.int x1] (rest := []) (ci := 3) rfl hX hC h.1 (hr_X3_part x0 x1 S7 _ h.2 E _) (cw_X3_233 hts (by omega) (by omega)) rfl hl.1 (Nat.le_of_ble_eq_true rfl) ⟨Nat.zero_le _, Nat.zero_le _⟩ dX3_product_43 (fun S8 H locs hC h => ?_)
        refine lv_iload_n hx hb dX3_product_46 rfl (lv_at hl 2 rfl) ?_
        refine lv_bipush (v := 42) hx hb dX3_product_47 (by decide) ?_
        refine lv_icmp_ne (tgt := 63) hx hb dX3_product_49 (by decide) (fun c9 => ?_) (fun c9 => ?_)
        · have h := h.1 c9
          refine lv_aload_n hx hb dX3_product_63 rfl (lv_at hl 0 rfl) ?_
          refine lv_iload_n hx hb dX3_product_64 rfl (lv_at hl 2 rfl) ?_
          refine lv_bipush (v := 47) hx hb dX3_product_65 (by decide) ?_
          refine lv_icmp_ne (tgt := 75) hx hb dX3_product_67 (by decide) (fun c10 => ?_) (fun c10 => ?_)
          · have h := h.1 c10
            refine lv_bipush (v := 10) hx hb dX3_product_75 (by decide) ?_
            exact cut77 x0 x1 x3 x0 10 S8 _ _ _ h hC (lv_sub hl [0, 1, 3] rfl)
          · have h := h.2 c10
            refine lv_bipush (v := 9) hx hb dX3_product_70 (by decide) ?_
            refine lv_goto (tgt := 77) hx hb dX3_product_72 (by decide) ?_
            exact cut77 x0 x1 x3 x0 9 S8 _ _ _ h hC (lv_sub hl [0, 1, 3] rfl)
        · have h := h.2 c9
          refine lv_aload_n hx hb dX3_product_52 rfl (lv_at hl 0 rfl) ?_
          refine lv_bipush (v := 8) hx hb dX3_product_53 (by decide) ?_
          refine lv_iconst (v := 0) hx hb dX3_product_55 (by decide) ?_
          refine kv_calli [.int 8, .int 0] (rest := []) (ci := 3) rfl hX hC h.1 (kt_X3_emit l S8 x0 8 0 _ h.2 E _) (cw_X3_139 hts (by omega) (by omega)) rfl hl.1 (Nat.le_of_ble_eq_true rfl) ⟨Nat.zero_le _, Nat.zero_le _⟩ dX3_product_56 (fun r11 S11 H locs hC h => ?_)
          refine lv_pop hx hb dX3_product_59 rfl ?_
          refine lv_goto (tgt := 82) hx hb dX3_product_60 (by decide) ?_
          exact cut82 x0 x1 x3 S11 _ _ _ h hC (lv_sub hl [0, 1, 3] rfl)
      intro x0 x1 x2 x3 S H locs ls h hC hl
      have h : wp_X3_product_12 r_X3_part K (it (ls_X3_product_12 r_X3_part K) n12) x0 x1 x2 x3 S := h
      unfold wp_X3_product_12 at h
      refine lv_iload_n hx hb dX3_product_12 rfl (lv_at hl 3 rfl) ?_
      refine lv_sipush (v := 4000) hx hb dX3_product_13 (by decide) ?_
      refine lv_icmp_ge (tgt := 93) hx hb dX3_product_16 (by decide) (fun c3 => ?_) (fun c3 => ?_)
      · have h := h.1 c3
        exact hret _ _ _ _ _ hC h dX3_product_93
      · have h := h.2 c3
        refine lv_iload_n hx hb dX3_product_19 rfl (lv_at hl 2 rfl) ?_
        refine lv_bipush (v := 42) hx hb dX3_product_20 (by decide) ?_
        refine lv_icmp_eq (tgt := 37) hx hb dX3_product_22 (by decide) (fun c4 => ?_) (fun c4 => ?_)
        · have h := h.1 c4
          exact cut37 x0 x1 x2 x3 S _ _ _ h hC (lv_sub hl [0, 1, 2, 3] rfl)
        · have h := h.2 c4
          refine lv_iload_n hx hb dX3_product_25 rfl (lv_at hl 2 rfl) ?_
          refine lv_bipush (v := 47) hx hb dX3_product_26 (by decide) ?_
          refine lv_icmp_eq (tgt := 37) hx hb dX3_product_28 (by decide) (fun c5 => ?_) (fun c5 => ?_)
          · have h := h.1 c5
            exact cut37 x0 x1 x2 x3 S _ _ _ h hC (lv_sub hl [0, 1, 2, 3] rfl)
          · have h := h.2 c5
            refine lv_iload_n hx hb dX3_product_31 rfl (lv_at hl 2 rfl) ?_
            refine lv_bipush (v := 37) hx hb dX3_product_32 (by decide) ?_
            refine lv_icmp_ne (tgt := 93) hx hb dX3_product_34 (by decide) (fun c6 => ?_) (fun c6 => ?_)
            · have h := h.1 c6
              exact hret _ _ _ _ _ hC h dX3_product_93
            · have h := h.2 c6
              exact cut37 x0 x1 x2 x3 S _ _ _ h hC (lv_sub hl [0, 1, 2, 3] rfl)
  have hl : lv_has ls 4 [(0, .ref t0), (1, .int a0)] := hl
  unfold wp_X3_product at h
  refine lv_aload_n hx hb dX3_product_0 rfl (lv_at hl 0 rfl) ?_
  refine lv_iload_n hx hb dX3_product_1 rfl (lv_at hl 1 rfl) ?_
  refine kv_callv [.int a0] (rest := []) (ci := 3) rfl hX hC h.1 (hr_X3_part t0 a0 S _ h.2 E _) (cw_X3_233 hts (by omega) (by omega)) rfl hl.1 (Nat.le_of_ble_eq_true rfl) ⟨Nat.zero_le _, Nat.zero_le _⟩ dX3_product_2 (fun S1 H locs hC h => ?_)
  refine lv_aload_n hx hb dX3_product_5 rfl (lv_at hl 0 rfl) ?_
  refine kv_calli [] (rest := []) (ci := 3) rfl hX hC h.1 (kt_X3_kind l S1 t0 _ h.2 E _) (cw_X3_62 hts (by omega) (by omega)) rfl hl.1 (Nat.le_of_ble_eq_true rfl) ⟨Nat.zero_le _, Nat.zero_le _⟩ dX3_product_6 (fun r2 S2 H locs hC h => ?_)
  refine lv_istore_n (lv' := [(2, .int r2), (0, .ref t0), (1, .int a0)]) hx hb dX3_product_9 rfl hl (by decide) rfl (fun ls hl => ?_)
  refine lv_iconst (v := 0) hx hb dX3_product_10 (by decide) ?_
  refine lv_istore_n (lv' := [(3, .int 0), (2, .int r2), (0, .ref t0), (1, .int a0)]) hx hb dX3_product_11 rfl hl (by decide) rfl (fun ls hl => ?_)
  obtain ⟨n9, h⟩ := h
  exact cut12 n9 t0 a0 r2 0 S2 _ _ _ h hC (lv_sub hl [2, 3, 1, 0] rfl)
def wp_X3_sum_54 (r_X3_part : Nat → Int32 → kS → (kS → Prop) → Prop) (K : kS → Prop) (k12 : Nat × Int32 × Int32 × Int32 × kS → Prop) (x0 : Nat) (x1 : Int32) (x3 : Int32) (y0 : Nat) (y1 : Int32) (S : kS) : Prop := hasO S y0 3 ∧ wp_X3_emit y0 y1 0 S (fun (S9 : kS) (r9 : Int32) => hasO S9 x0 3 ∧ wp_X3_kind x0 S9 (fun (S10 : kS) (r10 : Int32) => ∀ z11 : Int32, z11 = x3 + 1 → k12 (x0, x1, r10, z11, S10)))
def wp_X3_sum_31 (r_X3_part : Nat → Int32 → kS → (kS → Prop) → Prop) (K : kS → Prop) (k12 : Nat × Int32 × Int32 × Int32 × kS → Prop) (x0 : Nat) (x1 : Int32) (x2 : Int32) (x3 : Int32) (S : kS) : Prop := hasO S x0 3 ∧ wp_X3_step x0 S (fun (S6 : kS) => hasO S6 x0 3 ∧ wp_X3_product r_X3_part x0 x1 S6 (fun (S7 : kS) => ((¬ x2 = 43 → wp_X3_sum_54 r_X3_part K k12 x0 x1 x3 x0 7 S7) ∧ (x2 = 43 → wp_X3_sum_54 r_X3_part K k12 x0 x1 x3 x0 6 S7))))
def wp_X3_sum_12 (r_X3_part : Nat → Int32 → kS → (kS → Prop) → Prop) (K : kS → Prop) (k12 : Nat × Int32 × Int32 × Int32 × kS → Prop) (x0 : Nat) (x1 : Int32) (x2 : Int32) (x3 : Int32) (S : kS) : Prop := ((4000 ≤ x3 → K S) ∧ (¬ 4000 ≤ x3 → ((x2 = 43 → wp_X3_sum_31 r_X3_part K k12 x0 x1 x2 x3 S) ∧ (¬ x2 = 43 → ((¬ x2 = 45 → K S) ∧ (x2 = 45 → wp_X3_sum_31 r_X3_part K k12 x0 x1 x2 x3 S))))))
def ls_X3_sum_12 (r_X3_part : Nat → Int32 → kS → (kS → Prop) → Prop) (K : kS → Prop) (k12 : Nat × Int32 × Int32 × Int32 × kS → Prop) (u : Nat × Int32 × Int32 × Int32 × kS) : Prop := wp_X3_sum_12 r_X3_part K k12 u.1 u.2.1 u.2.2.1 u.2.2.2.1 u.2.2.2.2
def wp_X3_sum (r_X3_part : Nat → Int32 → kS → (kS → Prop) → Prop) (t0 : Nat) (a0 : Int32) (S : kS) (K : kS → Prop) : Prop := hasO S t0 3 ∧ wp_X3_product r_X3_part t0 a0 S (fun (S1 : kS) => hasO S1 t0 3 ∧ wp_X3_kind t0 S1 (fun (S2 : kS) (r2 : Int32) => (∃ n9, it (ls_X3_sum_12 r_X3_part K) n9 (t0, a0, r2, 0, S2))))
theorem cw_X3_230 {R : Room} {s : State} {args : Array Value} {fr lo : Nat} (hts : ∀ w ∈ tb, w.before args s = true) (h1 : fr + 1 ≤ R.frames) (h2 : 8 + (4 + 11) + lo ≤ R.locals) : CallW R s args RX3 RX3 230 yX3_product cX3_product 4 none (.code yX3_product cX3_product 4 none :: tb) (mRm fr lo) 0 0 1 := cwV 1 hts (gd_V wd_687 wd_689 sl_X3_product wd_7 wd_690) rfl rfl rfl (by decide +kernel) ⟨h1, h2⟩
set_option maxHeartbeats 4000000 in
set_option maxRecDepth 100000 in
theorem ko_X3_sum (l : Launch) (fr lo F Lo : Nat) (r_X3_part : Nat → Int32 → kS → (kS → Prop) → Prop) (hr_X3_part : ∀ (t0 : Nat) (a0 : Int32) (S : kS) (K : kS → Prop), r_X3_part t0 a0 S K → kMv l yX3_part cX3_part 5 none fr lo [.ref t0, .int a0] S K) (hF : fr + 2 ≤ F) (hL : lo + 47 ≤ Lo) (hF0 : 3 ≤ F) (hL0 : 68 ≤ Lo) (S : kS) (t0 : Nat) (a0 : Int32) (K : kS → Prop) (h : wp_X3_sum r_X3_part t0 a0 S K) : kMv l yX3_sum cX3_sum 4 none F Lo [.ref t0, .int a0] S K := by
  refine kv_ofv (own := RX3) (by decide) rfl (Nat.le_of_ble_eq_true rfl) ?_
  intro E p e R s m args below meth c A ls Q hRf hRl hX hC hl hret
  have hx := hX.1.1
  have hb := hX.1.2.1
  have hown := hX.1.2.2.2.1
  have hts := hX.1.2.2.2.2
  have cut12 : ∀ (n12 : Nat) (x0 : Nat) (x1 : Int32) (x2 : Int32) (x3 : Int32) (S : kS) (H : Heap) (locs : List Loc) (ls : Array Slot), it (ls_X3_sum_12 r_X3_part K) n12 (x0, x1, x2, x3, S) → cM E A s.heap S H locs → lv_has ls 4 [(0, .ref x0), (1, .int x1), (2, .int x2), (3, .int x3)] → W p l e R s m args below meth c H locs 0 0 Q (F0 m 12 ls []) := by
    intro n12
    induction n12 with
    | zero => intro x0 x1 x2 x3 S H locs ls h hC hl; exact h.elim
    | succ n12 ih12 =>
      have cut54 : ∀ (x0 : Nat) (x1 : Int32) (x3 : Int32) (y0 : Nat) (y1 : Int32) (S : kS) (H : Heap) (locs : List Loc) (ls : Array Slot), wp_X3_sum_54 r_X3_part K (it (ls_X3_sum_12 r_X3_part K) n12) x0 x1 x3 y0 y1 S → cM E A s.heap S H locs → lv_has ls 4 [(0, .ref x0), (1, .int x1), (3, .int x3)] → W p l e R s m args below meth c H locs 0 0 Q (F0 m 54 ls [.int y1, .ref y0]) := by
        intro x0 x1 x3 y0 y1 S H locs ls h hC hl
        unfold wp_X3_sum_54 at h
        refine lv_iconst (v := 0) hx hb dX3_sum_54 (by decide) ?_
        refine kv_calli [.int y1, .int 0] (rest := []) (ci := 3) rfl hX hC h.1 (kt_X3_emit l S y0 y1 0 _ h.2 E _) (cw_X3_139 hts (by omega) (by omega)) rfl hl.1 (Nat.le_of_ble_eq_true rfl) ⟨Nat.zero_le _, Nat.zero_le _⟩ dX3_sum_55 (fun r9 S9 H locs hC h => ?_)
        refine lv_pop hx hb dX3_sum_58 rfl ?_
        refine lv_aload_n hx hb dX3_sum_59 rfl (lv_at hl 0 rfl) ?_
        refine kv_calli [] (rest := []) (ci := 3) rfl hX hC h.1 (kt_X3_kind l S9 x0 _ h.2 E _) (cw_X3_62 hts (by omega) (by omega)) rfl hl.1 (Nat.le_of_ble_eq_true rfl) ⟨Nat.zero_le _, Nat.zero_le _⟩ dX3_sum_60 (fun r10 S10 H locs hC h => ?_)
        refine lv_istore_n (lv' := [(2, .int r10), (0, .ref x0), (1, .int x1), (3, .int x3)]) hx hb dX3_sum_63 rfl hl (by decide) rfl (fun ls hl => ?_)
        obtain ⟨z11, ez11⟩ : ∃ y : Int32, y = x3 + 1 := ⟨_, rfl⟩
        have h := h z11 ez11
        refine lv_iinc (v := z11) (lv' := [(3, .int z11), (2, .int r10), (0, .ref x0), (1, .int x1)]) hx hb dX3_sum_64 hl (k := 3) rfl (by rw [ez11]; rfl) (by decide) rfl (fun ls hl => ?_)
        refine lv_goto (tgt := 12) hx hb dX3_sum_67 (by decide) ?_
        exact ih12 x0 x1 r10 z11 S10 _ _ _ h hC (lv_sub hl [2, 3, 1, 0] rfl)
      have cut31 : ∀ (x0 : Nat) (x1 : Int32) (x2 : Int32) (x3 : Int32) (S : kS) (H : Heap) (locs : List Loc) (ls : Array Slot), wp_X3_sum_31 r_X3_part K (it (ls_X3_sum_12 r_X3_part K) n12) x0 x1 x2 x3 S → cM E A s.heap S H locs → lv_has ls 4 [(0, .ref x0), (1, .int x1), (2, .int x2), (3, .int x3)] → W p l e R s m args below meth c H locs 0 0 Q (F0 m 31 ls []) := by
        intro x0 x1 x2 x3 S H locs ls h hC hl
        unfold wp_X3_sum_31 at h
        refine lv_aload_n hx hb dX3_sum_31 rfl (lv_at hl 0 rfl) ?_
        refine kv_callv [] (rest := []) (ci := 3) rfl hX hC h.1 (kt_X3_step l S x0 _ h.2 E _) (cw_X3_103 hts (by omega) (by omega)) rfl hl.1 (Nat.le_of_ble_eq_true rfl) ⟨Nat.zero_le _, Nat.zero_le _⟩ dX3_sum_32 (fun S6 H locs hC h => ?_)
        refine lv_aload_n hx hb dX3_sum_35 rfl (lv_at hl 0 rfl) ?_
        refine lv_iload_n hx hb dX3_sum_36 rfl (lv_at hl 1 rfl) ?_
        refine kv_callv [.int x1] (rest := []) (ci := 3) rfl hX hC h.1 (ko_X3_product l fr lo (max (fr + 1) 2) (max (lo + 24) 45) r_X3_part hr_X3_part (Nat.le_max_left _ _) (Nat.le_max_left _ _) (Nat.le_max_right _ _) (Nat.le_max_right _ _) S6 x0 x1 _ h.2 E _) (cw_X3_230 hts (by omega) (by omega)) rfl hl.1 (Nat.le_of_ble_eq_true rfl) ⟨Nat.zero_le _, Nat.zero_le _⟩ dX3_sum_37 (fun S7 H locs hC h => ?_)
        refine lv_aload_n hx hb dX3_sum_40 rfl (lv_at hl 0 rfl) ?_
        refine lv_iload_n hx hb dX3_sum_41 rfl (lv_at hl 2 rfl) ?_
        refine lv_bipush (v := 43) hx hb dX3_sum_42 (by decide) ?_
        refine lv_icmp_ne (tgt := 52) hx hb dX3_sum_44 (by decide) (fun c8 => ?_) (fun c8 => ?_)
        · have h := h.1 c8
          refine lv_bipush (v := 7) hx hb dX3_sum_52 (by decide) ?_
          exact cut54 x0 x1 x3 x0 7 S7 _ _ _ h hC (lv_sub hl [0, 1, 3] rfl)
        · have h := h.2 c8
          refine lv_bipush (v := 6) hx hb dX3_sum_47 (by decide) ?_
          refine lv_goto (tgt := 54) hx hb dX3_sum_49 (by decide) ?_
          exact cut54 x0 x1 x3 x0 6 S7 _ _ _ h hC (lv_sub hl [0, 1, 3] rfl)
      intro x0 x1 x2 x3 S H locs ls h hC hl
      have h : wp_X3_sum_12 r_X3_part K (it (ls_X3_sum_12 r_X3_part K) n12) x0 x1 x2 x3 S := h
      unfold wp_X3_sum_12 at h
      refine lv_iload_n hx hb dX3_sum_12 rfl (lv_at hl 3 rfl) ?_
      refine lv_sipush (v := 4000) hx hb dX3_sum_13 (by decide) ?_
      refine lv_icmp_ge (tgt := 70) hx hb dX3_sum_16 (by decide) (fun c3 => ?_) (fun c3 => ?_)
      · have h := h.1 c3
        exact hret _ _ _ _ _ hC h dX3_sum_70
      · have h := h.2 c3
        refine lv_iload_n hx hb dX3_sum_19 rfl (lv_at hl 2 rfl) ?_
        refine lv_bipush (v := 43) hx hb dX3_sum_20 (by decide) ?_
        refine lv_icmp_eq (tgt := 31) hx hb dX3_sum_22 (by decide) (fun c4 => ?_) (fun c4 => ?_)
        · have h := h.1 c4
          exact cut31 x0 x1 x2 x3 S _ _ _ h hC (lv_sub hl [0, 1, 2, 3] rfl)
        · have h := h.2 c4
          refine lv_iload_n hx hb dX3_sum_25 rfl (lv_at hl 2 rfl) ?_
          refine lv_bipush (v := 45) hx hb dX3_sum_26 (by decide) ?_
          refine lv_icmp_ne (tgt := 70) hx hb dX3_sum_28 (by decide) (fun c5 => ?_) (fun c5 => ?_)
          · have h := h.1 c5
            exact hret _ _ _ _ _ hC h dX3_sum_70
          · have h := h.2 c5
            exact cut31 x0 x1 x2 x3 S _ _ _ h hC (lv_sub hl [0, 1, 2, 3] rfl)
  have hl : lv_has ls 4 [(0, .ref t0), (1, .int a0)] := hl
  unfold wp_X3_sum at h
  refine lv_aload_n hx hb dX3_sum_0 rfl (lv_at hl 0 rfl) ?_
  refine lv_iload_n hx hb dX3_sum_1 rfl (lv_at hl 1 rfl) ?_
  refine kv_callv [.int a0] (rest := []) (ci := 3) rfl hX hC h.1 (ko_X3_product l fr lo (max (fr + 1) 2) (max (lo + 24) 45) r_X3_part hr_X3_part (Nat.le_max_left _ _) (Nat.le_max_left _ _) (Nat.le_max_right _ _) (Nat.le_max_right _ _) S t0 a0 _ h.2 E _) (cw_X3_230 hts (by omega) (by omega)) rfl hl.1 (Nat.le_of_ble_eq_true rfl) ⟨Nat.zero_le _, Nat.zero_le _⟩ dX3_sum_2 (fun S1 H locs hC h => ?_)
  refine lv_aload_n hx hb dX3_sum_5 rfl (lv_at hl 0 rfl) ?_
  refine kv_calli [] (rest := []) (ci := 3) rfl hX hC h.1 (kt_X3_kind l S1 t0 _ h.2 E _) (cw_X3_62 hts (by omega) (by omega)) rfl hl.1 (Nat.le_of_ble_eq_true rfl) ⟨Nat.zero_le _, Nat.zero_le _⟩ dX3_sum_6 (fun r2 S2 H locs hC h => ?_)
  refine lv_istore_n (lv' := [(2, .int r2), (0, .ref t0), (1, .int a0)]) hx hb dX3_sum_9 rfl hl (by decide) rfl (fun ls hl => ?_)
  refine lv_iconst (v := 0) hx hb dX3_sum_10 (by decide) ?_
  refine lv_istore_n (lv' := [(3, .int 0), (2, .int r2), (0, .ref t0), (1, .int a0)]) hx hb dX3_sum_11 rfl hl (by decide) rfl (fun ls hl => ?_)
  obtain ⟨n9, h⟩ := h
  exact cut12 n9 t0 a0 r2 0 S2 _ _ _ h hC (lv_sub hl [2, 3, 1, 0] rfl)
def wp_X3_expression_45 (r_X3_part : Nat → Int32 → kS → (kS → Prop) → Prop) (K : kS → Prop) (y0 : Nat) (y1 : Int32) (S : kS) : Prop := hasO S y0 3 ∧ wp_X3_emit y0 y1 0 S (fun (S8 : kS) (r8 : Int32) => K S8)
def wp_X3_expression_22 (r_X3_part : Nat → Int32 → kS → (kS → Prop) → Prop) (K : kS → Prop) (x0 : Nat) (x1 : Int32) (x2 : Int32) (S : kS) : Prop := hasO S x0 3 ∧ wp_X3_step x0 S (fun (S5 : kS) => hasO S5 x0 3 ∧ wp_X3_sum r_X3_part x0 x1 S5 (fun (S6 : kS) => ((¬ x2 = 60 → wp_X3_expression_45 r_X3_part K x0 12 S6) ∧ (x2 = 60 → wp_X3_expression_45 r_X3_part K x0 11 S6))))
def wp_X3_expression (r_X3_part : Nat → Int32 → kS → (kS → Prop) → Prop) (t0 : Nat) (a0 : Int32) (S : kS) (K : kS → Prop) : Prop := hasO S t0 3 ∧ wp_X3_sum r_X3_part t0 a0 S (fun (S1 : kS) => hasO S1 t0 3 ∧ wp_X3_kind t0 S1 (fun (S2 : kS) (r2 : Int32) => ((r2 = 60 → wp_X3_expression_22 r_X3_part K t0 a0 r2 S2) ∧ (¬ r2 = 60 → ((¬ r2 = 61 → K S2) ∧ (r2 = 61 → wp_X3_expression_22 r_X3_part K t0 a0 r2 S2))))))
theorem cw_X3_227 {R : Room} {s : State} {args : Array Value} {fr lo : Nat} (hts : ∀ w ∈ tb, w.before args s = true) (h1 : fr + 1 ≤ R.frames) (h2 : 8 + (4 + 11) + lo ≤ R.locals) : CallW R s args RX3 RX3 227 yX3_sum cX3_sum 4 none (.code yX3_sum cX3_sum 4 none :: tb) (mRm fr lo) 0 0 1 := cwV 1 hts (gd_V wd_683 wd_685 sl_X3_sum wd_7 wd_686) rfl rfl rfl (by decide +kernel) ⟨h1, h2⟩
set_option maxHeartbeats 4000000 in
set_option maxRecDepth 100000 in
theorem ko_X3_expression (l : Launch) (fr lo F Lo : Nat) (r_X3_part : Nat → Int32 → kS → (kS → Prop) → Prop) (hr_X3_part : ∀ (t0 : Nat) (a0 : Int32) (S : kS) (K : kS → Prop), r_X3_part t0 a0 S K → kMv l yX3_part cX3_part 5 none fr lo [.ref t0, .int a0] S K) (hF : fr + 3 ≤ F) (hL : lo + 70 ≤ Lo) (hF0 : 4 ≤ F) (hL0 : 91 ≤ Lo) (S : kS) (t0 : Nat) (a0 : Int32) (K : kS → Prop) (h : wp_X3_expression r_X3_part t0 a0 S K) : kMv l yX3_expression cX3_expression 3 none F Lo [.ref t0, .int a0] S K := by
  refine kv_ofv (own := RX3) (by decide) rfl (Nat.le_of_ble_eq_true rfl) ?_
  intro E p e R s m args below meth c A ls Q hRf hRl hX hC hl hret
  have hx := hX.1.1
  have hb := hX.1.2.1
  have hown := hX.1.2.2.2.1
  have hts := hX.1.2.2.2.2
  have cut45 : ∀ (y0 : Nat) (y1 : Int32) (S : kS) (H : Heap) (locs : List Loc) (ls : Array Slot), wp_X3_expression_45 r_X3_part K y0 y1 S → cM E A s.heap S H locs → lv_has ls 3 [] → W p l e R s m args below meth c H locs 0 0 Q (F0 m 45 ls [.int y1, .ref y0]) := by
    intro y0 y1 S H locs ls h hC hl
    unfold wp_X3_expression_45 at h
    refine lv_iconst (v := 0) hx hb dX3_expression_45 (by decide) ?_
    refine kv_calli [.int y1, .int 0] (rest := []) (ci := 3) rfl hX hC h.1 (kt_X3_emit l S y0 y1 0 _ h.2 E _) (cw_X3_139 hts (by omega) (by omega)) rfl hl.1 (Nat.le_of_ble_eq_true rfl) ⟨Nat.zero_le _, Nat.zero_le _⟩ dX3_expression_46 (fun r8 S8 H locs hC h => ?_)
    refine lv_pop hx hb dX3_expression_49 rfl ?_
    exact hret _ _ _ _ _ hC h dX3_expression_50
  have cut22 : ∀ (x0 : Nat) (x1 : Int32) (x2 : Int32) (S : kS) (H : Heap) (locs : List Loc) (ls : Array Slot), wp_X3_expression_22 r_X3_part K x0 x1 x2 S → cM E A s.heap S H locs → lv_has ls 3 [(0, .ref x0), (1, .int x1), (2, .int x2)] → W p l e R s m args below meth c H locs 0 0 Q (F0 m 22 ls []) := by
    intro x0 x1 x2 S H locs ls h hC hl
    unfold wp_X3_expression_22 at h
    refine lv_aload_n hx hb dX3_expression_22 rfl (lv_at hl 0 rfl) ?_
    refine kv_callv [] (rest := []) (ci := 3) rfl hX hC h.1 (kt_X3_step l S x0 _ h.2 E _) (cw_X3_103 hts (by omega) (by omega)) rfl hl.1 (Nat.le_of_ble_eq_true rfl) ⟨Nat.zero_le _, Nat.zero_le _⟩ dX3_expression_23 (fun S5 H locs hC h => ?_)
    refine lv_aload_n hx hb dX3_expression_26 rfl (lv_at hl 0 rfl) ?_
    refine lv_iload_n hx hb dX3_expression_27 rfl (lv_at hl 1 rfl) ?_
    refine kv_callv [.int x1] (rest := []) (ci := 3) rfl hX hC h.1 (ko_X3_sum l fr lo (max (fr + 2) 3) (max (lo + 47) 68) r_X3_part hr_X3_part (Nat.le_max_left _ _) (Nat.le_max_left _ _) (Nat.le_max_right _ _) (Nat.le_max_right _ _) S5 x0 x1 _ h.2 E _) (cw_X3_227 hts (by omega) (by omega)) rfl hl.1 (Nat.le_of_ble_eq_true rfl) ⟨Nat.zero_le _, Nat.zero_le _⟩ dX3_expression_28 (fun S6 H locs hC h => ?_)
    refine lv_aload_n hx hb dX3_expression_31 rfl (lv_at hl 0 rfl) ?_
    refine lv_iload_n hx hb dX3_expression_32 rfl (lv_at hl 2 rfl) ?_
    refine lv_bipush (v := 60) hx hb dX3_expression_33 (by decide) ?_
    refine lv_icmp_ne (tgt := 43) hx hb dX3_expression_35 (by decide) (fun c7 => ?_) (fun c7 => ?_)
    · have h := h.1 c7
      refine lv_bipush (v := 12) hx hb dX3_expression_43 (by decide) ?_
      exact cut45 x0 12 S6 _ _ _ h hC (lv_sub hl [] rfl)
    · have h := h.2 c7
      refine lv_bipush (v := 11) hx hb dX3_expression_38 (by decide) ?_
      refine lv_goto (tgt := 45) hx hb dX3_expression_40 (by decide) ?_
      exact cut45 x0 11 S6 _ _ _ h hC (lv_sub hl [] rfl)
  have hl : lv_has ls 3 [(0, .ref t0), (1, .int a0)] := hl
  unfold wp_X3_expression at h
  refine lv_aload_n hx hb dX3_expression_0 rfl (lv_at hl 0 rfl) ?_
  refine lv_iload_n hx hb dX3_expression_1 rfl (lv_at hl 1 rfl) ?_
  refine kv_callv [.int a0] (rest := []) (ci := 3) rfl hX hC h.1 (ko_X3_sum l fr lo (max (fr + 2) 3) (max (lo + 47) 68) r_X3_part hr_X3_part (Nat.le_max_left _ _) (Nat.le_max_left _ _) (Nat.le_max_right _ _) (Nat.le_max_right _ _) S t0 a0 _ h.2 E _) (cw_X3_227 hts (by omega) (by omega)) rfl hl.1 (Nat.le_of_ble_eq_true rfl) ⟨Nat.zero_le _, Nat.zero_le _⟩ dX3_expression_2 (fun S1 H locs hC h => ?_)
  refine lv_aload_n hx hb dX3_expression_5 rfl (lv_at hl 0 rfl) ?_
  refine kv_calli [] (rest := []) (ci := 3) rfl hX hC h.1 (kt_X3_kind l S1 t0 _ h.2 E _) (cw_X3_62 hts (by omega) (by omega)) rfl hl.1 (Nat.le_of_ble_eq_true rfl) ⟨Nat.zero_le _, Nat.zero_le _⟩ dX3_expression_6 (fun r2 S2 H locs hC h => ?_)
  refine lv_istore_n (lv' := [(2, .int r2), (0, .ref t0), (1, .int a0)]) hx hb dX3_expression_9 rfl hl (by decide) rfl (fun ls hl => ?_)
  refine lv_iload_n hx hb dX3_expression_10 rfl (lv_at hl 0 rfl) ?_
  refine lv_bipush (v := 60) hx hb dX3_expression_11 (by decide) ?_
  refine lv_icmp_eq (tgt := 22) hx hb dX3_expression_13 (by decide) (fun c3 => ?_) (fun c3 => ?_)
  · have h := h.1 c3
    exact cut22 t0 a0 r2 S2 _ _ _ h hC (lv_sub hl [1, 2, 0] rfl)
  · have h := h.2 c3
    refine lv_iload_n hx hb dX3_expression_16 rfl (lv_at hl 0 rfl) ?_
    refine lv_bipush (v := 61) hx hb dX3_expression_17 (by decide) ?_
    refine lv_icmp_ne (tgt := 50) hx hb dX3_expression_19 (by decide) (fun c4 => ?_) (fun c4 => ?_)
    · have h := h.1 c4
      exact hret _ _ _ _ _ hC h dX3_expression_50
    · have h := h.2 c4
      exact cut22 t0 a0 r2 S2 _ _ _ h hC (lv_sub hl [1, 2, 0] rfl)
def wp_X3_part_60 (r_X3_part : Nat → Int32 → kS → (kS → Prop) → Prop) (K : kS → Prop) (y0 : Nat) (y1 : Int32) (S : kS) : Prop := hasO S y0 3 ∧ wp_X3_wrong y0 y1 S (fun (S34 : kS) => K S34)
def wp_X3_part_50 (r_X3_part : Nat → Int32 → kS → (kS → Prop) → Prop) (K : kS → Prop) (x0 : Nat) (x3 : Int32) (S : kS) : Prop := ((x3 = 0 → wp_X3_part_60 r_X3_part K x0 1 S) ∧ (¬ x3 = 0 → wp_X3_part_60 r_X3_part K x0 5 S))
def wp_X3_part_39 (r_X3_part : Nat → Int32 → kS → (kS → Prop) → Prop) (K : kS → Prop) (x0 : Nat) (x1 : Int32) (x2 : Int32) (y0 : Int32) (S : kS) : Prop := ((y0 = 0 → wp_X3_part_50 r_X3_part K x0 y0 S) ∧ (¬ y0 = 0 → ((x1 < 10 → ((¬ x2 = 3 → hasO S x0 3 ∧ ∀ z10 : Option Nat, z10 = S.2.1 14 x0 → ∃ q11 : Nat, z10 = some q11 ∧ hasO S q11 10 ∧ ∀ z12 : Option Nat, z12 = S.2.1 66 q11 → hasO S x0 3 ∧ ∀ z13 : Int32, z13 = S.1 6 x0 → ∃ q14 : Nat, z12 = some q14 ∧ hasA S q14 4002 1 ∧ inR z13 4002 ∧ ∀ z15 : Int64, z15 = S.2.2.2.1 q14 (ix z13) → ∀ z16 : Int32, z16 = Int64.toInt32 z15 → hasO S x0 3 ∧ wp_X3_step x0 S (fun (S17 : kS) => ((¬ x2 = 2 → ((¬ x2 = 220 → ((¬ x2 = 40 → hasO S17 x0 3 ∧ wp_X3_emit x0 1 0 S17 (fun (S21 : kS) (r21 : Int32) => ∀ z22 : Int32, z22 = x1 + 1 → hasO S21 x0 3 ∧ r_X3_part x0 z22 S21 (fun (S23 : kS) => hasO S23 x0 3 ∧ wp_X3_emit x0 5 0 S23 (fun (S24 : kS) (r24 : Int32) => K S24)))) ∧ (x2 = 40 → hasO S17 x0 3 ∧ wp_X3_emit x0 1 0 S17 (fun (S25 : kS) (r25 : Int32) => ∀ z26 : Int32, z26 = x1 + 1 → hasO S25 x0 3 ∧ wp_X3_expression r_X3_part x0 z26 S25 (fun (S27 : kS) => hasO S27 x0 3 ∧ wp_X3_need x0 41 S27 (fun (S28 : kS) => K S28)))))) ∧ (x2 = 220 → hasO S17 x0 3 ∧ wp_X3_emit x0 4 0 S17 (fun (S29 : kS) (r29 : Int32) => K S29)))) ∧ (x2 = 2 → hasO S17 x0 3 ∧ wp_X3_emit x0 2 z16 S17 (fun (S30 : kS) (r30 : Int32) => K S30))))) ∧ (x2 = 3 → hasO S x0 3 ∧ wp_X3_cellHere x0 S (fun (S31 : kS) (r31 : Int32) => hasO S31 x0 3 ∧ wp_X3_emit x0 3 r31 S31 (fun (S32 : kS) (r32 : Int32) => K S32))))) ∧ (¬ x1 < 10 → wp_X3_part_50 r_X3_part K x0 y0 S))))
def wp_X3_part_34 (r_X3_part : Nat → Int32 → kS → (kS → Prop) → Prop) (K : kS → Prop) (x0 : Nat) (x1 : Int32) (x2 : Int32) (S : kS) : Prop := wp_X3_part_39 r_X3_part K x0 x1 x2 1 S
def wp_X3_part (r_X3_part : Nat → Int32 → kS → (kS → Prop) → Prop) (t0 : Nat) (a0 : Int32) (S : kS) (K : kS → Prop) : Prop := hasO S t0 3 ∧ wp_X3_kind t0 S (fun (S1 : kS) (r1 : Int32) => ((r1 = 2 → wp_X3_part_34 r_X3_part K t0 a0 r1 S1) ∧ (¬ r1 = 2 → ((r1 = 3 → wp_X3_part_34 r_X3_part K t0 a0 r1 S1) ∧ (¬ r1 = 3 → ((r1 = 220 → wp_X3_part_34 r_X3_part K t0 a0 r1 S1) ∧ (¬ r1 = 220 → ((r1 = 40 → wp_X3_part_34 r_X3_part K t0 a0 r1 S1) ∧ (¬ r1 = 40 → ((¬ r1 = 45 → wp_X3_part_39 r_X3_part K t0 a0 r1 0 S1) ∧ (r1 = 45 → wp_X3_part_34 r_X3_part K t0 a0 r1 S1)))))))))))
theorem cw_X3_155 {R : Room} {s : State} {args : Array Value} {fr lo : Nat} (hts : ∀ w ∈ tb, w.before args s = true) (h1 : fr + 1 ≤ R.frames) (h2 : 8 + (3 + 11) + lo ≤ R.locals) : CallW R s args RX3 RX3 155 yX3_expression cX3_expression 3 none (.code yX3_expression cX3_expression 3 none :: tb) (mRm fr lo) 0 0 1 := cwV 1 hts (gd_V wd_679 wd_681 sl_X3_expression wd_7 wd_682) rfl rfl rfl (by decide +kernel) ⟨h1, h2⟩
theorem cw_X3_117 {R : Room} {s : State} {args : Array Value} {fr lo : Nat} (hts : ∀ w ∈ tb, w.before args s = true) (h1 : fr + 1 ≤ R.frames) (h2 : 8 + (2 + 11) + lo ≤ R.locals) : CallW R s args RX3 RX3 117 yX3_need cX3_need 2 none (.code yX3_need cX3_need 2 none :: tb) (mRm fr lo) 0 0 1 := cwV 1 hts (gd_V wd_632 wd_634 sl_X3_need wd_7 wd_635) rfl rfl rfl (by decide +kernel) ⟨h1, h2⟩
theorem cw_X3_167 {R : Room} {s : State} {args : Array Value} {fr lo : Nat} (hts : ∀ w ∈ tb, w.before args s = true) (h1 : fr + 1 ≤ R.frames) (h2 : 8 + (2 + 11) + lo ≤ R.locals) : CallW R s args RX3 RX3 167 yX3_cellHere cX3_cellHere 2 (some .int) (.code yX3_cellHere cX3_cellHere 2 (some .int) :: tb) (mRm fr lo) 0 0 0 := cwV 0 hts (gd_V wd_695 wd_697 sl_X3_cellHere wd_7 wd_698) rfl rfl rfl (by decide +kernel) ⟨h1, h2⟩
set_option maxHeartbeats 4000000 in
set_option maxRecDepth 100000 in
theorem ko_X3_part (l : Launch) (fr lo F Lo : Nat) (r_X3_part : Nat → Int32 → kS → (kS → Prop) → Prop) (hr_X3_part : ∀ (t0 : Nat) (a0 : Int32) (S : kS) (K : kS → Prop), r_X3_part t0 a0 S K → kMv l yX3_part cX3_part 5 none fr lo [.ref t0, .int a0] S K) (hF : fr + 4 ≤ F) (hL : lo + 92 ≤ Lo) (hF0 : 5 ≤ F) (hL0 : 113 ≤ Lo) (S : kS) (t0 : Nat) (a0 : Int32) (K : kS → Prop) (h : wp_X3_part r_X3_part t0 a0 S K) : kMv l yX3_part cX3_part 5 none F Lo [.ref t0, .int a0] S K := by
  refine kv_ofv (own := RX3) (by decide) rfl (Nat.le_of_ble_eq_true rfl) ?_
  intro E p e R s m args below meth c A ls Q hRf hRl hX hC hl hret
  have hx := hX.1.1
  have hb := hX.1.2.1
  have hown := hX.1.2.2.2.1
  have hts := hX.1.2.2.2.2
  have cut60 : ∀ (y0 : Nat) (y1 : Int32) (S : kS) (H : Heap) (locs : List Loc) (ls : Array Slot), wp_X3_part_60 r_X3_part K y0 y1 S → cM E A s.heap S H locs → lv_has ls 5 [] → W p l e R s m args below meth c H locs 0 0 Q (F0 m 60 ls [.int y1, .ref y0]) := by
    intro y0 y1 S H locs ls h hC hl
    unfold wp_X3_part_60 at h
    refine kv_callv [.int y1] (rest := []) (ci := 3) rfl hX hC h.1 (kt_X3_wrong l S y0 y1 _ h.2 E _) (cw_X3_78 hts (by omega) (by omega)) rfl hl.1 (Nat.le_of_ble_eq_true rfl) ⟨Nat.zero_le _, Nat.zero_le _⟩ dX3_part_60 (fun S34 H locs hC h => ?_)
    exact hret _ _ _ _ _ hC h dX3_part_63
  have cut50 : ∀ (x0 : Nat) (x3 : Int32) (S : kS) (H : Heap) (locs : List Loc) (ls : Array Slot), wp_X3_part_50 r_X3_part K x0 x3 S → cM E A s.heap S H locs → lv_has ls 5 [(0, .ref x0), (3, .int x3)] → W p l e R s m args below meth c H locs 0 0 Q (F0 m 50 ls []) := by
    intro x0 x3 S H locs ls h hC hl
    unfold wp_X3_part_50 at h
    refine lv_aload_n hx hb dX3_part_50 rfl (lv_at hl 0 rfl) ?_
    refine lv_iload_n hx hb dX3_part_51 rfl (lv_at hl 1 rfl) ?_
    refine lv_if_eq (tgt := 59) hx hb dX3_part_52 (by decide) (fun c33 => ?_) (fun c33 => ?_)
    · have h := h.1 c33
      refine lv_iconst (v := 1) hx hb dX3_part_59 (by decide) ?_
      exact cut60 x0 1 S _ _ _ h hC (lv_sub hl [] rfl)
    · have h := h.2 c33
      refine lv_iconst (v := 5) hx hb dX3_part_55 (by decide) ?_
      refine lv_goto (tgt := 60) hx hb dX3_part_56 (by decide) ?_
      exact cut60 x0 5 S _ _ _ h hC (lv_sub hl [] rfl)
  have cut39 : ∀ (x0 : Nat) (x1 : Int32) (x2 : Int32) (y0 : Int32) (S : kS) (H : Heap) (locs : List Loc) (ls : Array Slot), wp_X3_part_39 r_X3_part K x0 x1 x2 y0 S → cM E A s.heap S H locs → lv_has ls 5 [(0, .ref x0), (1, .int x1), (2, .int x2)] → W p l e R s m args below meth c H locs 0 0 Q (F0 m 39 ls [.int y0]) := by
    intro x0 x1 x2 y0 S H locs ls h hC hl
    unfold wp_X3_part_39 at h
    refine lv_istore_n (lv' := [(3, .int y0), (0, .ref x0), (1, .int x1), (2, .int x2)]) hx hb dX3_part_39 rfl hl (by decide) rfl (fun ls hl => ?_)
    refine lv_iload_n hx hb dX3_part_40 rfl (lv_at hl 0 rfl) ?_
    refine lv_if_eq (tgt := 50) hx hb dX3_part_41 (by decide) (fun c7 => ?_) (fun c7 => ?_)
    · have h := h.1 c7
      exact cut50 x0 y0 S _ _ _ h hC (lv_sub hl [1, 0] rfl)
    · have h := h.2 c7
      refine lv_iload_n hx hb dX3_part_44 rfl (lv_at hl 2 rfl) ?_
      refine lv_bipush (v := 10) hx hb dX3_part_45 (by decide) ?_
      refine lv_icmp_lt (tgt := 64) hx hb dX3_part_47 (by decide) (fun c8 => ?_) (fun c8 => ?_)
      · have h := h.1 c8
        refine lv_iload_n hx hb dX3_part_64 rfl (lv_at hl 3 rfl) ?_
        refine lv_iconst (v := 3) hx hb dX3_part_65 (by decide) ?_
        refine lv_icmp_ne (tgt := 80) hx hb dX3_part_66 (by decide) (fun c9 => ?_) (fun c9 => ?_)
        · have h := h.1 c9
          refine lv_aload_n hx hb dX3_part_80 rfl (lv_at hl 1 rfl) ?_
          refine cq_getr (ci := 3) (k := 0) (f := 14) hX hC rfl in_X3 (by decide) wd_131 (fun _ h9 => h9) (fun _ _ => rfl) dX3_part_81 h (fun z10 h => ?_)
          obtain ⟨q11, e9, hh⟩ := h
          subst e9
          have h := hh
          clear hh
          refine cq_getr (ci := 10) (k := 2) (f := 66) hX hC rfl in_X10 (by decide) wd_99 (fun _ h9 => h9) (fun _ _ => rfl) dX3_part_84 h (fun z12 h => ?_)
          refine lv_aload_n hx hb dX3_part_87 rfl (lv_at hl 1 rfl) ?_
          refine cq_geti (ci := 3) (k := 3) (f := 6) hX hC rfl in_X3 (by decide) wd_134 (fun _ h9 => h9) (fun _ _ => rfl) dX3_part_88 h (fun z13 h => ?_)
          obtain ⟨q14, e9, hh⟩ := h
          subst e9
          have h := hh
          clear hh
          refine cq_lld hX hC dX3_part_91 h (fun z15 h => ?_)
          refine lq_l2i hx hb dX3_part_92 h (fun z16 h => ?_)
          refine lv_istore (lv' := [(4, .int z16), (3, .int y0), (0, .ref x0), (1, .int x1), (2, .int x2)]) hx hb dX3_part_93 hl (by decide) rfl (fun ls hl => ?_)
          refine lv_aload_n hx hb dX3_part_95 rfl (lv_at hl 2 rfl) ?_
          refine kv_callv [] (rest := []) (ci := 3) rfl hX hC h.1 (kt_X3_step l S x0 _ h.2 E _) (cw_X3_103 hts (by omega) (by omega)) rfl hl.1 (Nat.le_of_ble_eq_true rfl) ⟨Nat.zero_le _, Nat.zero_le _⟩ dX3_part_96 (fun S17 H locs hC h => ?_)
          refine lv_iload_n hx hb dX3_part_99 rfl (lv_at hl 4 rfl) ?_
          refine lv_iconst (v := 2) hx hb dX3_part_100 (by decide) ?_
          refine lv_icmp_ne (tgt := 115) hx hb dX3_part_101 (by decide) (fun c18 => ?_) (fun c18 => ?_)
          · have h := h.1 c18
            refine lv_iload_n hx hb dX3_part_115 rfl (lv_at hl 4 rfl) ?_
            refine lv_sipush (v := 220) hx hb dX3_part_116 (by decide) ?_
            refine lv_icmp_ne (tgt := 132) hx hb dX3_part_119 (by decide) (fun c19 => ?_) (fun c19 => ?_)
            · have h := h.1 c19
              refine lv_iload_n hx hb dX3_part_132 rfl (lv_at hl 4 rfl) ?_
              refine lv_bipush (v := 40) hx hb dX3_part_133 (by decide) ?_
              refine lv_icmp_ne (tgt := 161) hx hb dX3_part_135 (by decide) (fun c20 => ?_) (fun c20 => ?_)
              · have h := h.1 c20
                refine lv_aload_n hx hb dX3_part_161 rfl (lv_at hl 2 rfl) ?_
                refine lv_iconst (v := 1) hx hb dX3_part_162 (by decide) ?_
                refine lv_iconst (v := 0) hx hb dX3_part_163 (by decide) ?_
                refine kv_calli [.int 1, .int 0] (rest := []) (ci := 3) rfl hX hC h.1 (kt_X3_emit l S17 x0 1 0 _ h.2 E _) (cw_X3_139 hts (by omega) (by omega)) rfl hl.1 (Nat.le_of_ble_eq_true rfl) ⟨Nat.zero_le _, Nat.zero_le _⟩ dX3_part_164 (fun r21 S21 H locs hC h => ?_)
                refine lv_pop hx hb dX3_part_167 rfl ?_
                refine lv_aload_n hx hb dX3_part_168 rfl (lv_at hl 2 rfl) ?_
                refine lv_iload_n hx hb dX3_part_169 rfl (lv_at hl 3 rfl) ?_
                refine lv_iconst (v := 1) hx hb dX3_part_170 (by decide) ?_
                refine lq_iadd hx hb dX3_part_171 h (fun z22 h => ?_)
                refine kv_callv [.int z22] (rest := []) (ci := 3) rfl hX hC h.1 (hr_X3_part x0 z22 S21 _ h.2 E _) (cw_X3_233 hts (by omega) (by omega)) rfl hl.1 (Nat.le_of_ble_eq_true rfl) ⟨Nat.zero_le _, Nat.zero_le _⟩ dX3_part_172 (fun S23 H locs hC h => ?_)
                refine lv_aload_n hx hb dX3_part_175 rfl (lv_at hl 2 rfl) ?_
                refine lv_iconst (v := 5) hx hb dX3_part_176 (by decide) ?_
                refine lv_iconst (v := 0) hx hb dX3_part_177 (by decide) ?_
                refine kv_calli [.int 5, .int 0] (rest := []) (ci := 3) rfl hX hC h.1 (kt_X3_emit l S23 x0 5 0 _ h.2 E _) (cw_X3_139 hts (by omega) (by omega)) rfl hl.1 (Nat.le_of_ble_eq_true rfl) ⟨Nat.zero_le _, Nat.zero_le _⟩ dX3_part_178 (fun r24 S24 H locs hC h => ?_)
                refine lv_pop hx hb dX3_part_181 rfl ?_
                exact hret _ _ _ _ _ hC h dX3_part_182
              · have h := h.2 c20
                refine lv_aload_n hx hb dX3_part_138 rfl (lv_at hl 2 rfl) ?_
                refine lv_iconst (v := 1) hx hb dX3_part_139 (by decide) ?_
                refine lv_iconst (v := 0) hx hb dX3_part_140 (by decide) ?_
                refine kv_calli [.int 1, .int 0] (rest := []) (ci := 3) rfl hX hC h.1 (kt_X3_emit l S17 x0 1 0 _ h.2 E _) (cw_X3_139 hts (by omega) (by omega)) rfl hl.1 (Nat.le_of_ble_eq_true rfl) ⟨Nat.zero_le _, Nat.zero_le _⟩ dX3_part_141 (fun r25 S25 H locs hC h => ?_)
                refine lv_pop hx hb dX3_part_144 rfl ?_
                refine lv_aload_n hx hb dX3_part_145 rfl (lv_at hl 2 rfl) ?_
                refine lv_iload_n hx hb dX3_part_146 rfl (lv_at hl 3 rfl) ?_
                refine lv_iconst (v := 1) hx hb dX3_part_147 (by decide) ?_
                refine lq_iadd hx hb dX3_part_148 h (fun z26 h => ?_)
                refine kv_callv [.int z26] (rest := []) (ci := 3) rfl hX hC h.1 (ko_X3_expression l fr lo (max (fr + 3) 4) (max (lo + 70) 91) r_X3_part hr_X3_part (Nat.le_max_left _ _) (Nat.le_max_left _ _) (Nat.le_max_right _ _) (Nat.le_max_right _ _) S25 x0 z26 _ h.2 E _) (cw_X3_155 hts (by omega) (by omega)) rfl hl.1 (Nat.le_of_ble_eq_true rfl) ⟨Nat.zero_le _, Nat.zero_le _⟩ dX3_part_149 (fun S27 H locs hC h => ?_)
                refine lv_aload_n hx hb dX3_part_152 rfl (lv_at hl 2 rfl) ?_
                refine lv_bipush (v := 41) hx hb dX3_part_153 (by decide) ?_
                refine kv_callv [.int 41] (rest := []) (ci := 3) rfl hX hC h.1 (kt_X3_need l S27 x0 41 _ h.2 E _) (cw_X3_117 hts (by omega) (by omega)) rfl hl.1 (Nat.le_of_ble_eq_true rfl) ⟨Nat.zero_le _, Nat.zero_le _⟩ dX3_part_155 (fun S28 H locs hC h => ?_)
                refine lv_goto (tgt := 182) hx hb dX3_part_158 (by decide) ?_
                exact hret _ _ _ _ _ hC h dX3_part_182
            · have h := h.2 c19
              refine lv_aload_n hx hb dX3_part_122 rfl (lv_at hl 2 rfl) ?_
              refine lv_iconst (v := 4) hx hb dX3_part_123 (by decide) ?_
              refine lv_iconst (v := 0) hx hb dX3_part_124 (by decide) ?_
              refine kv_calli [.int 4, .int 0] (rest := []) (ci := 3) rfl hX hC h.1 (kt_X3_emit l S17 x0 4 0 _ h.2 E _) (cw_X3_139 hts (by omega) (by omega)) rfl hl.1 (Nat.le_of_ble_eq_true rfl) ⟨Nat.zero_le _, Nat.zero_le _⟩ dX3_part_125 (fun r29 S29 H locs hC h => ?_)
              refine lv_pop hx hb dX3_part_128 rfl ?_
              refine lv_goto (tgt := 182) hx hb dX3_part_129 (by decide) ?_
              exact hret _ _ _ _ _ hC h dX3_part_182
          · have h := h.2 c18
            refine lv_aload_n hx hb dX3_part_104 rfl (lv_at hl 2 rfl) ?_
            refine lv_iconst (v := 2) hx hb dX3_part_105 (by decide) ?_
            refine lv_iload hx hb dX3_part_106 (lv_at hl 0 rfl) ?_
            refine kv_calli [.int 2, .int z16] (rest := []) (ci := 3) rfl hX hC h.1 (kt_X3_emit l S17 x0 2 z16 _ h.2 E _) (cw_X3_139 hts (by omega) (by omega)) rfl hl.1 (Nat.le_of_ble_eq_true rfl) ⟨Nat.zero_le _, Nat.zero_le _⟩ dX3_part_108 (fun r30 S30 H locs hC h => ?_)
            refine lv_pop hx hb dX3_part_111 rfl ?_
            refine lv_goto (tgt := 182) hx hb dX3_part_112 (by decide) ?_
            exact hret _ _ _ _ _ hC h dX3_part_182
        · have h := h.2 c9
          refine lv_aload_n hx hb dX3_part_69 rfl (lv_at hl 1 rfl) ?_
          refine lv_iconst (v := 3) hx hb dX3_part_70 (by decide) ?_
          refine lv_aload_n hx hb dX3_part_71 rfl (lv_at hl 1 rfl) ?_
          refine kv_calli [] (rest := [.int 3, .ref x0]) (ci := 3) rfl hX hC h.1 (kt_X3_cellHere l S x0 _ h.2 E _) (cw_X3_167 hts (by omega) (by omega)) rfl hl.1 (Nat.le_of_ble_eq_true rfl) ⟨Nat.zero_le _, Nat.zero_le _⟩ dX3_part_72 (fun r31 S31 H locs hC h => ?_)
          refine kv_calli [.int 3, .int r31] (rest := []) (ci := 3) rfl hX hC h.1 (kt_X3_emit l S31 x0 3 r31 _ h.2 E _) (cw_X3_139 hts (by omega) (by omega)) rfl hl.1 (Nat.le_of_ble_eq_true rfl) ⟨Nat.zero_le _, Nat.zero_le _⟩ dX3_part_75 (fun r32 S32 H locs hC h => ?_)
          refine lv_pop hx hb dX3_part_78 rfl ?_
          exact hret _ _ _ _ _ hC h dX3_part_79
      · have h := h.2 c8
        exact cut50 x0 y0 S _ _ _ h hC (lv_sub hl [1, 0] rfl)
  have cut34 : ∀ (x0 : Nat) (x1 : Int32) (x2 : Int32) (S : kS) (H : Heap) (locs : List Loc) (ls : Array Slot), wp_X3_part_34 r_X3_part K x0 x1 x2 S → cM E A s.heap S H locs → lv_has ls 5 [(0, .ref x0), (1, .int x1), (2, .int x2)] → W p l e R s m args below meth c H locs 0 0 Q (F0 m 34 ls []) := by
    intro x0 x1 x2 S H locs ls h hC hl
    unfold wp_X3_part_34 at h
    refine lv_iconst (v := 1) hx hb dX3_part_34 (by decide) ?_
    refine lv_goto (tgt := 39) hx hb dX3_part_35 (by decide) ?_
    exact cut39 x0 x1 x2 1 S _ _ _ h hC (lv_sub hl [0, 1, 2] rfl)
  have hl : lv_has ls 5 [(0, .ref t0), (1, .int a0)] := hl
  unfold wp_X3_part at h
  refine lv_aload_n hx hb dX3_part_0 rfl (lv_at hl 0 rfl) ?_
  refine kv_calli [] (rest := []) (ci := 3) rfl hX hC h.1 (kt_X3_kind l S t0 _ h.2 E _) (cw_X3_62 hts (by omega) (by omega)) rfl hl.1 (Nat.le_of_ble_eq_true rfl) ⟨Nat.zero_le _, Nat.zero_le _⟩ dX3_part_1 (fun r1 S1 H locs hC h => ?_)
  refine lv_istore_n (lv' := [(2, .int r1), (0, .ref t0), (1, .int a0)]) hx hb dX3_part_4 rfl hl (by decide) rfl (fun ls hl => ?_)
  refine lv_iload_n hx hb dX3_part_5 rfl (lv_at hl 0 rfl) ?_
  refine lv_iconst (v := 2) hx hb dX3_part_6 (by decide) ?_
  refine lv_icmp_eq (tgt := 34) hx hb dX3_part_7 (by decide) (fun c2 => ?_) (fun c2 => ?_)
  · have h := h.1 c2
    exact cut34 t0 a0 r1 S1 _ _ _ h hC (lv_sub hl [1, 2, 0] rfl)
  · have h := h.2 c2
    refine lv_iload_n hx hb dX3_part_10 rfl (lv_at hl 0 rfl) ?_
    refine lv_iconst (v := 3) hx hb dX3_part_11 (by decide) ?_
    refine lv_icmp_eq (tgt := 34) hx hb dX3_part_12 (by decide) (fun c3 => ?_) (fun c3 => ?_)
    · have h := h.1 c3
      exact cut34 t0 a0 r1 S1 _ _ _ h hC (lv_sub hl [1, 2, 0] rfl)
    · have h := h.2 c3
      refine lv_iload_n hx hb dX3_part_15 rfl (lv_at hl 0 rfl) ?_
      refine lv_sipush (v := 220) hx hb dX3_part_16 (by decide) ?_
      refine lv_icmp_eq (tgt := 34) hx hb dX3_part_19 (by decide) (fun c4 => ?_) (fun c4 => ?_)
      · have h := h.1 c4
        exact cut34 t0 a0 r1 S1 _ _ _ h hC (lv_sub hl [1, 2, 0] rfl)
      · have h := h.2 c4
        refine lv_iload_n hx hb dX3_part_22 rfl (lv_at hl 0 rfl) ?_
        refine lv_bipush (v := 40) hx hb dX3_part_23 (by decide) ?_
        refine lv_icmp_eq (tgt := 34) hx hb dX3_part_25 (by decide) (fun c5 => ?_) (fun c5 => ?_)
        · have h := h.1 c5
          exact cut34 t0 a0 r1 S1 _ _ _ h hC (lv_sub hl [1, 2, 0] rfl)
        · have h := h.2 c5
          refine lv_iload_n hx hb dX3_part_28 rfl (lv_at hl 0 rfl) ?_
          refine lv_bipush (v := 45) hx hb dX3_part_29 (by decide) ?_
          refine lv_icmp_ne (tgt := 38) hx hb dX3_part_31 (by decide) (fun c6 => ?_) (fun c6 => ?_)
          · have h := h.1 c6
            refine lv_iconst (v := 0) hx hb dX3_part_38 (by decide) ?_
            exact cut39 t0 a0 r1 0 S1 _ _ _ h hC (lv_sub hl [1, 2, 0] rfl)
          · have h := h.2 c6
            exact cut34 t0 a0 r1 S1 _ _ _ h hC (lv_sub hl [1, 2, 0] rfl)
def wr_X3_part : Nat → Nat → Int32 → kS → (kS → Prop) → Prop
  | 0 => fun _ _ _ _ => False
  | n + 1 => wp_X3_part (wr_X3_part n)
def wq_X3_product : Nat → Int32 → kS → (kS → Prop) → Prop := wp_X3_product (wr_X3_part 12)
def wq_X3_sum : Nat → Int32 → kS → (kS → Prop) → Prop := wp_X3_sum (wr_X3_part 12)
def wq_X3_expression : Nat → Int32 → kS → (kS → Prop) → Prop := wp_X3_expression (wr_X3_part 12)
def wq_X3_part : Nat → Int32 → kS → (kS → Prop) → Prop := wr_X3_part 12
set_option maxRecDepth 100000 in
theorem cr_X3_part (l : Launch) : ∀ n : Nat, (∀ (t0 : Nat) (a0 : Int32) (S : kS) (K : kS → Prop), (wr_X3_part n) t0 a0 S K → kMv l yX3_part cX3_part 5 none (4 * n + 5) (92 * n + 113) [.ref t0, .int a0] S K) := by
  intro n
  induction n with
  | zero => exact fun _ _ _ _ h => h.elim
  | succ n ih => exact fun t0 a0 S K h => ko_X3_part l (4 * n + 5) (92 * n + 113) _ _ (wr_X3_part n) ih (by omega) (by omega) (by omega) (by omega) S t0 a0 K h
theorem kt_X3_product (l : Launch) (S : kS) (t0 : Nat) (a0 : Int32) (K : kS → Prop) (h : wq_X3_product t0 a0 S K) : kMv l yX3_product cX3_product 4 none 54 1241 [.ref t0, .int a0] S K := ko_X3_product l (4 * 12 + 5) (92 * 12 + 113) _ _ (wr_X3_part 12) (cr_X3_part l 12) (by omega) (by omega) (by omega) (by omega) S t0 a0 K h
theorem kt_X3_sum (l : Launch) (S : kS) (t0 : Nat) (a0 : Int32) (K : kS → Prop) (h : wq_X3_sum t0 a0 S K) : kMv l yX3_sum cX3_sum 4 none 55 1264 [.ref t0, .int a0] S K := ko_X3_sum l (4 * 12 + 5) (92 * 12 + 113) _ _ (wr_X3_part 12) (cr_X3_part l 12) (by omega) (by omega) (by omega) (by omega) S t0 a0 K h
theorem kt_X3_expression (l : Launch) (S : kS) (t0 : Nat) (a0 : Int32) (K : kS → Prop) (h : wq_X3_expression t0 a0 S K) : kMv l yX3_expression cX3_expression 3 none 56 1287 [.ref t0, .int a0] S K := ko_X3_expression l (4 * 12 + 5) (92 * 12 + 113) _ _ (wr_X3_part 12) (cr_X3_part l 12) (by omega) (by omega) (by omega) (by omega) S t0 a0 K h
theorem kt_X3_part (l : Launch) (S : kS) (t0 : Nat) (a0 : Int32) (K : kS → Prop) (h : wq_X3_part t0 a0 S K) : kMv l yX3_part cX3_part 5 none (4 * 12 + 5) (92 * 12 + 113) [.ref t0, .int a0] S K := cr_X3_part l 12 t0 a0 S K h
def wp_X3_keepChild (t0 : Nat) (a0 : Int32) (a1 : Int32) (a2 : Int32) (S : kS) (K : kS → Prop) : Prop := hasO S t0 3 ∧ ∀ z1 : Int32, z1 = S.1 11 t0 → ((460 ≤ z1 → K S) ∧ (¬ 460 ≤ z1 → hasO S t0 3 ∧ ∀ z3 : Option Nat, z3 = S.2.1 17 t0 → hasO S t0 3 ∧ ∀ z4 : Int32, z4 = S.1 11 t0 → ∃ q5 : Nat, z3 = some q5 ∧ hasA S q5 460 0 ∧ inR z4 460 ∧ ∀ S6 : kS, S6 = cA S q5 (ix z4) a2 → hasO S6 t0 3 ∧ ∀ z7 : Option Nat, z7 = S6.2.1 18 t0 → hasO S6 t0 3 ∧ ∀ z8 : Int32, z8 = S6.1 11 t0 → hasO S6 t0 3 ∧ ∀ z9 : Option Nat, z9 = S6.2.1 14 t0 → ∃ q10 : Nat, z9 = some q10 ∧ hasO S6 q10 10 ∧ ∀ z11 : Option Nat, z11 = S6.2.1 65 q10 → ∃ q12 : Nat, z11 = some q12 ∧ hasA S6 q12 4002 0 ∧ inR a0 4002 ∧ ∀ z13 : Int32, z13 = S6.2.2.1 q12 (ix a0) → ∃ q14 : Nat, z7 = some q14 ∧ hasA S6 q14 460 0 ∧ inR z8 460 ∧ ∀ S15 : kS, S15 = cA S6 q14 (ix z8) z13 → hasO S15 t0 3 ∧ ∀ z16 : Option Nat, z16 = S15.2.1 20 t0 → hasO S15 t0 3 ∧ ∀ z17 : Int32, z17 = S15.1 11 t0 → hasO S15 t0 3 ∧ ∀ z18 : Option Nat, z18 = S15.2.1 14 t0 → ∃ q19 : Nat, z18 = some q19 ∧ hasO S15 q19 10 ∧ ∀ z20 : Option Nat, z20 = S15.2.1 66 q19 → ∃ q21 : Nat, z20 = some q21 ∧ hasA S15 q21 4002 1 ∧ inR a0 4002 ∧ ∀ z22 : Int64, z22 = S15.2.2.2.1 q21 (ix a0) → ∃ q23 : Nat, z16 = some q23 ∧ hasA S15 q23 460 1 ∧ inR z17 460 ∧ ∀ S24 : kS, S24 = cL S15 q23 (ix z17) z22 → hasO S24 t0 3 ∧ ∀ z25 : Option Nat, z25 = S24.2.1 19 t0 → hasO S24 t0 3 ∧ ∀ z26 : Int32, z26 = S24.1 11 t0 → ∃ q27 : Nat, z25 = some q27 ∧ hasA S24 q27 460 0 ∧ inR z26 460 ∧ ∀ S28 : kS, S28 = cA S24 q27 (ix z26) a1 → hasO S28 t0 3 ∧ ∀ z29 : Int32, z29 = S28.1 11 t0 → ∀ z30 : Int32, z30 = z29 + 1 → hasO S28 t0 3 ∧ ∀ S31 : kS, S31 = cI S28 11 t0 z30 → K S31))
set_option maxHeartbeats 4000000 in
set_option maxRecDepth 100000 in
theorem kt_X3_keepChild (l : Launch) (S : kS) (t0 : Nat) (a0 : Int32) (a1 : Int32) (a2 : Int32) (K : kS → Prop) (h : wp_X3_keepChild t0 a0 a1 a2 S K) : kMv l yX3_keepChild cX3_keepChild 4 none 0 0 [.ref t0, .int a0, .int a1, .int a2] S K := by
  refine kv_ofv (own := RX3) (by decide) rfl (Nat.le_of_ble_eq_true rfl) ?_
  intro E p e R s m args below meth c A ls Q hRf hRl hX hC hl hret
  have hx := hX.1.1
  have hb := hX.1.2.1
  have hown := hX.1.2.2.2.1
  have hts := hX.1.2.2.2.2
  have hl : lv_has ls 4 [(0, .ref t0), (1, .int a0), (2, .int a1), (3, .int a2)] := hl
  unfold wp_X3_keepChild at h
  refine lv_aload_n hx hb dX3_keepChild_0 rfl (lv_at hl 0 rfl) ?_
  refine cq_geti (ci := 3) (k := 8) (f := 11) hX hC rfl in_X3 (by decide) wd_139 (fun _ h9 => h9) (fun _ _ => rfl) dX3_keepChild_1 h (fun z1 h => ?_)
  refine lv_sipush (v := 460) hx hb dX3_keepChild_4 (by decide) ?_
  refine lv_icmp_ge (tgt := 76) hx hb dX3_keepChild_7 (by decide) (fun c2 => ?_) (fun c2 => ?_)
  · have h := h.1 c2
    exact hret _ _ _ _ _ hC h dX3_keepChild_76
  · have h := h.2 c2
    refine lv_aload_n hx hb dX3_keepChild_10 rfl (lv_at hl 0 rfl) ?_
    refine cq_getr (ci := 3) (k := 9) (f := 17) hX hC rfl in_X3 (by decide) wd_140 (fun _ h9 => h9) (fun _ _ => rfl) dX3_keepChild_11 h (fun z3 h => ?_)
    refine lv_aload_n hx hb dX3_keepChild_14 rfl (lv_at hl 0 rfl) ?_
    refine cq_geti (ci := 3) (k := 8) (f := 11) hX hC rfl in_X3 (by decide) wd_139 (fun _ h9 => h9) (fun _ _ => rfl) dX3_keepChild_15 h (fun z4 h => ?_)
    refine lv_iload_n hx hb dX3_keepChild_18 rfl (lv_at hl 3 rfl) ?_
    obtain ⟨q5, e9, hh⟩ := h
    subst e9
    have h := hh
    clear hh
    refine cq_ist hX hC dX3_keepChild_19 h.1 h.2.1 h.2.2 (fun S6 H locs hC h => ?_)
    refine lv_aload_n hx hb dX3_keepChild_20 rfl (lv_at hl 0 rfl) ?_
    refine cq_getr (ci := 3) (k := 10) (f := 18) hX hC rfl in_X3 (by decide) wd_141 (fun _ h9 => h9) (fun _ _ => rfl) dX3_keepChild_21 h (fun z7 h => ?_)
    refine lv_aload_n hx hb dX3_keepChild_24 rfl (lv_at hl 0 rfl) ?_
    refine cq_geti (ci := 3) (k := 8) (f := 11) hX hC rfl in_X3 (by decide) wd_139 (fun _ h9 => h9) (fun _ _ => rfl) dX3_keepChild_25 h (fun z8 h => ?_)
    refine lv_aload_n hx hb dX3_keepChild_28 rfl (lv_at hl 0 rfl) ?_
    refine cq_getr (ci := 3) (k := 0) (f := 14) hX hC rfl in_X3 (by decide) wd_131 (fun _ h9 => h9) (fun _ _ => rfl) dX3_keepChild_29 h (fun z9 h => ?_)
    obtain ⟨q10, e9, hh⟩ := h
    subst e9
    have h := hh
    clear hh
    refine cq_getr (ci := 10) (k := 1) (f := 65) hX hC rfl in_X10 (by decide) wd_97 (fun _ h9 => h9) (fun _ _ => rfl) dX3_keepChild_32 h (fun z11 h => ?_)
    refine lv_iload_n hx hb dX3_keepChild_35 rfl (lv_at hl 1 rfl) ?_
    obtain ⟨q12, e9, hh⟩ := h
    subst e9
    have h := hh
    clear hh
    refine cq_ild hX hC dX3_keepChild_36 h (fun z13 h => ?_)
    obtain ⟨q14, e9, hh⟩ := h
    subst e9
    have h := hh
    clear hh
    refine cq_ist hX hC dX3_keepChild_37 h.1 h.2.1 h.2.2 (fun S15 H locs hC h => ?_)
    refine lv_aload_n hx hb dX3_keepChild_38 rfl (lv_at hl 0 rfl) ?_
    refine cq_getr (ci := 3) (k := 12) (f := 20) hX hC rfl in_X3 (by decide) wd_143 (fun _ h9 => h9) (fun _ _ => rfl) dX3_keepChild_39 h (fun z16 h => ?_)
    refine lv_aload_n hx hb dX3_keepChild_42 rfl (lv_at hl 0 rfl) ?_
    refine cq_geti (ci := 3) (k := 8) (f := 11) hX hC rfl in_X3 (by decide) wd_139 (fun _ h9 => h9) (fun _ _ => rfl) dX3_keepChild_43 h (fun z17 h => ?_)
    refine lv_aload_n hx hb dX3_keepChild_46 rfl (lv_at hl 0 rfl) ?_
    refine cq_getr (ci := 3) (k := 0) (f := 14) hX hC rfl in_X3 (by decide) wd_131 (fun _ h9 => h9) (fun _ _ => rfl) dX3_keepChild_47 h (fun z18 h => ?_)
    obtain ⟨q19, e9, hh⟩ := h
    subst e9
    have h := hh
    clear hh
    refine cq_getr (ci := 10) (k := 2) (f := 66) hX hC rfl in_X10 (by decide) wd_99 (fun _ h9 => h9) (fun _ _ => rfl) dX3_keepChild_50 h (fun z20 h => ?_)
    refine lv_iload_n hx hb dX3_keepChild_53 rfl (lv_at hl 1 rfl) ?_
    obtain ⟨q21, e9, hh⟩ := h
    subst e9
    have h := hh
    clear hh
    refine cq_lld hX hC dX3_keepChild_54 h (fun z22 h => ?_)
    obtain ⟨q23, e9, hh⟩ := h
    subst e9
    have h := hh
    clear hh
    refine cq_lst hX hC dX3_keepChild_55 h.1 h.2.1 h.2.2 (fun S24 H locs hC h => ?_)
    refine lv_aload_n hx hb dX3_keepChild_56 rfl (lv_at hl 0 rfl) ?_
    refine cq_getr (ci := 3) (k := 11) (f := 19) hX hC rfl in_X3 (by decide) wd_142 (fun _ h9 => h9) (fun _ _ => rfl) dX3_keepChild_57 h (fun z25 h => ?_)
    refine lv_aload_n hx hb dX3_keepChild_60 rfl (lv_at hl 0 rfl) ?_
    refine cq_geti (ci := 3) (k := 8) (f := 11) hX hC rfl in_X3 (by decide) wd_139 (fun _ h9 => h9) (fun _ _ => rfl) dX3_keepChild_61 h (fun z26 h => ?_)
    refine lv_iload_n hx hb dX3_keepChild_64 rfl (lv_at hl 2 rfl) ?_
    obtain ⟨q27, e9, hh⟩ := h
    subst e9
    have h := hh
    clear hh
    refine cq_ist hX hC dX3_keepChild_65 h.1 h.2.1 h.2.2 (fun S28 H locs hC h => ?_)
    refine lv_aload_n hx hb dX3_keepChild_66 rfl (lv_at hl 0 rfl) ?_
    refine lv_dup hx hb dX3_keepChild_67 rfl ?_
    refine cq_geti (ci := 3) (k := 8) (f := 11) hX hC rfl in_X3 (by decide) wd_139 (fun _ h9 => h9) (fun _ _ => rfl) dX3_keepChild_68 h (fun z29 h => ?_)
    refine lv_iconst (v := 1) hx hb dX3_keepChild_71 (by decide) ?_
    refine lq_iadd hx hb dX3_keepChild_72 h (fun z30 h => ?_)
    refine cq_puti (v := z30) (ci := 3) (k := 8) (f := 11) hX hC rfl in_X3 (by decide) wd_139 (fun _ h9 => h9) tyX3 tyX3_ok nmX3 rfl rfl rfl (fun _ _ => Nat.le_of_ble_eq_true rfl) (fun _ _ _ => rfl) dX3_keepChild_73 h.1 h.2 (fun S31 H locs hC h => ?_)
    exact hret _ _ _ _ _ hC h dX3_keepChild_76
def wp_X3_startsWait (a0 : Int32) (S : kS) (K : kS → Int32 → Prop) : Prop := ((a0 < 213 → K S 0) ∧ (¬ a0 < 213 → ((219 < a0 → K S 0) ∧ (¬ 219 < a0 → K S 1))))
set_option maxHeartbeats 4000000 in
set_option maxRecDepth 100000 in
theorem kt_X3_startsWait (l : Launch) (S : kS) (a0 : Int32) (K : kS → Int32 → Prop) (h : wp_X3_startsWait a0 S K) : kMi l yX3_startsWait cX3_startsWait 1 (some .boolean) 0 0 [.int a0] S K := by
  refine kv_ofz (own := RX3) (by decide) rfl (Nat.le_of_ble_eq_true rfl) ?_
  intro E p e R s m args below meth c A ls Q hRf hRl hX hC hl hret
  have hx := hX.1.1
  have hb := hX.1.2.1
  have hown := hX.1.2.2.2.1
  have hts := hX.1.2.2.2.2
  have hl : lv_has ls 1 [(0, .int a0)] := hl
  unfold wp_X3_startsWait at h
  refine lv_iload_n hx hb dX3_startsWait_0 rfl (lv_at hl 0 rfl) ?_
  refine lv_sipush (v := 213) hx hb dX3_startsWait_1 (by decide) ?_
  refine lv_icmp_lt (tgt := 18) hx hb dX3_startsWait_4 (by decide) (fun c1 => ?_) (fun c1 => ?_)
  · have h := h.1 c1
    refine lv_iconst (v := 0) hx hb dX3_startsWait_18 (by decide) ?_
    exact hret _ _ _ _ _ _ hC (Or.inl rfl) h dX3_startsWait_19
  · have h := h.2 c1
    refine lv_iload_n hx hb dX3_startsWait_7 rfl (lv_at hl 0 rfl) ?_
    refine lv_sipush (v := 219) hx hb dX3_startsWait_8 (by decide) ?_
    refine lv_icmp_gt (tgt := 18) hx hb dX3_startsWait_11 (by decide) (fun c2 => ?_) (fun c2 => ?_)
    · have h := h.1 c2
      refine lv_iconst (v := 0) hx hb dX3_startsWait_18 (by decide) ?_
      exact hret _ _ _ _ _ _ hC (Or.inl rfl) h dX3_startsWait_19
    · have h := h.2 c2
      refine lv_iconst (v := 1) hx hb dX3_startsWait_14 (by decide) ?_
      refine lv_goto (tgt := 19) hx hb dX3_startsWait_15 (by decide) ?_
      exact hret _ _ _ _ _ _ hC (Or.inr rfl) h dX3_startsWait_19
