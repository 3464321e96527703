theorem wd_423 : (Jvm.Cond.fieldLink "Sleepers$Parser" (130 : Nat) "Sleepers$Program" "given" "[I") ∈ tb := tb_at 423 (by decide +kernel) (by decide +kernel)
theorem wd_624 : (Jvm.Cond.methodLink "Sleepers$Parser" (109 : Nat) ({ cls := "Sleepers$Program", name := "routineNamed", desc := "(J)I" } : Jvm.MethodName)) ∈ tb := tb_at 624 (by decide +kernel) (by decide +kernel)
theorem wd_625 : (Jvm.Cond.instanceMethod ({ cls := "Sleepers$Program", name := "routineNamed", desc := "(J)I" } : Jvm.MethodName)) ∈ tb := tb_at 625 (by decide +kernel) (by decide +kernel)
theorem wd_626 : (Jvm.Cond.selects "Sleepers$Program" ({ cls := "Sleepers$Program", name := "routineNamed", desc := "(J)I" } : Jvm.MethodName) ({ cls := "Sleepers$Program", name := "routineNamed", desc := "(J)I" } : Jvm.MethodName)) ∈ tb := tb_at 626 (by decide +kernel) (by decide +kernel)
theorem wd_627 : (Jvm.Cond.code ({ cls := "Sleepers$Program", name := "routineNamed", desc := "(J)I" } : Jvm.MethodName) prog_7_method_10_code (4 : Nat) (Option.some Jvm.ClassFile.FieldType.int)) ∈ tb := tb_at 627 (by decide +kernel) (by decide +kernel)
theorem wd_644 : (Jvm.Cond.methodLink "Sleepers$Parser" (123 : Nat) ({ cls := "Sleepers$Program", name := "cellNamed", desc := "(IJ)I" } : Jvm.MethodName)) ∈ tb := tb_at 644 (by decide +kernel) (by decide +kernel)
theorem wd_645 : (Jvm.Cond.instanceMethod ({ cls := "Sleepers$Program", name := "cellNamed", desc := "(IJ)I" } : Jvm.MethodName)) ∈ tb := tb_at 645 (by decide +kernel) (by decide +kernel)
theorem wd_646 : (Jvm.Cond.selects "Sleepers$Program" ({ cls := "Sleepers$Program", name := "cellNamed", desc := "(IJ)I" } : Jvm.MethodName) ({ cls := "Sleepers$Program", name := "cellNamed", desc := "(IJ)I" } : Jvm.MethodName)) ∈ tb := tb_at 646 (by decide +kernel) (by decide +kernel)
theorem wd_647 : (Jvm.Cond.code ({ cls := "Sleepers$Program", name := "cellNamed", desc := "(IJ)I" } : Jvm.MethodName) prog_7_method_11_code (6 : Nat) (Option.some Jvm.ClassFile.FieldType.int)) ∈ tb := tb_at 647 (by decide +kernel) (by decide +kernel)
theorem wd_660 : (Jvm.Cond.methodLink "Sleepers$Parser" (133 : Nat) ({ cls := "Sleepers$Parser", name := "startsStatement", desc := "(I)Z" } : Jvm.MethodName)) ∈ tb := tb_at 660 (by decide +kernel) (by decide +kernel)
theorem wd_661 : (Jvm.Cond.static ({ cls := "Sleepers$Parser", name := "startsStatement", desc := "(I)Z" } : Jvm.MethodName)) ∈ tb := tb_at 661 (by decide +kernel) (by decide +kernel)
theorem wd_662 : (Jvm.Cond.code ({ cls := "Sleepers$Parser", name := "startsStatement", desc := "(I)Z" } : Jvm.MethodName) prog_5_method_12_code (1 : Nat) (Option.some Jvm.ClassFile.FieldType.boolean)) ∈ tb := tb_at 662 (by decide +kernel) (by decide +kernel)
theorem wd_663 : (Jvm.Cond.methodLink "Sleepers$Parser" (136 : Nat) ({ cls := "Sleepers$Parser", name := "statement", desc := "(I)V" } : Jvm.MethodName)) ∈ tb := tb_at 663 (by decide +kernel) (by decide +kernel)
theorem wd_665 : (Jvm.Cond.instanceMethod ({ cls := "Sleepers$Parser", name := "statement", desc := "(I)V" } : Jvm.MethodName)) ∈ tb := tb_at 665 (by decide +kernel) (by decide +kernel)
theorem wd_666 : (Jvm.Cond.code ({ cls := "Sleepers$Parser", name := "statement", desc := "(I)V" } : Jvm.MethodName) prog_5_method_14_code (3 : Nat) (Option.none : Option Jvm.ClassFile.FieldType)) ∈ tb := tb_at 666 (by decide +kernel) (by decide +kernel)
theorem sl_X3_statement : Cond.selects RX3 yX3_statement yX3_statement ∈ tb := sl_of (y := ⟨"Sleepers$Parser", "statement", "(I)V"⟩) (n := 13) (by decide +kernel) (by decide +kernel)
theorem dX3_block_0 : decode cX3_block 0 = .ok (.aload_n 0, 1) := by decide +kernel
theorem dX3_block_1 : decode cX3_block 1 = .ok (.invokevirtual 62, 3) := by decide +kernel
theorem dX3_block_4 : decode cX3_block 4 = .ok (.bipush 123, 2) := by decide +kernel
theorem dX3_block_6 : decode cX3_block 6 = .ok (.if_icmp .eq 11, 3) := by decide +kernel
theorem dX3_block_9 : decode cX3_block 9 = .ok (.aload_n 0, 1) := by decide +kernel
theorem dX3_block_10 : decode cX3_block 10 = .ok (.iconst 1, 1) := by decide +kernel
theorem dX3_block_11 : decode cX3_block 11 = .ok (.invokevirtual 78, 3) := by decide +kernel
theorem dX3_block_14 : decode cX3_block 14 = .ok (.goto 59, 3) := by decide +kernel
theorem dX3_block_17 : decode cX3_block 17 = .ok (.iload_n 1, 1) := by decide +kernel
theorem dX3_block_18 : decode cX3_block 18 = .ok (.bipush 10, 2) := by decide +kernel
theorem dX3_block_20 : decode cX3_block 20 = .ok (.if_icmp .lt 11, 3) := by decide +kernel
theorem dX3_block_23 : decode cX3_block 23 = .ok (.aload_n 0, 1) := by decide +kernel
theorem dX3_block_24 : decode cX3_block 24 = .ok (.iconst 5, 1) := by decide +kernel
theorem dX3_block_25 : decode cX3_block 25 = .ok (.invokevirtual 78, 3) := by decide +kernel
theorem dX3_block_28 : decode cX3_block 28 = .ok (.goto 45, 3) := by decide +kernel
theorem dX3_block_31 : decode cX3_block 31 = .ok (.aload_n 0, 1) := by decide +kernel
theorem dX3_block_32 : decode cX3_block 32 = .ok (.invokevirtual 103, 3) := by decide +kernel
theorem dX3_block_35 : decode cX3_block 35 = .ok (.iconst 0, 1) := by decide +kernel
theorem dX3_block_36 : decode cX3_block 36 = .ok (.istore_n 2, 1) := by decide +kernel
theorem dX3_block_37 : decode cX3_block 37 = .ok (.iload_n 2, 1) := by decide +kernel
theorem dX3_block_38 : decode cX3_block 38 = .ok (.sipush 4000, 3) := by decide +kernel
theorem dX3_block_41 : decode cX3_block 41 = .ok (.if_icmp .ge 26, 3) := by decide +kernel
theorem dX3_block_44 : decode cX3_block 44 = .ok (.aload_n 0, 1) := by decide +kernel
theorem dX3_block_45 : decode cX3_block 45 = .ok (.invokevirtual 62, 3) := by decide +kernel
theorem dX3_block_48 : decode cX3_block 48 = .ok (.invokestatic 133, 3) := by decide +kernel
theorem dX3_block_51 : decode cX3_block 51 = .ok (.ifCond .eq 16, 3) := by decide +kernel
theorem dX3_block_54 : decode cX3_block 54 = .ok (.aload_n 0, 1) := by decide +kernel
theorem dX3_block_55 : decode cX3_block 55 = .ok (.iload_n 1, 1) := by decide +kernel
theorem dX3_block_56 : decode cX3_block 56 = .ok (.iconst 1, 1) := by decide +kernel
theorem dX3_block_57 : decode cX3_block 57 = .ok (.iadd, 1) := by decide +kernel
theorem dX3_block_58 : decode cX3_block 58 = .ok (.invokevirtual 136, 3) := by decide +kernel
theorem dX3_block_61 : decode cX3_block 61 = .ok (.iinc 2 1, 3) := by decide +kernel
theorem dX3_block_64 : decode cX3_block 64 = .ok (.goto (-27), 3) := by decide +kernel
theorem dX3_block_67 : decode cX3_block 67 = .ok (.aload_n 0, 1) := by decide +kernel
theorem dX3_block_68 : decode cX3_block 68 = .ok (.bipush 125, 2) := by decide +kernel
theorem dX3_block_70 : decode cX3_block 70 = .ok (.invokevirtual 117, 3) := by decide +kernel
theorem dX3_block_73 : decode cX3_block 73 = .ok (.return_, 1) := by decide +kernel
theorem dX3_findChildren_0 : decode cX3_findChildren 0 = .ok (.iconst 0, 1) := by decide +kernel
theorem dX3_findChildren_1 : decode cX3_findChildren 1 = .ok (.istore_n 1, 1) := by decide +kernel
theorem dX3_findChildren_2 : decode cX3_findChildren 2 = .ok (.iload_n 1, 1) := by decide +kernel
theorem dX3_findChildren_3 : decode cX3_findChildren 3 = .ok (.aload_n 0, 1) := by decide +kernel
theorem dX3_findChildren_4 : decode cX3_findChildren 4 = .ok (.getfield 59, 3) := by decide +kernel
theorem dX3_findChildren_7 : decode cX3_findChildren 7 = .ok (.if_icmp .ge 105, 3) := by decide +kernel
theorem dX3_findChildren_10 : decode cX3_findChildren 10 = .ok (.aload_n 0, 1) := by decide +kernel
theorem dX3_findChildren_11 : decode cX3_findChildren 11 = .ok (.getfield 47, 3) := by decide +kernel
theorem dX3_findChildren_14 : decode cX3_findChildren 14 = .ok (.ifCond .ne 98, 3) := by decide +kernel
theorem dX3_findChildren_17 : decode cX3_findChildren 17 = .ok (.aload_n 0, 1) := by decide +kernel
theorem dX3_findChildren_18 : decode cX3_findChildren 18 = .ok (.getfield 29, 3) := by decide +kernel
theorem dX3_findChildren_21 : decode cX3_findChildren 21 = .ok (.aload_n 0, 1) := by decide +kernel
theorem dX3_findChildren_22 : decode cX3_findChildren 22 = .ok (.getfield 21, 3) := by decide +kernel
theorem dX3_findChildren_25 : decode cX3_findChildren 25 = .ok (.iload_n 1, 1) := by decide +kernel
theorem dX3_findChildren_26 : decode cX3_findChildren 26 = .ok (.laload, 1) := by decide +kernel
theorem dX3_findChildren_27 : decode cX3_findChildren 27 = .ok (.invokevirtual 109, 3) := by decide +kernel
theorem dX3_findChildren_30 : decode cX3_findChildren 30 = .ok (.istore_n 2, 1) := by decide +kernel
theorem dX3_findChildren_31 : decode cX3_findChildren 31 = .ok (.iload_n 2, 1) := by decide +kernel
theorem dX3_findChildren_32 : decode cX3_findChildren 32 = .ok (.iconst (-1), 1) := by decide +kernel
theorem dX3_findChildren_33 : decode cX3_findChildren 33 = .ok (.if_icmp .ne 21, 3) := by decide +kernel
theorem dX3_findChildren_36 : decode cX3_findChildren 36 = .ok (.aload_n 0, 1) := by decide +kernel
theorem dX3_findChildren_37 : decode cX3_findChildren 37 = .ok (.iconst 2, 1) := by decide +kernel
theorem dX3_findChildren_38 : decode cX3_findChildren 38 = .ok (.bipush 16, 2) := by decide +kernel
theorem dX3_findChildren_40 : decode cX3_findChildren 40 = .ok (.aload_n 0, 1) := by decide +kernel
theorem dX3_findChildren_41 : decode cX3_findChildren 41 = .ok (.getfield 15, 3) := by decide +kernel
theorem dX3_findChildren_44 : decode cX3_findChildren 44 = .ok (.iload_n 1, 1) := by decide +kernel
theorem dX3_findChildren_45 : decode cX3_findChildren 45 = .ok (.iaload, 1) := by decide +kernel
theorem dX3_findChildren_46 : decode cX3_findChildren 46 = .ok (.imul, 1) := by decide +kernel
theorem dX3_findChildren_47 : decode cX3_findChildren 47 = .ok (.iadd, 1) := by decide +kernel
theorem dX3_findChildren_48 : decode cX3_findChildren 48 = .ok (.putfield 47, 3) := by decide +kernel
theorem dX3_findChildren_51 : decode cX3_findChildren 51 = .ok (.goto 55, 3) := by decide +kernel
theorem dX3_findChildren_54 : decode cX3_findChildren 54 = .ok (.aload_n 0, 1) := by decide +kernel
theorem dX3_findChildren_55 : decode cX3_findChildren 55 = .ok (.getfield 29, 3) := by decide +kernel
theorem dX3_findChildren_58 : decode cX3_findChildren 58 = .ok (.getfield 130, 3) := by decide +kernel
theorem dX3_findChildren_61 : decode cX3_findChildren 61 = .ok (.iload_n 2, 1) := by decide +kernel
theorem dX3_findChildren_62 : decode cX3_findChildren 62 = .ok (.iaload, 1) := by decide +kernel
theorem dX3_findChildren_63 : decode cX3_findChildren 63 = .ok (.aload_n 0, 1) := by decide +kernel
theorem dX3_findChildren_64 : decode cX3_findChildren 64 = .ok (.getfield 18, 3) := by decide +kernel
theorem dX3_findChildren_67 : decode cX3_findChildren 67 = .ok (.iload_n 1, 1) := by decide +kernel
theorem dX3_findChildren_68 : decode cX3_findChildren 68 = .ok (.iaload, 1) := by decide +kernel
theorem dX3_findChildren_69 : decode cX3_findChildren 69 = .ok (.if_icmp .eq 22, 3) := by decide +kernel
theorem dX3_findChildren_72 : decode cX3_findChildren 72 = .ok (.aload_n 0, 1) := by decide +kernel
theorem dX3_findChildren_73 : decode cX3_findChildren 73 = .ok (.bipush 6, 2) := by decide +kernel
theorem dX3_findChildren_75 : decode cX3_findChildren 75 = .ok (.bipush 16, 2) := by decide +kernel
theorem dX3_findChildren_77 : decode cX3_findChildren 77 = .ok (.aload_n 0, 1) := by decide +kernel
theorem dX3_findChildren_78 : decode cX3_findChildren 78 = .ok (.getfield 15, 3) := by decide +kernel
theorem dX3_findChildren_81 : decode cX3_findChildren 81 = .ok (.iload_n 1, 1) := by decide +kernel
theorem dX3_findChildren_82 : decode cX3_findChildren 82 = .ok (.iaload, 1) := by decide +kernel
theorem dX3_findChildren_83 : decode cX3_findChildren 83 = .ok (.imul, 1) := by decide +kernel
theorem dX3_findChildren_84 : decode cX3_findChildren 84 = .ok (.iadd, 1) := by decide +kernel
theorem dX3_findChildren_85 : decode cX3_findChildren 85 = .ok (.putfield 47, 3) := by decide +kernel
theorem dX3_findChildren_88 : decode cX3_findChildren 88 = .ok (.goto 18, 3) := by decide +kernel
theorem dX3_findChildren_91 : decode cX3_findChildren 91 = .ok (.aload_n 0, 1) := by decide +kernel
theorem dX3_findChildren_92 : decode cX3_findChildren 92 = .ok (.getfield 29, 3) := by decide +kernel
theorem dX3_findChildren_95 : decode cX3_findChildren 95 = .ok (.getfield 188, 3) := by decide +kernel
theorem dX3_findChildren_98 : decode cX3_findChildren 98 = .ok (.aload_n 0, 1) := by decide +kernel
theorem dX3_findChildren_99 : decode cX3_findChildren 99 = .ok (.getfield 9, 3) := by decide +kernel
theorem dX3_findChildren_102 : decode cX3_findChildren 102 = .ok (.iload_n 1, 1) := by decide +kernel
theorem dX3_findChildren_103 : decode cX3_findChildren 103 = .ok (.iaload, 1) := by decide +kernel
theorem dX3_findChildren_104 : decode cX3_findChildren 104 = .ok (.iload_n 2, 1) := by decide +kernel
theorem dX3_findChildren_105 : decode cX3_findChildren 105 = .ok (.iastore, 1) := by decide +kernel
theorem dX3_findChildren_106 : decode cX3_findChildren 106 = .ok (.iinc 1 1, 3) := by decide +kernel
theorem dX3_findChildren_109 : decode cX3_findChildren 109 = .ok (.goto (-107), 3) := by decide +kernel
theorem dX3_findChildren_112 : decode cX3_findChildren 112 = .ok (.return_, 1) := by decide +kernel
theorem dX3_givenCell_0 : decode cX3_givenCell 0 = .ok (.aload_n 0, 1) := by decide +kernel
theorem dX3_givenCell_1 : decode cX3_givenCell 1 = .ok (.getfield 29, 3) := by decide +kernel
theorem dX3_givenCell_4 : decode cX3_givenCell 4 = .ok (.getfield 100, 3) := by decide +kernel
theorem dX3_givenCell_7 : decode cX3_givenCell 7 = .ok (.iconst 1, 1) := by decide +kernel
theorem dX3_givenCell_8 : decode cX3_givenCell 8 = .ok (.isub, 1) := by decide +kernel
theorem dX3_givenCell_9 : decode cX3_givenCell 9 = .ok (.istore_n 1, 1) := by decide +kernel
theorem dX3_givenCell_10 : decode cX3_givenCell 10 = .ok (.aload_n 0, 1) := by decide +kernel
theorem dX3_givenCell_11 : decode cX3_givenCell 11 = .ok (.invokevirtual 62, 3) := by decide +kernel
theorem dX3_givenCell_14 : decode cX3_givenCell 14 = .ok (.iconst 3, 1) := by decide +kernel
theorem dX3_givenCell_15 : decode cX3_givenCell 15 = .ok (.if_icmp .eq 11, 3) := by decide +kernel
theorem dX3_givenCell_18 : decode cX3_givenCell 18 = .ok (.aload_n 0, 1) := by decide +kernel
theorem dX3_givenCell_19 : decode cX3_givenCell 19 = .ok (.iconst 1, 1) := by decide +kernel
theorem dX3_givenCell_20 : decode cX3_givenCell 20 = .ok (.invokevirtual 78, 3) := by decide +kernel
theorem dX3_givenCell_23 : decode cX3_givenCell 23 = .ok (.goto 83, 3) := by decide +kernel
theorem dX3_givenCell_26 : decode cX3_givenCell 26 = .ok (.aload_n 0, 1) := by decide +kernel
theorem dX3_givenCell_27 : decode cX3_givenCell 27 = .ok (.getfield 29, 3) := by decide +kernel
theorem dX3_givenCell_30 : decode cX3_givenCell 30 = .ok (.iload_n 1, 1) := by decide +kernel
theorem dX3_givenCell_31 : decode cX3_givenCell 31 = .ok (.aload_n 0, 1) := by decide +kernel
theorem dX3_givenCell_32 : decode cX3_givenCell 32 = .ok (.getfield 25, 3) := by decide +kernel
theorem dX3_givenCell_35 : decode cX3_givenCell 35 = .ok (.getfield 106, 3) := by decide +kernel
theorem dX3_givenCell_38 : decode cX3_givenCell 38 = .ok (.aload_n 0, 1) := by decide +kernel
theorem dX3_givenCell_39 : decode cX3_givenCell 39 = .ok (.getfield 43, 3) := by decide +kernel
theorem dX3_givenCell_42 : decode cX3_givenCell 42 = .ok (.laload, 1) := by decide +kernel
theorem dX3_givenCell_43 : decode cX3_givenCell 43 = .ok (.invokevirtual 123, 3) := by decide +kernel
theorem dX3_givenCell_46 : decode cX3_givenCell 46 = .ok (.iconst (-1), 1) := by decide +kernel
theorem dX3_givenCell_47 : decode cX3_givenCell 47 = .ok (.if_icmp .eq 11, 3) := by decide +kernel
theorem dX3_givenCell_50 : decode cX3_givenCell 50 = .ok (.aload_n 0, 1) := by decide +kernel
theorem dX3_givenCell_51 : decode cX3_givenCell 51 = .ok (.iconst 3, 1) := by decide +kernel
theorem dX3_givenCell_52 : decode cX3_givenCell 52 = .ok (.invokevirtual 78, 3) := by decide +kernel
theorem dX3_givenCell_55 : decode cX3_givenCell 55 = .ok (.goto 51, 3) := by decide +kernel
theorem dX3_givenCell_58 : decode cX3_givenCell 58 = .ok (.aload_n 0, 1) := by decide +kernel
theorem dX3_givenCell_59 : decode cX3_givenCell 59 = .ok (.getfield 29, 3) := by decide +kernel
theorem dX3_givenCell_62 : decode cX3_givenCell 62 = .ok (.aload_n 0, 1) := by decide +kernel
theorem dX3_givenCell_63 : decode cX3_givenCell 63 = .ok (.getfield 25, 3) := by decide +kernel
theorem dX3_givenCell_66 : decode cX3_givenCell 66 = .ok (.getfield 106, 3) := by decide +kernel
theorem dX3_givenCell_69 : decode cX3_givenCell 69 = .ok (.aload_n 0, 1) := by decide +kernel
theorem dX3_givenCell_70 : decode cX3_givenCell 70 = .ok (.getfield 43, 3) := by decide +kernel
theorem dX3_givenCell_73 : decode cX3_givenCell 73 = .ok (.laload, 1) := by decide +kernel
theorem dX3_givenCell_74 : decode cX3_givenCell 74 = .ok (.invokevirtual 127, 3) := by decide +kernel
theorem dX3_givenCell_77 : decode cX3_givenCell 77 = .ok (.iconst (-1), 1) := by decide +kernel
theorem dX3_givenCell_78 : decode cX3_givenCell 78 = .ok (.if_icmp .ne 11, 3) := by decide +kernel
theorem dX3_givenCell_81 : decode cX3_givenCell 81 = .ok (.aload_n 0, 1) := by decide +kernel
theorem dX3_givenCell_82 : decode cX3_givenCell 82 = .ok (.iconst 5, 1) := by decide +kernel
theorem dX3_givenCell_83 : decode cX3_givenCell 83 = .ok (.invokevirtual 78, 3) := by decide +kernel
theorem dX3_givenCell_86 : decode cX3_givenCell 86 = .ok (.goto 20, 3) := by decide +kernel
theorem dX3_givenCell_89 : decode cX3_givenCell 89 = .ok (.aload_n 0, 1) := by decide +kernel
theorem dX3_givenCell_90 : decode cX3_givenCell 90 = .ok (.getfield 29, 3) := by decide +kernel
theorem dX3_givenCell_93 : decode cX3_givenCell 93 = .ok (.getfield 130, 3) := by decide +kernel
theorem dX3_givenCell_96 : decode cX3_givenCell 96 = .ok (.iload_n 1, 1) := by decide +kernel
theorem dX3_givenCell_97 : decode cX3_givenCell 97 = .ok (.dup2, 1) := by decide +kernel
theorem dX3_givenCell_98 : decode cX3_givenCell 98 = .ok (.iaload, 1) := by decide +kernel
theorem dX3_givenCell_99 : decode cX3_givenCell 99 = .ok (.iconst 1, 1) := by decide +kernel
theorem dX3_givenCell_100 : decode cX3_givenCell 100 = .ok (.iadd, 1) := by decide +kernel
theorem dX3_givenCell_101 : decode cX3_givenCell 101 = .ok (.iastore, 1) := by decide +kernel
theorem dX3_givenCell_102 : decode cX3_givenCell 102 = .ok (.aload_n 0, 1) := by decide +kernel
theorem dX3_givenCell_103 : decode cX3_givenCell 103 = .ok (.invokevirtual 103, 3) := by decide +kernel
theorem dX3_givenCell_106 : decode cX3_givenCell 106 = .ok (.return_, 1) := by decide +kernel
theorem dX5_cellNamed_0 : decode cX5_cellNamed 0 = .ok (.aload_n 0, 1) := by decide +kernel
theorem dX5_cellNamed_1 : decode cX5_cellNamed 1 = .ok (.iload_n 1, 1) := by decide +kernel
theorem dX5_cellNamed_2 : decode cX5_cellNamed 2 = .ok (.invokevirtual 63, 3) := by decide +kernel
theorem dX5_cellNamed_5 : decode cX5_cellNamed 5 = .ok (.ifCond .eq 12, 3) := by decide +kernel
theorem dX5_cellNamed_8 : decode cX5_cellNamed 8 = .ok (.aload_n 0, 1) := by decide +kernel
theorem dX5_cellNamed_9 : decode cX5_cellNamed 9 = .ok (.getfield 37, 3) := by decide +kernel
theorem dX5_cellNamed_12 : decode cX5_cellNamed 12 = .ok (.iload_n 1, 1) := by decide +kernel
theorem dX5_cellNamed_13 : decode cX5_cellNamed 13 = .ok (.iaload, 1) := by decide +kernel
theorem dX5_cellNamed_14 : decode cX5_cellNamed 14 = .ok (.goto 4, 3) := by decide +kernel
theorem dX5_cellNamed_17 : decode cX5_cellNamed 17 = .ok (.iconst 0, 1) := by decide +kernel
theorem dX5_cellNamed_18 : decode cX5_cellNamed 18 = .ok (.istore 4, 2) := by decide +kernel
theorem dX5_cellNamed_20 : decode cX5_cellNamed 20 = .ok (.iconst 0, 1) := by decide +kernel
theorem dX5_cellNamed_21 : decode cX5_cellNamed 21 = .ok (.istore 5, 2) := by decide +kernel
theorem dX5_cellNamed_23 : decode cX5_cellNamed 23 = .ok (.iload 5, 2) := by decide +kernel
theorem dX5_cellNamed_25 : decode cX5_cellNamed 25 = .ok (.iload 4, 2) := by decide +kernel
theorem dX5_cellNamed_27 : decode cX5_cellNamed 27 = .ok (.if_icmp .ge 29, 3) := by decide +kernel
theorem dX5_cellNamed_30 : decode cX5_cellNamed 30 = .ok (.aload_n 0, 1) := by decide +kernel
theorem dX5_cellNamed_31 : decode cX5_cellNamed 31 = .ok (.getfield 50, 3) := by decide +kernel
theorem dX5_cellNamed_34 : decode cX5_cellNamed 34 = .ok (.iload_n 1, 1) := by decide +kernel
theorem dX5_cellNamed_35 : decode cX5_cellNamed 35 = .ok (.bipush 12, 2) := by decide +kernel
theorem dX5_cellNamed_37 : decode cX5_cellNamed 37 = .ok (.imul, 1) := by decide +kernel
theorem dX5_cellNamed_38 : decode cX5_cellNamed 38 = .ok (.iload 5, 2) := by decide +kernel
theorem dX5_cellNamed_40 : decode cX5_cellNamed 40 = .ok (.iadd, 1) := by decide +kernel
theorem dX5_cellNamed_41 : decode cX5_cellNamed 41 = .ok (.laload, 1) := by decide +kernel
theorem dX5_cellNamed_42 : decode cX5_cellNamed 42 = .ok (.lload_n 2, 1) := by decide +kernel
theorem dX5_cellNamed_43 : decode cX5_cellNamed 43 = .ok (.lcmp, 1) := by decide +kernel
theorem dX5_cellNamed_44 : decode cX5_cellNamed 44 = .ok (.ifCond .ne 6, 3) := by decide +kernel
theorem dX5_cellNamed_47 : decode cX5_cellNamed 47 = .ok (.iload 5, 2) := by decide +kernel
theorem dX5_cellNamed_49 : decode cX5_cellNamed 49 = .ok (.ireturn, 1) := by decide +kernel
theorem dX5_cellNamed_50 : decode cX5_cellNamed 50 = .ok (.iinc 5 1, 3) := by decide +kernel
theorem dX5_cellNamed_53 : decode cX5_cellNamed 53 = .ok (.goto (-30), 3) := by decide +kernel
theorem dX5_cellNamed_56 : decode cX5_cellNamed 56 = .ok (.iconst (-1), 1) := by decide +kernel
theorem dX5_cellNamed_57 : decode cX5_cellNamed 57 = .ok (.ireturn, 1) := by decide +kernel
theorem dX5_openRoutine_0 : decode cX5_openRoutine 0 = .ok (.aload_n 0, 1) := by decide +kernel
theorem dX5_openRoutine_1 : decode cX5_openRoutine 1 = .ok (.getfield 57, 3) := by decide +kernel
theorem dX5_openRoutine_4 : decode cX5_openRoutine 4 = .ok (.bipush 12, 2) := by decide +kernel
theorem dX5_openRoutine_6 : decode cX5_openRoutine 6 = .ok (.if_icmp .ge 66, 3) := by decide +kernel
theorem dX5_openRoutine_9 : decode cX5_openRoutine 9 = .ok (.aload_n 0, 1) := by decide +kernel
theorem dX5_openRoutine_10 : decode cX5_openRoutine 10 = .ok (.getfield 46, 3) := by decide +kernel
theorem dX5_openRoutine_13 : decode cX5_openRoutine 13 = .ok (.aload_n 0, 1) := by decide +kernel
theorem dX5_openRoutine_14 : decode cX5_openRoutine 14 = .ok (.getfield 57, 3) := by decide +kernel
theorem dX5_openRoutine_17 : decode cX5_openRoutine 17 = .ok (.lload_n 1, 1) := by decide +kernel
theorem dX5_openRoutine_18 : decode cX5_openRoutine 18 = .ok (.lastore, 1) := by decide +kernel
theorem dX5_openRoutine_19 : decode cX5_openRoutine 19 = .ok (.aload_n 0, 1) := by decide +kernel
theorem dX5_openRoutine_20 : decode cX5_openRoutine 20 = .ok (.getfield 28, 3) := by decide +kernel
theorem dX5_openRoutine_23 : decode cX5_openRoutine 23 = .ok (.aload_n 0, 1) := by decide +kernel
theorem dX5_openRoutine_24 : decode cX5_openRoutine 24 = .ok (.getfield 57, 3) := by decide +kernel
theorem dX5_openRoutine_27 : decode cX5_openRoutine 27 = .ok (.aload_n 0, 1) := by decide +kernel
theorem dX5_openRoutine_28 : decode cX5_openRoutine 28 = .ok (.getfield 53, 3) := by decide +kernel
theorem dX5_openRoutine_31 : decode cX5_openRoutine 31 = .ok (.iastore, 1) := by decide +kernel
theorem dX5_openRoutine_32 : decode cX5_openRoutine 32 = .ok (.aload_n 0, 1) := by decide +kernel
theorem dX5_openRoutine_33 : decode cX5_openRoutine 33 = .ok (.getfield 34, 3) := by decide +kernel
theorem dX5_openRoutine_36 : decode cX5_openRoutine 36 = .ok (.aload_n 0, 1) := by decide +kernel
theorem dX5_openRoutine_37 : decode cX5_openRoutine 37 = .ok (.getfield 57, 3) := by decide +kernel
theorem dX5_openRoutine_40 : decode cX5_openRoutine 40 = .ok (.iconst 0, 1) := by decide +kernel
theorem dX5_openRoutine_41 : decode cX5_openRoutine 41 = .ok (.iastore, 1) := by decide +kernel
theorem dX5_openRoutine_42 : decode cX5_openRoutine 42 = .ok (.aload_n 0, 1) := by decide +kernel
theorem dX5_openRoutine_43 : decode cX5_openRoutine 43 = .ok (.getfield 37, 3) := by decide +kernel
theorem dX5_openRoutine_46 : decode cX5_openRoutine 46 = .ok (.aload_n 0, 1) := by decide +kernel
theorem dX5_openRoutine_47 : decode cX5_openRoutine 47 = .ok (.getfield 57, 3) := by decide +kernel
theorem dX5_openRoutine_50 : decode cX5_openRoutine 50 = .ok (.iconst 0, 1) := by decide +kernel
theorem dX5_openRoutine_51 : decode cX5_openRoutine 51 = .ok (.iastore, 1) := by decide +kernel
theorem dX5_openRoutine_52 : decode cX5_openRoutine 52 = .ok (.aload_n 0, 1) := by decide +kernel
theorem dX5_openRoutine_53 : decode cX5_openRoutine 53 = .ok (.getfield 40, 3) := by decide +kernel
theorem dX5_openRoutine_56 : decode cX5_openRoutine 56 = .ok (.aload_n 0, 1) := by decide +kernel
theorem dX5_openRoutine_57 : decode cX5_openRoutine 57 = .ok (.getfield 57, 3) := by decide +kernel
theorem dX5_openRoutine_60 : decode cX5_openRoutine 60 = .ok (.iconst 0, 1) := by decide +kernel
theorem dX5_openRoutine_61 : decode cX5_openRoutine 61 = .ok (.iastore, 1) := by decide +kernel
theorem dX5_openRoutine_62 : decode cX5_openRoutine 62 = .ok (.aload_n 0, 1) := by decide +kernel
theorem dX5_openRoutine_63 : decode cX5_openRoutine 63 = .ok (.dup, 1) := by decide +kernel
theorem dX5_openRoutine_64 : decode cX5_openRoutine 64 = .ok (.getfield 57, 3) := by decide +kernel
theorem dX5_openRoutine_67 : decode cX5_openRoutine 67 = .ok (.iconst 1, 1) := by decide +kernel
theorem dX5_openRoutine_68 : decode cX5_openRoutine 68 = .ok (.iadd, 1) := by decide +kernel
theorem dX5_openRoutine_69 : decode cX5_openRoutine 69 = .ok (.putfield 57, 3) := by decide +kernel
theorem dX5_openRoutine_72 : decode cX5_openRoutine 72 = .ok (.return_, 1) := by decide +kernel
theorem dX5_routineNamed_0 : decode cX5_routineNamed 0 = .ok (.iconst 0, 1) := by decide +kernel
theorem dX5_routineNamed_1 : decode cX5_routineNamed 1 = .ok (.istore_n 3, 1) := by decide +kernel
theorem dX5_routineNamed_2 : decode cX5_routineNamed 2 = .ok (.iload_n 3, 1) := by decide +kernel
theorem dX5_routineNamed_3 : decode cX5_routineNamed 3 = .ok (.aload_n 0, 1) := by decide +kernel
theorem dX5_routineNamed_4 : decode cX5_routineNamed 4 = .ok (.getfield 57, 3) := by decide +kernel
theorem dX5_routineNamed_7 : decode cX5_routineNamed 7 = .ok (.if_icmp .ge 22, 3) := by decide +kernel
theorem dX5_routineNamed_10 : decode cX5_routineNamed 10 = .ok (.aload_n 0, 1) := by decide +kernel
theorem dX5_routineNamed_11 : decode cX5_routineNamed 11 = .ok (.getfield 46, 3) := by decide +kernel
theorem dX5_routineNamed_14 : decode cX5_routineNamed 14 = .ok (.iload_n 3, 1) := by decide +kernel
theorem dX5_routineNamed_15 : decode cX5_routineNamed 15 = .ok (.laload, 1) := by decide +kernel
theorem dX5_routineNamed_16 : decode cX5_routineNamed 16 = .ok (.lload_n 1, 1) := by decide +kernel
theorem dX5_routineNamed_17 : decode cX5_routineNamed 17 = .ok (.lcmp, 1) := by decide +kernel
theorem dX5_routineNamed_18 : decode cX5_routineNamed 18 = .ok (.ifCond .ne 5, 3) := by decide +kernel
theorem dX5_routineNamed_21 : decode cX5_routineNamed 21 = .ok (.iload_n 3, 1) := by decide +kernel
theorem dX5_routineNamed_22 : decode cX5_routineNamed 22 = .ok (.ireturn, 1) := by decide +kernel
theorem dX5_routineNamed_23 : decode cX5_routineNamed 23 = .ok (.iinc 3 1, 3) := by decide +kernel
theorem dX5_routineNamed_26 : decode cX5_routineNamed 26 = .ok (.goto (-24), 3) := by decide +kernel
theorem dX5_routineNamed_29 : decode cX5_routineNamed 29 = .ok (.iconst (-1), 1) := by decide +kernel
theorem dX5_routineNamed_30 : decode cX5_routineNamed 30 = .ok (.ireturn, 1) := by decide +kernel
def wp_X3_block_67 (r_X3_block : Nat → Int32 → kS → (kS → Prop) → Prop) (K : kS → Prop) (x0 : Nat) (S : kS) : Prop := hasO S x0 3 ∧ wp_X3_need x0 125 S (fun (S14 : kS) => K S14)
def wp_X3_block_37 (r_X3_block : Nat → Int32 → kS → (kS → Prop) → Prop) (K : kS → Prop) (k37 : Nat × Int32 × Int32 × kS → Prop) (x0 : Nat) (x1 : Int32) (x2 : Int32) (S : kS) : Prop := ((4000 ≤ x2 → wp_X3_block_67 r_X3_block K x0 S) ∧ (¬ 4000 ≤ x2 → hasO S x0 3 ∧ wp_X3_kind x0 S (fun (S8 : kS) (r8 : Int32) => wp_X3_startsStatement r8 S8 (fun (S9 : kS) (r9 : Int32) => ((r9 = 0 → wp_X3_block_67 r_X3_block K x0 S9) ∧ (¬ r9 = 0 → ∀ z11 : Int32, z11 = x1 + 1 → hasO S9 x0 3 ∧ wp_X3_statement r_X3_block x0 z11 S9 (fun (S12 : kS) => ∀ z13 : Int32, z13 = x2 + 1 → k37 (x0, x1, z13, S12))))))))
def ls_X3_block_37 (r_X3_block : Nat → Int32 → kS → (kS → Prop) → Prop) (K : kS → Prop) (k37 : Nat × Int32 × Int32 × kS → Prop) (u : Nat × Int32 × Int32 × kS) : Prop := wp_X3_block_37 r_X3_block K k37 u.1 u.2.1 u.2.2.1 u.2.2.2
def wp_X3_block (r_X3_block : Nat → Int32 → kS → (kS → Prop) → Prop) (t0 : Nat) (a0 : Int32) (S : kS) (K : kS → Prop) : Prop := hasO S t0 3 ∧ wp_X3_kind t0 S (fun (S1 : kS) (r1 : Int32) => ((r1 = 123 → ((a0 < 10 → hasO S1 t0 3 ∧ wp_X3_step t0 S1 (fun (S4 : kS) => (∃ n9, it (ls_X3_block_37 r_X3_block K) n9 (t0, a0, 0, S4)))) ∧ (¬ a0 < 10 → hasO S1 t0 3 ∧ wp_X3_wrong t0 5 S1 (fun (S5 : kS) => K S5)))) ∧ (¬ r1 = 123 → hasO S1 t0 3 ∧ wp_X3_wrong t0 1 S1 (fun (S6 : kS) => K S6))))
theorem cw_X3_133 {R : Room} {s : State} {args : Array Value} {fr lo : Nat} (hts : ∀ w ∈ tb, w.before args s = true) (h1 : fr + 1 ≤ R.frames) (h2 : 8 + (1 + 11) + lo ≤ R.locals) : CallB R s args RX3 133 yX3_startsStatement cX3_startsStatement 1 (some .boolean) (.code yX3_startsStatement cX3_startsStatement 1 (some .boolean) :: tb) (mRm fr lo) 0 0 1 ∧ (Cond.static yX3_startsStatement).before args s = true := cwS 1 hts (gd_S wd_660 wd_661 wd_7 wd_662) rfl rfl rfl (by decide +kernel) ⟨h1, h2⟩
theorem cw_X3_136 {R : Room} {s : State} {args : Array Value} {fr lo : Nat} (hts : ∀ w ∈ tb, w.before args s = true) (h1 : fr + 1 ≤ R.frames) (h2 : 8 + (3 + 11) + lo ≤ R.locals) : CallW R s args RX3 RX3 136 yX3_statement cX3_statement 3 none (.code yX3_statement cX3_statement 3 none :: tb) (mRm fr lo) 0 0 1 := cwV 1 hts (gd_V wd_663 wd_665 sl_X3_statement wd_7 wd_666) rfl rfl rfl (by decide +kernel) ⟨h1, h2⟩
set_option maxHeartbeats 4000000 in
set_option maxRecDepth 100000 in
theorem ko_X3_block (l : Launch) (fr lo F Lo : Nat) (r_X3_block : Nat → Int32 → kS → (kS → Prop) → Prop) (hr_X3_block : ∀ (t0 : Nat) (a0 : Int32) (S : kS) (K : kS → Prop), r_X3_block t0 a0 S K → kMv l yX3_block cX3_block 3 none fr lo [.ref t0, .int a0] S K) (hF : fr + 4 ≤ F) (hL : lo + 90 ≤ Lo) (hF0 : 85 ≤ F) (hL0 : 2029 ≤ Lo) (S : kS) (t0 : Nat) (a0 : Int32) (K : kS → Prop) (h : wp_X3_block r_X3_block t0 a0 S K) : kMv l yX3_block cX3_block 3 none F Lo [.ref t0, .int a0] S K := by
  refine kv_ofv (own := RX3) (by decide) rfl (Nat.le_of_ble_eq_true rfl) ?_
  intro E p e R s m args below meth c A ls Q hRf hRl hX hC hl hret
  have hx := hX.1.1
  have hb := hX.1.2.1
  have hown := hX.1.2.2.2.1
  have hts := hX.1.2.2.2.2
  have cut67 : ∀ (x0 : Nat) (S : kS) (H : Heap) (locs : List Loc) (ls : Array Slot), wp_X3_block_67 r_X3_block K x0 S → cM E A s.heap S H locs → lv_has ls 3 [(0, .ref x0)] → W p l e R s m args below meth c H locs 0 0 Q (F0 m 67 ls []) := by
    intro x0 S H locs ls h hC hl
    unfold wp_X3_block_67 at h
    refine lv_aload_n hx hb dX3_block_67 rfl (lv_at hl 0 rfl) ?_
    refine lv_bipush (v := 125) hx hb dX3_block_68 (by decide) ?_
    refine kv_callv [.int 125] (rest := []) (ci := 3) rfl hX hC h.1 (kt_X3_need l S x0 125 _ h.2 E _) (cw_X3_117 hts (by omega) (by omega)) rfl hl.1 (Nat.le_of_ble_eq_true rfl) ⟨Nat.zero_le _, Nat.zero_le _⟩ dX3_block_70 (fun S14 H locs hC h => ?_)
    exact hret _ _ _ _ _ hC h dX3_block_73
  have cut37 : ∀ (n37 : Nat) (x0 : Nat) (x1 : Int32) (x2 : Int32) (S : kS) (H : Heap) (locs : List Loc) (ls : Array Slot), it (ls_X3_block_37 r_X3_block K) n37 (x0, x1, x2, S) → cM E A s.heap S H locs → lv_has ls 3 [(0, .ref x0), (1, .int x1), (2, .int x2)] → W p l e R s m args below meth c H locs 0 0 Q (F0 m 37 ls []) := by
    intro n37
    induction n37 with
    | zero => intro x0 x1 x2 S H locs ls h hC hl; exact h.elim
    | succ n37 ih37 =>
      intro x0 x1 x2 S H locs ls h hC hl
      have h : wp_X3_block_37 r_X3_block K (it (ls_X3_block_37 r_X3_block K) n37) x0 x1 x2 S := h
      unfold wp_X3_block_37 at h
      refine lv_iload_n hx hb dX3_block_37 rfl (lv_at hl 2 rfl) ?_
      refine lv_sipush (v := 4000) hx hb dX3_block_38 (by decide) ?_
      refine lv_icmp_ge (tgt := 67) hx hb dX3_block_41 (by decide) (fun c7 => ?_) (fun c7 => ?_)
      · have h := h.1 c7
        exact cut67 x0 S _ _ _ h hC (lv_sub hl [0] rfl)
      · have h := h.2 c7
        refine lv_aload_n hx hb dX3_block_44 rfl (lv_at hl 0 rfl) ?_
        refine kv_calli [] (rest := []) (ci := 3) rfl hX hC h.1 (kt_X3_kind l S x0 _ h.2 E _) (cw_X3_62 hts (by omega) (by omega)) rfl hl.1 (Nat.le_of_ble_eq_true rfl) ⟨Nat.zero_le _, Nat.zero_le _⟩ dX3_block_45 (fun r8 S8 H locs hC h => ?_)
        refine kv_callsi [.int r8] (rest := []) hX hC (kt_X3_startsStatement l S8 r8 _ h E _) (cw_X3_133 hts (by omega) (by omega)) rfl hl.1 (Nat.le_of_ble_eq_true rfl) ⟨Nat.zero_le _, Nat.zero_le _⟩ dX3_block_48 (fun r9 S9 H locs hC h => ?_)
        refine lv_if_eq (tgt := 67) hx hb dX3_block_51 (by decide) (fun c10 => ?_) (fun c10 => ?_)
        · have h := h.1 c10
          exact cut67 x0 S9 _ _ _ h hC (lv_sub hl [0] rfl)
        · have h := h.2 c10
          refine lv_aload_n hx hb dX3_block_54 rfl (lv_at hl 0 rfl) ?_
          refine lv_iload_n hx hb dX3_block_55 rfl (lv_at hl 1 rfl) ?_
          refine lv_iconst (v := 1) hx hb dX3_block_56 (by decide) ?_
          refine lq_iadd hx hb dX3_block_57 h (fun z11 h => ?_)
          refine kv_callv [.int z11] (rest := []) (ci := 3) rfl hX hC h.1 (ko_X3_statement l fr lo (max (fr + 3) 84) (max (lo + 68) 2007) r_X3_block hr_X3_block (Nat.le_max_left _ _) (Nat.le_max_left _ _) (Nat.le_max_right _ _) (Nat.le_max_right _ _) S9 x0 z11 _ h.2 E _) (cw_X3_136 hts (by omega) (by omega)) rfl hl.1 (Nat.le_of_ble_eq_true rfl) ⟨Nat.zero_le _, Nat.zero_le _⟩ dX3_block_58 (fun S12 H locs hC h => ?_)
          obtain ⟨z13, ez13⟩ : ∃ y : Int32, y = x2 + 1 := ⟨_, rfl⟩
          have h := h z13 ez13
          refine lv_iinc (v := z13) (lv' := [(2, .int z13), (0, .ref x0), (1, .int x1)]) hx hb dX3_block_61 hl (k := 2) rfl (by rw [ez13]; rfl) (by decide) rfl (fun ls hl => ?_)
          refine lv_goto (tgt := 37) hx hb dX3_block_64 (by decide) ?_
          exact ih37 x0 x1 z13 S12 _ _ _ h hC (lv_sub hl [1, 2, 0] rfl)
  have hl : lv_has ls 3 [(0, .ref t0), (1, .int a0)] := hl
  unfold wp_X3_block at h
  refine lv_aload_n hx hb dX3_block_0 rfl (lv_at hl 0 rfl) ?_
  refine kv_calli [] (rest := []) (ci := 3) rfl hX hC h.1 (kt_X3_kind l S t0 _ h.2 E _) (cw_X3_62 hts (by omega) (by omega)) rfl hl.1 (Nat.le_of_ble_eq_true rfl) ⟨Nat.zero_le _, Nat.zero_le _⟩ dX3_block_1 (fun r1 S1 H locs hC h => ?_)
  refine lv_bipush (v := 123) hx hb dX3_block_4 (by decide) ?_
  refine lv_icmp_eq (tgt := 17) hx hb dX3_block_6 (by decide) (fun c2 => ?_) (fun c2 => ?_)
  · have h := h.1 c2
    refine lv_iload_n hx hb dX3_block_17 rfl (lv_at hl 1 rfl) ?_
    refine lv_bipush (v := 10) hx hb dX3_block_18 (by decide) ?_
    refine lv_icmp_lt (tgt := 31) hx hb dX3_block_20 (by decide) (fun c3 => ?_) (fun c3 => ?_)
    · have h := h.1 c3
      refine lv_aload_n hx hb dX3_block_31 rfl (lv_at hl 0 rfl) ?_
      refine kv_callv [] (rest := []) (ci := 3) rfl hX hC h.1 (kt_X3_step l S1 t0 _ h.2 E _) (cw_X3_103 hts (by omega) (by omega)) rfl hl.1 (Nat.le_of_ble_eq_true rfl) ⟨Nat.zero_le _, Nat.zero_le _⟩ dX3_block_32 (fun S4 H locs hC h => ?_)
      refine lv_iconst (v := 0) hx hb dX3_block_35 (by decide) ?_
      refine lv_istore_n (lv' := [(2, .int 0), (0, .ref t0), (1, .int a0)]) hx hb dX3_block_36 rfl hl (by decide) rfl (fun ls hl => ?_)
      obtain ⟨n9, h⟩ := h
      exact cut37 n9 t0 a0 0 S4 _ _ _ h hC (lv_sub hl [1, 2, 0] rfl)
    · have h := h.2 c3
      refine lv_aload_n hx hb dX3_block_23 rfl (lv_at hl 0 rfl) ?_
      refine lv_iconst (v := 5) hx hb dX3_block_24 (by decide) ?_
      refine kv_callv [.int 5] (rest := []) (ci := 3) rfl hX hC h.1 (kt_X3_wrong l S1 t0 5 _ h.2 E _) (cw_X3_78 hts (by omega) (by omega)) rfl hl.1 (Nat.le_of_ble_eq_true rfl) ⟨Nat.zero_le _, Nat.zero_le _⟩ dX3_block_25 (fun S5 H locs hC h => ?_)
      refine lv_goto (tgt := 73) hx hb dX3_block_28 (by decide) ?_
      exact hret _ _ _ _ _ hC h dX3_block_73
  · have h := h.2 c2
    refine lv_aload_n hx hb dX3_block_9 rfl (lv_at hl 0 rfl) ?_
    refine lv_iconst (v := 1) hx hb dX3_block_10 (by decide) ?_
    refine kv_callv [.int 1] (rest := []) (ci := 3) rfl hX hC h.1 (kt_X3_wrong l S1 t0 1 _ h.2 E _) (cw_X3_78 hts (by omega) (by omega)) rfl hl.1 (Nat.le_of_ble_eq_true rfl) ⟨Nat.zero_le _, Nat.zero_le _⟩ dX3_block_11 (fun S6 H locs hC h => ?_)
    refine lv_goto (tgt := 73) hx hb dX3_block_14 (by decide) ?_
    exact hret _ _ _ _ _ hC h dX3_block_73
def wr_X3_block : Nat → Nat → Int32 → kS → (kS → Prop) → Prop
  | 0 => fun _ _ _ _ => False
  | n + 1 => wp_X3_block (wr_X3_block n)
def wq_X3_finished : Nat → Int32 → Int32 → kS → (kS → Prop) → Prop := wp_X3_finished (wr_X3_block 12)
def wq_X3_tried : Nat → Int32 → kS → (kS → Prop) → Prop := wp_X3_tried (wr_X3_block 12)
def wq_X3_repeated : Nat → Int32 → Int32 → kS → (kS → Prop) → Prop := wp_X3_repeated (wr_X3_block 12)
def wq_X3_choice : Nat → Int32 → kS → (kS → Prop) → Prop := wp_X3_choice (wr_X3_block 12)
def wq_X3_statement : Nat → Int32 → kS → (kS → Prop) → Prop := wp_X3_statement (wr_X3_block 12)
def wq_X3_block : Nat → Int32 → kS → (kS → Prop) → Prop := wr_X3_block 12
set_option maxRecDepth 100000 in
theorem cr_X3_block (l : Launch) : ∀ n : Nat, (∀ (t0 : Nat) (a0 : Int32) (S : kS) (K : kS → Prop), (wr_X3_block n) t0 a0 S K → kMv l yX3_block cX3_block 3 none (4 * n + 85) (90 * n + 2029) [.ref t0, .int a0] S K) := by
  intro n
  induction n with
  | zero => exact fun _ _ _ _ h => h.elim
  | succ n ih => exact fun t0 a0 S K h => ko_X3_block l (4 * n + 85) (90 * n + 2029) _ _ (wr_X3_block n) ih (by omega) (by omega) (by omega) (by omega) S t0 a0 K h
theorem kt_X3_finished (l : Launch) (S : kS) (t0 : Nat) (a0 : Int32) (a1 : Int32) (K : kS → Prop) (h : wq_X3_finished t0 a0 a1 S K) : kMv l yX3_finished cX3_finished 4 none 134 3131 [.ref t0, .int a0, .int a1] S K := ko_X3_finished l (4 * 12 + 85) (90 * 12 + 2029) _ _ (wr_X3_block 12) (cr_X3_block l 12) (by omega) (by omega) (by omega) (by omega) S t0 a0 a1 K h
theorem kt_X3_tried (l : Launch) (S : kS) (t0 : Nat) (a0 : Int32) (K : kS → Prop) (h : wq_X3_tried t0 a0 S K) : kMv l yX3_tried cX3_tried 4 none 135 3154 [.ref t0, .int a0] S K := ko_X3_tried l (4 * 12 + 85) (90 * 12 + 2029) _ _ (wr_X3_block 12) (cr_X3_block l 12) (by omega) (by omega) (by omega) (by omega) S t0 a0 K h
theorem kt_X3_repeated (l : Launch) (S : kS) (t0 : Nat) (a0 : Int32) (a1 : Int32) (K : kS → Prop) (h : wq_X3_repeated t0 a0 a1 S K) : kMv l yX3_repeated cX3_repeated 6 none 134 3131 [.ref t0, .int a0, .int a1] S K := ko_X3_repeated l (4 * 12 + 85) (90 * 12 + 2029) _ _ (wr_X3_block 12) (cr_X3_block l 12) (by omega) (by omega) (by omega) (by omega) S t0 a0 a1 K h
theorem kt_X3_choice (l : Launch) (S : kS) (t0 : Nat) (a0 : Int32) (K : kS → Prop) (h : wq_X3_choice t0 a0 S K) : kMv l yX3_choice cX3_choice 4 none 134 3131 [.ref t0, .int a0] S K := ko_X3_choice l (4 * 12 + 85) (90 * 12 + 2029) _ _ (wr_X3_block 12) (cr_X3_block l 12) (by omega) (by omega) (by omega) (by omega) S t0 a0 K h
theorem kt_X3_statement (l : Launch) (S : kS) (t0 : Nat) (a0 : Int32) (K : kS → Prop) (h : wq_X3_statement t0 a0 S K) : kMv l yX3_statement cX3_statement 3 none 136 3177 [.ref t0, .int a0] S K := ko_X3_statement l (4 * 12 + 85) (90 * 12 + 2029) _ _ (wr_X3_block 12) (cr_X3_block l 12) (by omega) (by omega) (by omega) (by omega) S t0 a0 K h
theorem kt_X3_block (l : Launch) (S : kS) (t0 : Nat) (a0 : Int32) (K : kS → Prop) (h : wq_X3_block t0 a0 S K) : kMv l yX3_block cX3_block 3 none (4 * 12 + 85) (90 * 12 + 2029) [.ref t0, .int a0] S K := cr_X3_block l 12 t0 a0 S K h
def wp_X5_routineNamed_2 (K : kS → Int32 → Prop) (k2 : Nat × Int64 × Int32 × kS → Prop) (x0 : Nat) (x1 : Int64) (x3 : Int32) (S : kS) : Prop := hasO S x0 5 ∧ ∀ z1 : Int32, z1 = S.1 18 x0 → ((z1 ≤ x3 → K S (-1)) ∧ (¬ z1 ≤ x3 → hasO S x0 5 ∧ ∀ z3 : Option Nat, z3 = S.2.1 38 x0 → ∃ q4 : Nat, z3 = some q4 ∧ hasA S q4 12 1 ∧ inR x3 12 ∧ ∀ z5 : Int64, z5 = S.2.2.2.1 q4 (ix x3) → ∀ z6 : Int32, z6 = lg_cmp z5 x1 → ((¬ z6 = 0 → ∀ z8 : Int32, z8 = x3 + 1 → k2 (x0, x1, z8, S)) ∧ (z6 = 0 → K S x3))))
def ls_X5_routineNamed_2 (K : kS → Int32 → Prop) (k2 : Nat × Int64 × Int32 × kS → Prop) (u : Nat × Int64 × Int32 × kS) : Prop := wp_X5_routineNamed_2 K k2 u.1 u.2.1 u.2.2.1 u.2.2.2
def wp_X5_routineNamed (t0 : Nat) (a0 : Int64) (S : kS) (K : kS → Int32 → Prop) : Prop := (∃ n9, it (ls_X5_routineNamed_2 K) n9 (t0, a0, 0, S))
set_option maxHeartbeats 4000000 in
set_option maxRecDepth 100000 in
theorem kt_X5_routineNamed (l : Launch) (S : kS) (t0 : Nat) (a0 : Int64) (K : kS → Int32 → Prop) (h : wp_X5_routineNamed t0 a0 S K) : kMi l yX5_routineNamed cX5_routineNamed 4 (some .int) 0 0 [.ref t0, .long a0] S K := by
  refine kv_ofi (own := RX5) (by decide) rfl (Nat.le_of_ble_eq_true rfl) ?_
  intro E p e R s m args below meth c A ls Q hRf hRl hX hC hl hret
  have hx := hX.1.1
  have hb := hX.1.2.1
  have hown := hX.1.2.2.2.1
  have hts := hX.1.2.2.2.2
  have cut2 : ∀ (n2 : Nat) (x0 : Nat) (x1 : Int64) (x3 : Int32) (S : kS) (H : Heap) (locs : List Loc) (ls : Array Slot), it (ls_X5_routineNamed_2 K) n2 (x0, x1, x3, S) → cM E A s.heap S H locs → lv_has ls 4 [(0, .ref x0), (1, .long x1), (3, .int x3)] → W p l e R s m args below meth c H locs 0 0 Q (F0 m 2 ls []) := by
    intro n2
    induction n2 with
    | zero => intro x0 x1 x3 S H locs ls h hC hl; exact h.elim
    | succ n2 ih2 =>
      intro x0 x1 x3 S H locs ls h hC hl
      have h : wp_X5_routineNamed_2 K (it (ls_X5_routineNamed_2 K) n2) x0 x1 x3 S := h
      unfold wp_X5_routineNamed_2 at h
      refine lv_iload_n hx hb dX5_routineNamed_2 rfl (lv_at hl 2 rfl) ?_
      refine lv_aload_n hx hb dX5_routineNamed_3 rfl (lv_at hl 0 rfl) ?_
      refine cq_geti (ci := 5) (k := 5) (f := 18) hX hC rfl in_X5 (by decide) wd_413 (fun _ h9 => h9) (fun _ _ => rfl) dX5_routineNamed_4 h (fun z1 h => ?_)
      refine lv_icmp_ge (tgt := 29) hx hb dX5_routineNamed_7 (by decide) (fun c2 => ?_) (fun c2 => ?_)
      · have h := h.1 c2
        refine lv_iconst (v := -1) hx hb dX5_routineNamed_29 (by decide) ?_
        exact hret _ _ _ _ _ _ hC h dX5_routineNamed_30
      · have h := h.2 c2
        refine lv_aload_n hx hb dX5_routineNamed_10 rfl (lv_at hl 0 rfl) ?_
        refine cq_getr (ci := 5) (k := 12) (f := 38) hX hC rfl in_X5 (by decide) wd_431 (fun _ h9 => h9) (fun _ _ => rfl) dX5_routineNamed_11 h (fun z3 h => ?_)
        refine lv_iload_n hx hb dX5_routineNamed_14 rfl (lv_at hl 2 rfl) ?_
        obtain ⟨q4, e9, hh⟩ := h
        subst e9
        have h := hh
        clear hh
        refine cq_lld hX hC dX5_routineNamed_15 h (fun z5 h => ?_)
        refine lv_lload_n hx hb dX5_routineNamed_16 rfl (lv_at hl 1 rfl) ?_
        refine lq_lcmp hx hb dX5_routineNamed_17 h (fun z6 h => ?_)
        refine lv_if_ne (tgt := 23) hx hb dX5_routineNamed_18 (by decide) (fun c7 => ?_) (fun c7 => ?_)
        · have h := h.1 c7
          obtain ⟨z8, ez8⟩ : ∃ y : Int32, y = x3 + 1 := ⟨_, rfl⟩
          have h := h z8 ez8
          refine lv_iinc (v := z8) (lv' := [(3, .int z8), (0, .ref x0), (1, .long x1)]) hx hb dX5_routineNamed_23 hl (k := 2) rfl (by rw [ez8]; rfl) (by decide) rfl (fun ls hl => ?_)
          refine lv_goto (tgt := 2) hx hb dX5_routineNamed_26 (by decide) ?_
          exact ih2 x0 x1 z8 S _ _ _ h hC (lv_sub hl [1, 2, 0] rfl)
        · have h := h.2 c7
          refine lv_iload_n hx hb dX5_routineNamed_21 rfl (lv_at hl 2 rfl) ?_
          exact hret _ _ _ _ _ _ hC h dX5_routineNamed_22
  have hl : lv_has ls 4 [(0, .ref t0), (1, .long a0)] := hl
  unfold wp_X5_routineNamed at h
  refine lv_iconst (v := 0) hx hb dX5_routineNamed_0 (by decide) ?_
  refine lv_istore_n (lv' := [(3, .int 0), (0, .ref t0), (1, .long a0)]) hx hb dX5_routineNamed_1 rfl hl (by decide) rfl (fun ls hl => ?_)
  obtain ⟨n9, h⟩ := h
  exact cut2 n9 t0 a0 0 S _ _ _ h hC (lv_sub hl [1, 2, 0] rfl)
def wp_X3_findChildren_106 (K : kS → Prop) (k2 : Nat × Int32 × kS → Prop) (x0 : Nat) (x1 : Int32) (S : kS) : Prop := ∀ z41 : Int32, z41 = x1 + 1 → k2 (x0, z41, S)
def wp_X3_findChildren_2 (K : kS → Prop) (k2 : Nat × Int32 × kS → Prop) (x0 : Nat) (x1 : Int32) (S : kS) : Prop := hasO S x0 3 ∧ ∀ z1 : Int32, z1 = S.1 11 x0 → ((z1 ≤ x1 → K S) ∧ (¬ z1 ≤ x1 → hasO S x0 3 ∧ ∀ z3 : Int32, z3 = S.1 7 x0 → ((¬ z3 = 0 → K S) ∧ (z3 = 0 → hasO S x0 3 ∧ ∀ z5 : Option Nat, z5 = S.2.1 15 x0 → hasO S x0 3 ∧ ∀ z6 : Option Nat, z6 = S.2.1 20 x0 → ∃ q7 : Nat, z6 = some q7 ∧ hasA S q7 460 1 ∧ inR x1 460 ∧ ∀ z8 : Int64, z8 = S.2.2.2.1 q7 (ix x1) → ∃ q9 : Nat, z5 = some q9 ∧ hasO S q9 5 ∧ wp_X5_routineNamed q9 z8 S (fun (S10 : kS) (r10 : Int32) => ((¬ r10 = (-1) → hasO S10 x0 3 ∧ ∀ z12 : Option Nat, z12 = S10.2.1 15 x0 → ∃ q13 : Nat, z12 = some q13 ∧ hasO S10 q13 5 ∧ ∀ z14 : Option Nat, z14 = S10.2.1 34 q13 → ∃ q15 : Nat, z14 = some q15 ∧ hasA S10 q15 12 0 ∧ inR r10 12 ∧ ∀ z16 : Int32, z16 = S10.2.2.1 q15 (ix r10) → hasO S10 x0 3 ∧ ∀ z17 : Option Nat, z17 = S10.2.1 19 x0 → ∃ q18 : Nat, z17 = some q18 ∧ hasA S10 q18 460 0 ∧ inR x1 460 ∧ ∀ z19 : Int32, z19 = S10.2.2.1 q18 (ix x1) → ((z16 = z19 → hasO S10 x0 3 ∧ ∀ z21 : Option Nat, z21 = S10.2.1 15 x0 → ∃ q22 : Nat, z21 = some q22 ∧ hasO S10 q22 5 ∧ ∀ z23 : Option Nat, z23 = S10.2.1 29 q22 → hasO S10 x0 3 ∧ ∀ z24 : Option Nat, z24 = S10.2.1 17 x0 → ∃ q25 : Nat, z24 = some q25 ∧ hasA S10 q25 460 0 ∧ inR x1 460 ∧ ∀ z26 : Int32, z26 = S10.2.2.1 q25 (ix x1) → ∃ q27 : Nat, z23 = some q27 ∧ hasA S10 q27 8064 0 ∧ inR z26 8064 ∧ ∀ S28 : kS, S28 = cA S10 q27 (ix z26) r10 → wp_X3_findChildren_106 K k2 x0 x1 S28) ∧ (¬ z16 = z19 → hasO S10 x0 3 ∧ ∀ z29 : Option Nat, z29 = S10.2.1 18 x0 → ∃ q30 : Nat, z29 = some q30 ∧ hasA S10 q30 460 0 ∧ inR x1 460 ∧ ∀ z31 : Int32, z31 = S10.2.2.1 q30 (ix x1) → ∀ z32 : Int32, z32 = 16 * z31 → ∀ z33 : Int32, z33 = 6 + z32 → hasO S10 x0 3 ∧ ∀ S34 : kS, S34 = cI S10 7 x0 z33 → wp_X3_findChildren_106 K k2 x0 x1 S34))) ∧ (r10 = (-1) → hasO S10 x0 3 ∧ ∀ z35 : Option Nat, z35 = S10.2.1 18 x0 → ∃ q36 : Nat, z35 = some q36 ∧ hasA S10 q36 460 0 ∧ inR x1 460 ∧ ∀ z37 : Int32, z37 = S10.2.2.1 q36 (ix x1) → ∀ z38 : Int32, z38 = 16 * z37 → ∀ z39 : Int32, z39 = 2 + z38 → hasO S10 x0 3 ∧ ∀ S40 : kS, S40 = cI S10 7 x0 z39 → wp_X3_findChildren_106 K k2 x0 x1 S40)))))))
def ls_X3_findChildren_2 (K : kS → Prop) (k2 : Nat × Int32 × kS → Prop) (u : Nat × Int32 × kS) : Prop := wp_X3_findChildren_2 K k2 u.1 u.2.1 u.2.2
def wp_X3_findChildren (t0 : Nat) (S : kS) (K : kS → Prop) : Prop := (∃ n9, it (ls_X3_findChildren_2 K) n9 (t0, 0, S))
theorem cw_X3_109 {R : Room} {s : State} {args : Array Value} {fr lo : Nat} (hts : ∀ w ∈ tb, w.before args s = true) (h1 : fr + 1 ≤ R.frames) (h2 : 8 + (4 + 11) + lo ≤ R.locals) : CallW R s args RX3 RX5 109 yX5_routineNamed cX5_routineNamed 4 (some .int) (.code yX5_routineNamed cX5_routineNamed 4 (some .int) :: tb) (mRm fr lo) 0 0 1 := cwV 1 hts (gd_V wd_624 wd_625 wd_626 wd_13 wd_627) rfl rfl rfl (by decide +kernel) ⟨h1, h2⟩
set_option maxHeartbeats 4000000 in
set_option maxRecDepth 100000 in
theorem kt_X3_findChildren (l : Launch) (S : kS) (t0 : Nat) (K : kS → Prop) (h : wp_X3_findChildren t0 S K) : kMv l yX3_findChildren cX3_findChildren 3 none 1 23 [.ref t0] S K := by
  refine kv_ofv (own := RX3) (by decide) rfl (Nat.le_of_ble_eq_true rfl) ?_
  intro E p e R s m args below meth c A ls Q hRf hRl hX hC hl hret
  have hx := hX.1.1
  have hb := hX.1.2.1
  have hown := hX.1.2.2.2.1
  have hts := hX.1.2.2.2.2
  have cut2 : ∀ (n2 : Nat) (x0 : Nat) (x1 : Int32) (S : kS) (H : Heap) (locs : List Loc) (ls : Array Slot), it (ls_X3_findChildren_2 K) n2 (x0, x1, S) → cM E A s.heap S H locs → lv_has ls 3 [(0, .ref x0), (1, .int x1)] → W p l e R s m args below meth c H locs 0 0 Q (F0 m 2 ls []) := by
    intro n2
    induction n2 with
    | zero => intro x0 x1 S H locs ls h hC hl; exact h.elim
    | succ n2 ih2 =>
      have cut106 : ∀ (x0 : Nat) (x1 : Int32) (S : kS) (H : Heap) (locs : List Loc) (ls : Array Slot), wp_X3_findChildren_106 K (it (ls_X3_findChildren_2 K) n2) x0 x1 S → cM E A s.heap S H locs → lv_has ls 3 [(0, .ref x0), (1, .int x1)] → W p l e R s m args below meth c H locs 0 0 Q (F0 m 106 ls []) := by
        intro x0 x1 S H locs ls h hC hl
        unfold wp_X3_findChildren_106 at h
        obtain ⟨z41, ez41⟩ : ∃ y : Int32, y = x1 + 1 := ⟨_, rfl⟩
        have h := h z41 ez41
        refine lv_iinc (v := z41) (lv' := [(1, .int z41), (0, .ref x0)]) hx hb dX3_findChildren_106 hl (k := 1) rfl (by rw [ez41]; rfl) (by decide) rfl (fun ls hl => ?_)
        refine lv_goto (tgt := 2) hx hb dX3_findChildren_109 (by decide) ?_
        exact ih2 x0 z41 S _ _ _ h hC (lv_sub hl [1, 0] rfl)
      intro x0 x1 S H locs ls h hC hl
      have h : wp_X3_findChildren_2 K (it (ls_X3_findChildren_2 K) n2) x0 x1 S := h
      unfold wp_X3_findChildren_2 at h
      refine lv_iload_n hx hb dX3_findChildren_2 rfl (lv_at hl 1 rfl) ?_
      refine lv_aload_n hx hb dX3_findChildren_3 rfl (lv_at hl 0 rfl) ?_
      refine cq_geti (ci := 3) (k := 8) (f := 11) hX hC rfl in_X3 (by decide) wd_139 (fun _ h9 => h9) (fun _ _ => rfl) dX3_findChildren_4 h (fun z1 h => ?_)
      refine lv_icmp_ge (tgt := 112) hx hb dX3_findChildren_7 (by decide) (fun c2 => ?_) (fun c2 => ?_)
      · have h := h.1 c2
        exact hret _ _ _ _ _ hC h dX3_findChildren_112
      · have h := h.2 c2
        refine lv_aload_n hx hb dX3_findChildren_10 rfl (lv_at hl 0 rfl) ?_
        refine cq_geti (ci := 3) (k := 4) (f := 7) hX hC rfl in_X3 (by decide) wd_135 (fun _ h9 => h9) (fun _ _ => rfl) dX3_findChildren_11 h (fun z3 h => ?_)
        refine lv_if_ne (tgt := 112) hx hb dX3_findChildren_14 (by decide) (fun c4 => ?_) (fun c4 => ?_)
        · have h := h.1 c4
          exact hret _ _ _ _ _ hC h dX3_findChildren_112
        · have h := h.2 c4
          refine lv_aload_n hx hb dX3_findChildren_17 rfl (lv_at hl 0 rfl) ?_
          refine cq_getr (ci := 3) (k := 1) (f := 15) hX hC rfl in_X3 (by decide) wd_132 (fun _ h9 => h9) (fun _ _ => rfl) dX3_findChildren_18 h (fun z5 h => ?_)
          refine lv_aload_n hx hb dX3_findChildren_21 rfl (lv_at hl 0 rfl) ?_
          refine cq_getr (ci := 3) (k := 12) (f := 20) hX hC rfl in_X3 (by decide) wd_143 (fun _ h9 => h9) (fun _ _ => rfl) dX3_findChildren_22 h (fun z6 h => ?_)
          refine lv_iload_n hx hb dX3_findChildren_25 rfl (lv_at hl 1 rfl) ?_
          obtain ⟨q7, e9, hh⟩ := h
          subst e9
          have h := hh
          clear hh
          refine cq_lld hX hC dX3_findChildren_26 h (fun z8 h => ?_)
          obtain ⟨q9, e9, hh⟩ := h
          subst e9
          have h := hh
          clear hh
          refine kv_calli [.long z8] (rest := []) (ci := 5) rfl hX hC h.1 (kt_X5_routineNamed l S q9 z8 _ h.2 E _) (cw_X3_109 hts (by omega) (by omega)) rfl hl.1 (Nat.le_of_ble_eq_true rfl) ⟨Nat.zero_le _, Nat.zero_le _⟩ dX3_findChildren_27 (fun r10 S10 H locs hC h => ?_)
          refine lv_istore_n (lv' := [(2, .int r10), (0, .ref x0), (1, .int x1)]) hx hb dX3_findChildren_30 rfl hl (by decide) rfl (fun ls hl => ?_)
          refine lv_iload_n hx hb dX3_findChildren_31 rfl (lv_at hl 0 rfl) ?_
          refine lv_iconst (v := -1) hx hb dX3_findChildren_32 (by decide) ?_
          refine lv_icmp_ne (tgt := 54) hx hb dX3_findChildren_33 (by decide) (fun c11 => ?_) (fun c11 => ?_)
          · have h := h.1 c11
            refine lv_aload_n hx hb dX3_findChildren_54 rfl (lv_at hl 1 rfl) ?_
            refine cq_getr (ci := 3) (k := 1) (f := 15) hX hC rfl in_X3 (by decide) wd_132 (fun _ h9 => h9) (fun _ _ => rfl) dX3_findChildren_55 h (fun z12 h => ?_)
            obtain ⟨q13, e9, hh⟩ := h
            subst e9
            have h := hh
            clear hh
            refine cq_getr (ci := 5) (k := 8) (f := 34) hX hC rfl in_X5 (by decide) wd_423 (fun _ h9 => h9) (fun _ _ => rfl) dX3_findChildren_58 h (fun z14 h => ?_)
            refine lv_iload_n hx hb dX3_findChildren_61 rfl (lv_at hl 0 rfl) ?_
            obtain ⟨q15, e9, hh⟩ := h
            subst e9
            have h := hh
            clear hh
            refine cq_ild hX hC dX3_findChildren_62 h (fun z16 h => ?_)
            refine lv_aload_n hx hb dX3_findChildren_63 rfl (lv_at hl 1 rfl) ?_
            refine cq_getr (ci := 3) (k := 11) (f := 19) hX hC rfl in_X3 (by decide) wd_142 (fun _ h9 => h9) (fun _ _ => rfl) dX3_findChildren_64 h (fun z17 h => ?_)
            refine lv_iload_n hx hb dX3_findChildren_67 rfl (lv_at hl 2 rfl) ?_
            obtain ⟨q18, e9, hh⟩ := h
            subst e9
            have h := hh
            clear hh
            refine cq_ild hX hC dX3_findChildren_68 h (fun z19 h => ?_)
            refine lv_icmp_eq (tgt := 91) hx hb dX3_findChildren_69 (by decide) (fun c20 => ?_) (fun c20 => ?_)
            · have h := h.1 c20
              refine lv_aload_n hx hb dX3_findChildren_91 rfl (lv_at hl 1 rfl) ?_
              refine cq_getr (ci := 3) (k := 1) (f := 15) hX hC rfl in_X3 (by decide) wd_132 (fun _ h9 => h9) (fun _ _ => rfl) dX3_findChildren_92 h (fun z21 h => ?_)
              obtain ⟨q22, e9, hh⟩ := h
              subst e9
              have h := hh
              clear hh
              refine cq_getr (ci := 5) (k := 2) (f := 29) hX hC rfl in_X5 (by decide) wd_405 (fun _ h9 => h9) (fun _ _ => rfl) dX3_findChildren_95 h (fun z23 h => ?_)
              refine lv_aload_n hx hb dX3_findChildren_98 rfl (lv_at hl 1 rfl) ?_
              refine cq_getr (ci := 3) (k := 9) (f := 17) hX hC rfl in_X3 (by decide) wd_140 (fun _ h9 => h9) (fun _ _ => rfl) dX3_findChildren_99 h (fun z24 h => ?_)
              refine lv_iload_n hx hb dX3_findChildren_102 rfl (lv_at hl 2 rfl) ?_
              obtain ⟨q25, e9, hh⟩ := h
              subst e9
              have h := hh
              clear hh
              refine cq_ild hX hC dX3_findChildren_103 h (fun z26 h => ?_)
              refine lv_iload_n hx hb dX3_findChildren_104 rfl (lv_at hl 0 rfl) ?_
              obtain ⟨q27, e9, hh⟩ := h
              subst e9
              have h := hh
              clear hh
              refine cq_ist hX hC dX3_findChildren_105 h.1 h.2.1 h.2.2 (fun S28 H locs hC h => ?_)
              exact cut106 x0 x1 S28 _ _ _ h hC (lv_sub hl [1, 2] rfl)
            · have h := h.2 c20
              refine lv_aload_n hx hb dX3_findChildren_72 rfl (lv_at hl 1 rfl) ?_
              refine lv_bipush (v := 6) hx hb dX3_findChildren_73 (by decide) ?_
              refine lv_bipush (v := 16) hx hb dX3_findChildren_75 (by decide) ?_
              refine lv_aload_n hx hb dX3_findChildren_77 rfl (lv_at hl 1 rfl) ?_
              refine cq_getr (ci := 3) (k := 10) (f := 18) hX hC rfl in_X3 (by decide) wd_141 (fun _ h9 => h9) (fun _ _ => rfl) dX3_findChildren_78 h (fun z29 h => ?_)
              refine lv_iload_n hx hb dX3_findChildren_81 rfl (lv_at hl 2 rfl) ?_
              obtain ⟨q30, e9, hh⟩ := h
              subst e9
              have h := hh
              clear hh
              refine cq_ild hX hC dX3_findChildren_82 h (fun z31 h => ?_)
              refine lq_imul hx hb dX3_findChildren_83 h (fun z32 h => ?_)
              refine lq_iadd hx hb dX3_findChildren_84 h (fun z33 h => ?_)
              refine cq_puti (v := z33) (ci := 3) (k := 4) (f := 7) hX hC rfl in_X3 (by decide) wd_135 (fun _ h9 => h9) tyX3 tyX3_ok nmX3 rfl rfl rfl (fun _ _ => Nat.le_of_ble_eq_true rfl) (fun _ _ _ => rfl) dX3_findChildren_85 h.1 h.2 (fun S34 H locs hC h => ?_)
              refine lv_goto (tgt := 106) hx hb dX3_findChildren_88 (by decide) ?_
              exact cut106 x0 x1 S34 _ _ _ h hC (lv_sub hl [1, 2] rfl)
          · have h := h.2 c11
            refine lv_aload_n hx hb dX3_findChildren_36 rfl (lv_at hl 1 rfl) ?_
            refine lv_iconst (v := 2) hx hb dX3_findChildren_37 (by decide) ?_
            refine lv_bipush (v := 16) hx hb dX3_findChildren_38 (by decide) ?_
            refine lv_aload_n hx hb dX3_findChildren_40 rfl (lv_at hl 1 rfl) ?_
            refine cq_getr (ci := 3) (k := 10) (f := 18) hX hC rfl in_X3 (by decide) wd_141 (fun _ h9 => h9) (fun _ _ => rfl) dX3_findChildren_41 h (fun z35 h => ?_)
            refine lv_iload_n hx hb dX3_findChildren_44 rfl (lv_at hl 2 rfl) ?_
            obtain ⟨q36, e9, hh⟩ := h
            subst e9
            have h := hh
            clear hh
            refine cq_ild hX hC dX3_findChildren_45 h (fun z37 h => ?_)
            refine lq_imul hx hb dX3_findChildren_46 h (fun z38 h => ?_)
            refine lq_iadd hx hb dX3_findChildren_47 h (fun z39 h => ?_)
            refine cq_puti (v := z39) (ci := 3) (k := 4) (f := 7) hX hC rfl in_X3 (by decide) wd_135 (fun _ h9 => h9) tyX3 tyX3_ok nmX3 rfl rfl rfl (fun _ _ => Nat.le_of_ble_eq_true rfl) (fun _ _ _ => rfl) dX3_findChildren_48 h.1 h.2 (fun S40 H locs hC h => ?_)
            refine lv_goto (tgt := 106) hx hb dX3_findChildren_51 (by decide) ?_
            exact cut106 x0 x1 S40 _ _ _ h hC (lv_sub hl [1, 2] rfl)
  have hl : lv_has ls 3 [(0, .ref t0)] := hl
  unfold wp_X3_findChildren at h
  refine lv_iconst (v := 0) hx hb dX3_findChildren_0 (by decide) ?_
  refine lv_istore_n (lv' := [(1, .int 0), (0, .ref t0)]) hx hb dX3_findChildren_1 rfl hl (by decide) rfl (fun ls hl => ?_)
  obtain ⟨n9, h⟩ := h
  exact cut2 n9 t0 0 S _ _ _ h hC (lv_sub hl [1, 0] rfl)
def wp_X5_cellNamed_23 (K : kS → Int32 → Prop) (k23 : Nat × Int32 × Int64 × Int32 × Int32 × kS → Prop) (x0 : Nat) (x1 : Int32) (x2 : Int64) (x4 : Int32) (x5 : Int32) (S : kS) : Prop := ((x4 ≤ x5 → K S (-1)) ∧ (¬ x4 ≤ x5 → hasO S x0 5 ∧ ∀ z7 : Option Nat, z7 = S.2.1 39 x0 → ∀ z8 : Int32, z8 = x1 * 12 → ∀ z9 : Int32, z9 = z8 + x5 → ∃ q10 : Nat, z7 = some q10 ∧ hasA S q10 144 1 ∧ inR z9 144 ∧ ∀ z11 : Int64, z11 = S.2.2.2.1 q10 (ix z9) → ∀ z12 : Int32, z12 = lg_cmp z11 x2 → ((¬ z12 = 0 → ∀ z14 : Int32, z14 = x5 + 1 → k23 (x0, x1, x2, x4, z14, S)) ∧ (z12 = 0 → K S x5))))
def ls_X5_cellNamed_23 (K : kS → Int32 → Prop) (k23 : Nat × Int32 × Int64 × Int32 × Int32 × kS → Prop) (u : Nat × Int32 × Int64 × Int32 × Int32 × kS) : Prop := wp_X5_cellNamed_23 K k23 u.1 u.2.1 u.2.2.1 u.2.2.2.1 u.2.2.2.2.1 u.2.2.2.2.2
def wp_X5_cellNamed_18 (K : kS → Int32 → Prop) (x0 : Nat) (x1 : Int32) (x2 : Int64) (y0 : Int32) (S : kS) : Prop := (∃ n9, it (ls_X5_cellNamed_23 K) n9 (x0, x1, x2, y0, 0, S))
def wp_X5_cellNamed (t0 : Nat) (a0 : Int32) (a1 : Int64) (S : kS) (K : kS → Int32 → Prop) : Prop := hasO S t0 5 ∧ wp_X5_has t0 a0 S (fun (S1 : kS) (r1 : Int32) => ((r1 = 0 → wp_X5_cellNamed_18 K t0 a0 a1 0 S1) ∧ (¬ r1 = 0 → hasO S1 t0 5 ∧ ∀ z3 : Option Nat, z3 = S1.2.1 35 t0 → ∃ q4 : Nat, z3 = some q4 ∧ hasA S1 q4 12 0 ∧ inR a0 12 ∧ ∀ z5 : Int32, z5 = S1.2.2.1 q4 (ix a0) → wp_X5_cellNamed_18 K t0 a0 a1 z5 S1)))
set_option maxHeartbeats 4000000 in
set_option maxRecDepth 100000 in
theorem kt_X5_cellNamed (l : Launch) (S : kS) (t0 : Nat) (a0 : Int32) (a1 : Int64) (K : kS → Int32 → Prop) (h : wp_X5_cellNamed t0 a0 a1 S K) : kMi l yX5_cellNamed cX5_cellNamed 6 (some .int) 1 21 [.ref t0, .int a0, .long a1] S K := by
  refine kv_ofi (own := RX5) (by decide) rfl (Nat.le_of_ble_eq_true rfl) ?_
  intro E p e R s m args below meth c A ls Q hRf hRl hX hC hl hret
  have hx := hX.1.1
  have hb := hX.1.2.1
  have hown := hX.1.2.2.2.1
  have hts := hX.1.2.2.2.2
  have cut23 : ∀ (n23 : Nat) (x0 : Nat) (x1 : Int32) (x2 : Int64) (x4 : Int32) (x5 : Int32) (S : kS) (H : Heap) (locs : List Loc) (ls : Array Slot), it (ls_X5_cellNamed_23 K) n23 (x0, x1, x2, x4, x5, S) → cM E A s.heap S H locs → lv_has ls 6 [(0, .ref x0), (1, .int x1), (2, .long x2), (4, .int x4), (5, .int x5)] → W p l e R s m args below meth c H locs 0 0 Q (F0 m 23 ls []) := by
    intro n23
    induction n23 with
    | zero => intro x0 x1 x2 x4 x5 S H locs ls h hC hl; exact h.elim
    | succ n23 ih23 =>
      intro x0 x1 x2 x4 x5 S H locs ls h hC hl
      have h : wp_X5_cellNamed_23 K (it (ls_X5_cellNamed_23 K) n23) x0 x1 x2 x4 x5 S := h
      unfold wp_X5_cellNamed_23 at h
      refine lv_iload hx hb dX5_cellNamed_23 (lv_at hl 4 rfl) ?_
      refine lv_iload hx hb dX5_cellNamed_25 (lv_at hl 3 rfl) ?_
      refine lv_icmp_ge (tgt := 56) hx hb dX5_cellNamed_27 (by decide) (fun c6 => ?_) (fun c6 => ?_)
      · have h := h.1 c6
        refine lv_iconst (v := -1) hx hb dX5_cellNamed_56 (by decide) ?_
        exact hret _ _ _ _ _ _ hC h dX5_cellNamed_57
      · have h := h.2 c6
        refine lv_aload_n hx hb dX5_cellNamed_30 rfl (lv_at hl 0 rfl) ?_
        refine cq_getr (ci := 5) (k := 13) (f := 39) hX hC rfl in_X5 (by decide) wd_432 (fun _ h9 => h9) (fun _ _ => rfl) dX5_cellNamed_31 h (fun z7 h => ?_)
        refine lv_iload_n hx hb dX5_cellNamed_34 rfl (lv_at hl 1 rfl) ?_
        refine lv_bipush (v := 12) hx hb dX5_cellNamed_35 (by decide) ?_
        refine lq_imul hx hb dX5_cellNamed_37 h (fun z8 h => ?_)
        refine lv_iload hx hb dX5_cellNamed_38 (lv_at hl 4 rfl) ?_
        refine lq_iadd hx hb dX5_cellNamed_40 h (fun z9 h => ?_)
        obtain ⟨q10, e9, hh⟩ := h
        subst e9
        have h := hh
        clear hh
        refine cq_lld hX hC dX5_cellNamed_41 h (fun z11 h => ?_)
        refine lv_lload_n hx hb dX5_cellNamed_42 rfl (lv_at hl 2 rfl) ?_
        refine lq_lcmp hx hb dX5_cellNamed_43 h (fun z12 h => ?_)
        refine lv_if_ne (tgt := 50) hx hb dX5_cellNamed_44 (by decide) (fun c13 => ?_) (fun c13 => ?_)
        · have h := h.1 c13
          obtain ⟨z14, ez14⟩ : ∃ y : Int32, y = x5 + 1 := ⟨_, rfl⟩
          have h := h z14 ez14
          refine lv_iinc (v := z14) (lv' := [(5, .int z14), (0, .ref x0), (1, .int x1), (2, .long x2), (4, .int x4)]) hx hb dX5_cellNamed_50 hl (k := 4) rfl (by rw [ez14]; rfl) (by decide) rfl (fun ls hl => ?_)
          refine lv_goto (tgt := 23) hx hb dX5_cellNamed_53 (by decide) ?_
          exact ih23 x0 x1 x2 x4 z14 S _ _ _ h hC (lv_sub hl [1, 2, 3, 4, 0] rfl)
        · have h := h.2 c13
          refine lv_iload hx hb dX5_cellNamed_47 (lv_at hl 4 rfl) ?_
          exact hret _ _ _ _ _ _ hC h dX5_cellNamed_49
  have cut18 : ∀ (x0 : Nat) (x1 : Int32) (x2 : Int64) (y0 : Int32) (S : kS) (H : Heap) (locs : List Loc) (ls : Array Slot), wp_X5_cellNamed_18 K x0 x1 x2 y0 S → cM E A s.heap S H locs → lv_has ls 6 [(0, .ref x0), (1, .int x1), (2, .long x2)] → W p l e R s m args below meth c H locs 0 0 Q (F0 m 18 ls [.int y0]) := by
    intro x0 x1 x2 y0 S H locs ls h hC hl
    unfold wp_X5_cellNamed_18 at h
    refine lv_istore (lv' := [(4, .int y0), (0, .ref x0), (1, .int x1), (2, .long x2)]) hx hb dX5_cellNamed_18 hl (by decide) rfl (fun ls hl => ?_)
    refine lv_iconst (v := 0) hx hb dX5_cellNamed_20 (by decide) ?_
    refine lv_istore (lv' := [(5, .int 0), (4, .int y0), (0, .ref x0), (1, .int x1), (2, .long x2)]) hx hb dX5_cellNamed_21 hl (by decide) rfl (fun ls hl => ?_)
    obtain ⟨n9, h⟩ := h
    exact cut23 n9 x0 x1 x2 y0 0 S _ _ _ h hC (lv_sub hl [2, 3, 4, 1, 0] rfl)
  have hl : lv_has ls 6 [(0, .ref t0), (1, .int a0), (2, .long a1)] := hl
  unfold wp_X5_cellNamed at h
  refine lv_aload_n hx hb dX5_cellNamed_0 rfl (lv_at hl 0 rfl) ?_
  refine lv_iload_n hx hb dX5_cellNamed_1 rfl (lv_at hl 1 rfl) ?_
  refine kv_calli [.int a0] (rest := []) (ci := 5) rfl hX hC h.1 (kt_X5_has l S t0 a0 _ h.2 E _) (cw_X5_63 hts (by omega) (by omega)) rfl hl.1 (Nat.le_of_ble_eq_true rfl) ⟨Nat.zero_le _, Nat.zero_le _⟩ dX5_cellNamed_2 (fun r1 S1 H locs hC h => ?_)
  refine lv_if_eq (tgt := 17) hx hb dX5_cellNamed_5 (by decide) (fun c2 => ?_) (fun c2 => ?_)
  · have h := h.1 c2
    refine lv_iconst (v := 0) hx hb dX5_cellNamed_17 (by decide) ?_
    exact cut18 t0 a0 a1 0 S1 _ _ _ h hC (lv_sub hl [0, 1, 2] rfl)
  · have h := h.2 c2
    refine lv_aload_n hx hb dX5_cellNamed_8 rfl (lv_at hl 0 rfl) ?_
    refine cq_getr (ci := 5) (k := 9) (f := 35) hX hC rfl in_X5 (by decide) wd_425 (fun _ h9 => h9) (fun _ _ => rfl) dX5_cellNamed_9 h (fun z3 h => ?_)
    refine lv_iload_n hx hb dX5_cellNamed_12 rfl (lv_at hl 1 rfl) ?_
    obtain ⟨q4, e9, hh⟩ := h
    subst e9
    have h := hh
    clear hh
    refine cq_ild hX hC dX5_cellNamed_13 h (fun z5 h => ?_)
    refine lv_goto (tgt := 18) hx hb dX5_cellNamed_14 (by decide) ?_
    exact cut18 t0 a0 a1 z5 S1 _ _ _ h hC (lv_sub hl [0, 1, 2] rfl)
def wp_X3_givenCell (t0 : Nat) (S : kS) (K : kS → Prop) : Prop := hasO S t0 3 ∧ ∀ z1 : Option Nat, z1 = S.2.1 15 t0 → ∃ q2 : Nat, z1 = some q2 ∧ hasO S q2 5 ∧ ∀ z3 : Int32, z3 = S.1 18 q2 → ∀ z4 : Int32, z4 = z3 - 1 → hasO S t0 3 ∧ wp_X3_kind t0 S (fun (S5 : kS) (r5 : Int32) => ((r5 = 3 → hasO S5 t0 3 ∧ ∀ z7 : Option Nat, z7 = S5.2.1 15 t0 → hasO S5 t0 3 ∧ ∀ z8 : Option Nat, z8 = S5.2.1 14 t0 → ∃ q9 : Nat, z8 = some q9 ∧ hasO S5 q9 10 ∧ ∀ z10 : Option Nat, z10 = S5.2.1 66 q9 → hasO S5 t0 3 ∧ ∀ z11 : Int32, z11 = S5.1 6 t0 → ∃ q12 : Nat, z10 = some q12 ∧ hasA S5 q12 4002 1 ∧ inR z11 4002 ∧ ∀ z13 : Int64, z13 = S5.2.2.2.1 q12 (ix z11) → ∃ q14 : Nat, z7 = some q14 ∧ hasO S5 q14 5 ∧ wp_X5_cellNamed q14 z4 z13 S5 (fun (S15 : kS) (r15 : Int32) => ((r15 = (-1) → hasO S15 t0 3 ∧ ∀ z17 : Option Nat, z17 = S15.2.1 15 t0 → hasO S15 t0 3 ∧ ∀ z18 : Option Nat, z18 = S15.2.1 14 t0 → ∃ q19 : Nat, z18 = some q19 ∧ hasO S15 q19 10 ∧ ∀ z20 : Option Nat, z20 = S15.2.1 66 q19 → hasO S15 t0 3 ∧ ∀ z21 : Int32, z21 = S15.1 6 t0 → ∃ q22 : Nat, z20 = some q22 ∧ hasA S15 q22 4002 1 ∧ inR z21 4002 ∧ ∀ z23 : Int64, z23 = S15.2.2.2.1 q22 (ix z21) → ∃ q24 : Nat, z17 = some q24 ∧ hasO S15 q24 5 ∧ wp_X5_cellOf q24 z23 S15 (fun (S25 : kS) (r25 : Int32) => ((¬ r25 = (-1) → hasO S25 t0 3 ∧ ∀ z27 : Option Nat, z27 = S25.2.1 15 t0 → ∃ q28 : Nat, z27 = some q28 ∧ hasO S25 q28 5 ∧ ∀ z29 : Option Nat, z29 = S25.2.1 34 q28 → ∃ q30 : Nat, z29 = some q30 ∧ hasA S25 q30 12 0 ∧ inR z4 12 ∧ ∀ z31 : Int32, z31 = S25.2.2.1 q30 (ix z4) → ∀ z32 : Int32, z32 = z31 + 1 → hasA S25 q30 12 0 ∧ inR z4 12 ∧ ∀ S33 : kS, S33 = cA S25 q30 (ix z4) z32 → hasO S33 t0 3 ∧ wp_X3_step t0 S33 (fun (S34 : kS) => K S34)) ∧ (r25 = (-1) → hasO S25 t0 3 ∧ wp_X3_wrong t0 5 S25 (fun (S35 : kS) => K S35))))) ∧ (¬ r15 = (-1) → hasO S15 t0 3 ∧ wp_X3_wrong t0 3 S15 (fun (S36 : kS) => K S36))))) ∧ (¬ r5 = 3 → hasO S5 t0 3 ∧ wp_X3_wrong t0 1 S5 (fun (S37 : kS) => K S37))))
theorem cw_X3_123 {R : Room} {s : State} {args : Array Value} {fr lo : Nat} (hts : ∀ w ∈ tb, w.before args s = true) (h1 : fr + 1 ≤ R.frames) (h2 : 8 + (6 + 11) + lo ≤ R.locals) : CallW R s args RX3 RX5 123 yX5_cellNamed cX5_cellNamed 6 (some .int) (.code yX5_cellNamed cX5_cellNamed 6 (some .int) :: tb) (mRm fr lo) 0 0 2 := cwV 2 hts (gd_V wd_644 wd_645 wd_646 wd_13 wd_647) rfl rfl rfl (by decide +kernel) ⟨h1, h2⟩
set_option maxHeartbeats 4000000 in
set_option maxRecDepth 100000 in
theorem kt_X3_givenCell (l : Launch) (S : kS) (t0 : Nat) (K : kS → Prop) (h : wp_X3_givenCell t0 S K) : kMv l yX3_givenCell cX3_givenCell 2 none 2 46 [.ref t0] S K := by
  refine kv_ofv (own := RX3) (by decide) rfl (Nat.le_of_ble_eq_true rfl) ?_
  intro E p e R s m args below meth c A ls Q hRf hRl hX hC hl hret
  have hx := hX.1.1
  have hb := hX.1.2.1
  have hown := hX.1.2.2.2.1
  have hts := hX.1.2.2.2.2
  have hl : lv_has ls 2 [(0, .ref t0)] := hl
  unfold wp_X3_givenCell at h
  refine lv_aload_n hx hb dX3_givenCell_0 rfl (lv_at hl 0 rfl) ?_
  refine cq_getr (ci := 3) (k := 1) (f := 15) hX hC rfl in_X3 (by decide) wd_132 (fun _ h9 => h9) (fun _ _ => rfl) dX3_givenCell_1 h (fun z1 h => ?_)
  obtain ⟨q2, e9, hh⟩ := h
  subst e9
  have h := hh
  clear hh
  refine cq_geti (ci := 5) (k := 5) (f := 18) hX hC rfl in_X5 (by decide) wd_414 (fun _ h9 => h9) (fun _ _ => rfl) dX3_givenCell_4 h (fun z3 h => ?_)
  refine lv_iconst (v := 1) hx hb dX3_givenCell_7 (by decide) ?_
  refine lq_isub hx hb dX3_givenCell_8 h (fun z4 h => ?_)
  refine lv_istore_n (lv' := [(1, .int z4), (0, .ref t0)]) hx hb dX3_givenCell_9 rfl hl (by decide) rfl (fun ls hl => ?_)
  refine lv_aload_n hx hb dX3_givenCell_10 rfl (lv_at hl 1 rfl) ?_
  refine kv_calli [] (rest := []) (ci := 3) rfl hX hC h.1 (kt_X3_kind l S t0 _ h.2 E _) (cw_X3_62 hts (by omega) (by omega)) rfl hl.1 (Nat.le_of_ble_eq_true rfl) ⟨Nat.zero_le _, Nat.zero_le _⟩ dX3_givenCell_11 (fun r5 S5 H locs hC h => ?_)
  refine lv_iconst (v := 3) hx hb dX3_givenCell_14 (by decide) ?_
  refine lv_icmp_eq (tgt := 26) hx hb dX3_givenCell_15 (by decide) (fun c6 => ?_) (fun c6 => ?_)
  · have h := h.1 c6
    refine lv_aload_n hx hb dX3_givenCell_26 rfl (lv_at hl 1 rfl) ?_
    refine cq_getr (ci := 3) (k := 1) (f := 15) hX hC rfl in_X3 (by decide) wd_132 (fun _ h9 => h9) (fun _ _ => rfl) dX3_givenCell_27 h (fun z7 h => ?_)
    refine lv_iload_n hx hb dX3_givenCell_30 rfl (lv_at hl 0 rfl) ?_
    refine lv_aload_n hx hb dX3_givenCell_31 rfl (lv_at hl 1 rfl) ?_
    refine cq_getr (ci := 3) (k := 0) (f := 14) hX hC rfl in_X3 (by decide) wd_131 (fun _ h9 => h9) (fun _ _ => rfl) dX3_givenCell_32 h (fun z8 h => ?_)
    obtain ⟨q9, e9, hh⟩ := h
    subst e9
    have h := hh
    clear hh
    refine cq_getr (ci := 10) (k := 2) (f := 66) hX hC rfl in_X10 (by decide) wd_99 (fun _ h9 => h9) (fun _ _ => rfl) dX3_givenCell_35 h (fun z10 h => ?_)
    refine lv_aload_n hx hb dX3_givenCell_38 rfl (lv_at hl 1 rfl) ?_
    refine cq_geti (ci := 3) (k := 3) (f := 6) hX hC rfl in_X3 (by decide) wd_134 (fun _ h9 => h9) (fun _ _ => rfl) dX3_givenCell_39 h (fun z11 h => ?_)
    obtain ⟨q12, e9, hh⟩ := h
    subst e9
    have h := hh
    clear hh
    refine cq_lld hX hC dX3_givenCell_42 h (fun z13 h => ?_)
    obtain ⟨q14, e9, hh⟩ := h
    subst e9
    have h := hh
    clear hh
    refine kv_calli [.int z4, .long z13] (rest := []) (ci := 5) rfl hX hC h.1 (kt_X5_cellNamed l S5 q14 z4 z13 _ h.2 E _) (cw_X3_123 hts (by omega) (by omega)) rfl hl.1 (Nat.le_of_ble_eq_true rfl) ⟨Nat.zero_le _, Nat.zero_le _⟩ dX3_givenCell_43 (fun r15 S15 H locs hC h => ?_)
    refine lv_iconst (v := -1) hx hb dX3_givenCell_46 (by decide) ?_
    refine lv_icmp_eq (tgt := 58) hx hb dX3_givenCell_47 (by decide) (fun c16 => ?_) (fun c16 => ?_)
    · have h := h.1 c16
      refine lv_aload_n hx hb dX3_givenCell_58 rfl (lv_at hl 1 rfl) ?_
      refine cq_getr (ci := 3) (k := 1) (f := 15) hX hC rfl in_X3 (by decide) wd_132 (fun _ h9 => h9) (fun _ _ => rfl) dX3_givenCell_59 h (fun z17 h => ?_)
      refine lv_aload_n hx hb dX3_givenCell_62 rfl (lv_at hl 1 rfl) ?_
      refine cq_getr (ci := 3) (k := 0) (f := 14) hX hC rfl in_X3 (by decide) wd_131 (fun _ h9 => h9) (fun _ _ => rfl) dX3_givenCell_63 h (fun z18 h => ?_)
      obtain ⟨q19, e9, hh⟩ := h
      subst e9
      have h := hh
      clear hh
      refine cq_getr (ci := 10) (k := 2) (f := 66) hX hC rfl in_X10 (by decide) wd_99 (fun _ h9 => h9) (fun _ _ => rfl) dX3_givenCell_66 h (fun z20 h => ?_)
      refine lv_aload_n hx hb dX3_givenCell_69 rfl (lv_at hl 1 rfl) ?_
      refine cq_geti (ci := 3) (k := 3) (f := 6) hX hC rfl in_X3 (by decide) wd_134 (fun _ h9 => h9) (fun _ _ => rfl) dX3_givenCell_70 h (fun z21 h => ?_)
      obtain ⟨q22, e9, hh⟩ := h
      subst e9
      have h := hh
      clear hh
      refine cq_lld hX hC dX3_givenCell_73 h (fun z23 h => ?_)
      obtain ⟨q24, e9, hh⟩ := h
      subst e9
      have h := hh
      clear hh
      refine kv_calli [.long z23] (rest := []) (ci := 5) rfl hX hC h.1 (kt_X5_cellOf l S15 q24 z23 _ h.2 E _) (cw_X3_127 hts (by omega) (by omega)) rfl hl.1 (Nat.le_of_ble_eq_true rfl) ⟨Nat.zero_le _, Nat.zero_le _⟩ dX3_givenCell_74 (fun r25 S25 H locs hC h => ?_)
      refine lv_iconst (v := -1) hx hb dX3_givenCell_77 (by decide) ?_
      refine lv_icmp_ne (tgt := 89) hx hb dX3_givenCell_78 (by decide) (fun c26 => ?_) (fun c26 => ?_)
      · have h := h.1 c26
        refine lv_aload_n hx hb dX3_givenCell_89 rfl (lv_at hl 1 rfl) ?_
        refine cq_getr (ci := 3) (k := 1) (f := 15) hX hC rfl in_X3 (by decide) wd_132 (fun _ h9 => h9) (fun _ _ => rfl) dX3_givenCell_90 h (fun z27 h => ?_)
        obtain ⟨q28, e9, hh⟩ := h
        subst e9
        have h := hh
        clear hh
        refine cq_getr (ci := 5) (k := 8) (f := 34) hX hC rfl in_X5 (by decide) wd_423 (fun _ h9 => h9) (fun _ _ => rfl) dX3_givenCell_93 h (fun z29 h => ?_)
        refine lv_iload_n hx hb dX3_givenCell_96 rfl (lv_at hl 0 rfl) ?_
        refine lv_dup2_11 hx hb dX3_givenCell_97 (by first | rfl | exact cat_o) (by first | rfl | exact cat_o) ?_
        obtain ⟨q30, e9, hh⟩ := h
        subst e9
        have h := hh
        clear hh
        refine cq_ild hX hC dX3_givenCell_98 h (fun z31 h => ?_)
        refine lv_iconst (v := 1) hx hb dX3_givenCell_99 (by decide) ?_
        refine lq_iadd hx hb dX3_givenCell_100 h (fun z32 h => ?_)
        refine cq_ist hX hC dX3_givenCell_101 h.1 h.2.1 h.2.2 (fun S33 H locs hC h => ?_)
        refine lv_aload_n hx hb dX3_givenCell_102 rfl (lv_at hl 1 rfl) ?_
        refine kv_callv [] (rest := []) (ci := 3) rfl hX hC h.1 (kt_X3_step l S33 t0 _ h.2 E _) (cw_X3_103 hts (by omega) (by omega)) rfl hl.1 (Nat.le_of_ble_eq_true rfl) ⟨Nat.zero_le _, Nat.zero_le _⟩ dX3_givenCell_103 (fun S34 H locs hC h => ?_)
        exact hret _ _ _ _ _ hC h dX3_givenCell_106
      · have h := h.2 c26
        refine lv_aload_n hx hb dX3_givenCell_81 rfl (lv_at hl 1 rfl) ?_
        refine lv_iconst (v := 5) hx hb dX3_givenCell_82 (by decide) ?_
        refine kv_callv [.int 5] (rest := []) (ci := 3) rfl hX hC h.1 (kt_X3_wrong l S25 t0 5 _ h.2 E _) (cw_X3_78 hts (by omega) (by omega)) rfl hl.1 (Nat.le_of_ble_eq_true rfl) ⟨Nat.zero_le _, Nat.zero_le _⟩ dX3_givenCell_83 (fun S35 H locs hC h => ?_)
        refine lv_goto (tgt := 106) hx hb dX3_givenCell_86 (by decide) ?_
        exact hret _ _ _ _ _ hC h dX3_givenCell_106
    · have h := h.2 c16
      refine lv_aload_n hx hb dX3_givenCell_50 rfl (lv_at hl 1 rfl) ?_
      refine lv_iconst (v := 3) hx hb dX3_givenCell_51 (by decide) ?_
      refine kv_callv [.int 3] (rest := []) (ci := 3) rfl hX hC h.1 (kt_X3_wrong l S15 t0 3 _ h.2 E _) (cw_X3_78 hts (by omega) (by omega)) rfl hl.1 (Nat.le_of_ble_eq_true rfl) ⟨Nat.zero_le _, Nat.zero_le _⟩ dX3_givenCell_52 (fun S36 H locs hC h => ?_)
      refine lv_goto (tgt := 106) hx hb dX3_givenCell_55 (by decide) ?_
      exact hret _ _ _ _ _ hC h dX3_givenCell_106
  · have h := h.2 c6
    refine lv_aload_n hx hb dX3_givenCell_18 rfl (lv_at hl 1 rfl) ?_
    refine lv_iconst (v := 1) hx hb dX3_givenCell_19 (by decide) ?_
    refine kv_callv [.int 1] (rest := []) (ci := 3) rfl hX hC h.1 (kt_X3_wrong l S5 t0 1 _ h.2 E _) (cw_X3_78 hts (by omega) (by omega)) rfl hl.1 (Nat.le_of_ble_eq_true rfl) ⟨Nat.zero_le _, Nat.zero_le _⟩ dX3_givenCell_20 (fun S37 H locs hC h => ?_)
    refine lv_goto (tgt := 106) hx hb dX3_givenCell_23 (by decide) ?_
    exact hret _ _ _ _ _ hC h dX3_givenCell_106
def wp_X5_openRoutine (t0 : Nat) (a0 : Int64) (S : kS) (K : kS → Prop) : Prop := hasO S t0 5 ∧ ∀ z1 : Int32, z1 = S.1 18 t0 → ((12 ≤ z1 → K S) ∧ (¬ 12 ≤ z1 → hasO S t0 5 ∧ ∀ z3 : Option Nat, z3 = S.2.1 38 t0 → hasO S t0 5 ∧ ∀ z4 : Int32, z4 = S.1 18 t0 → ∃ q5 : Nat, z3 = some q5 ∧ hasA S q5 12 1 ∧ inR z4 12 ∧ ∀ S6 : kS, S6 = cL S q5 (ix z4) a0 → hasO S6 t0 5 ∧ ∀ z7 : Option Nat, z7 = S6.2.1 32 t0 → hasO S6 t0 5 ∧ ∀ z8 : Int32, z8 = S6.1 18 t0 → hasO S6 t0 5 ∧ ∀ z9 : Int32, z9 = S6.1 17 t0 → ∃ q10 : Nat, z7 = some q10 ∧ hasA S6 q10 12 0 ∧ inR z8 12 ∧ ∀ S11 : kS, S11 = cA S6 q10 (ix z8) z9 → hasO S11 t0 5 ∧ ∀ z12 : Option Nat, z12 = S11.2.1 34 t0 → hasO S11 t0 5 ∧ ∀ z13 : Int32, z13 = S11.1 18 t0 → ∃ q14 : Nat, z12 = some q14 ∧ hasA S11 q14 12 0 ∧ inR z13 12 ∧ ∀ S15 : kS, S15 = cA S11 q14 (ix z13) 0 → hasO S15 t0 5 ∧ ∀ z16 : Option Nat, z16 = S15.2.1 35 t0 → hasO S15 t0 5 ∧ ∀ z17 : Int32, z17 = S15.1 18 t0 → ∃ q18 : Nat, z16 = some q18 ∧ hasA S15 q18 12 0 ∧ inR z17 12 ∧ ∀ S19 : kS, S19 = cA S15 q18 (ix z17) 0 → hasO S19 t0 5 ∧ ∀ z20 : Option Nat, z20 = S19.2.1 36 t0 → hasO S19 t0 5 ∧ ∀ z21 : Int32, z21 = S19.1 18 t0 → ∃ q22 : Nat, z20 = some q22 ∧ hasA S19 q22 12 0 ∧ inR z21 12 ∧ ∀ S23 : kS, S23 = cA S19 q22 (ix z21) 0 → hasO S23 t0 5 ∧ ∀ z24 : Int32, z24 = S23.1 18 t0 → ∀ z25 : Int32, z25 = z24 + 1 → hasO S23 t0 5 ∧ ∀ S26 : kS, S26 = cI S23 18 t0 z25 → K S26))
set_option maxHeartbeats 4000000 in
set_option maxRecDepth 100000 in
theorem kt_X5_openRoutine (l : Launch) (S : kS) (t0 : Nat) (a0 : Int64) (K : kS → Prop) (h : wp_X5_openRoutine t0 a0 S K) : kMv l yX5_openRoutine cX5_openRoutine 3 none 0 0 [.ref t0, .long a0] S K := by
  refine kv_ofv (own := RX5) (by decide) rfl (Nat.le_of_ble_eq_true rfl) ?_
  intro E p e R s m args below meth c A ls Q hRf hRl hX hC hl hret
  have hx := hX.1.1
  have hb := hX.1.2.1
  have hown := hX.1.2.2.2.1
  have hts := hX.1.2.2.2.2
  have hl : lv_has ls 3 [(0, .ref t0), (1, .long a0)] := hl
  unfold wp_X5_openRoutine at h
  refine lv_aload_n hx hb dX5_openRoutine_0 rfl (lv_at hl 0 rfl) ?_
  refine cq_geti (ci := 5) (k := 5) (f := 18) hX hC rfl in_X5 (by decide) wd_413 (fun _ h9 => h9) (fun _ _ => rfl) dX5_openRoutine_1 h (fun z1 h => ?_)
  refine lv_bipush (v := 12) hx hb dX5_openRoutine_4 (by decide) ?_
  refine lv_icmp_ge (tgt := 72) hx hb dX5_openRoutine_6 (by decide) (fun c2 => ?_) (fun c2 => ?_)
  · have h := h.1 c2
    exact hret _ _ _ _ _ hC h dX5_openRoutine_72
  · have h := h.2 c2
    refine lv_aload_n hx hb dX5_openRoutine_9 rfl (lv_at hl 0 rfl) ?_
    refine cq_getr (ci := 5) (k := 12) (f := 38) hX hC rfl in_X5 (by decide) wd_431 (fun _ h9 => h9) (fun _ _ => rfl) dX5_openRoutine_10 h (fun z3 h => ?_)
    refine lv_aload_n hx hb dX5_openRoutine_13 rfl (lv_at hl 0 rfl) ?_
    refine cq_geti (ci := 5) (k := 5) (f := 18) hX hC rfl in_X5 (by decide) wd_413 (fun _ h9 => h9) (fun _ _ => rfl) dX5_openRoutine_14 h (fun z4 h => ?_)
    refine lv_lload_n hx hb dX5_openRoutine_17 rfl (lv_at hl 1 rfl) ?_
    obtain ⟨q5, e9, hh⟩ := h
    subst e9
    have h := hh
    clear hh
    refine cq_lst hX hC dX5_openRoutine_18 h.1 h.2.1 h.2.2 (fun S6 H locs hC h => ?_)
    refine lv_aload_n hx hb dX5_openRoutine_19 rfl (lv_at hl 0 rfl) ?_
    refine cq_getr (ci := 5) (k := 6) (f := 32) hX hC rfl in_X5 (by decide) wd_416 (fun _ h9 => h9) (fun _ _ => rfl) dX5_openRoutine_20 h (fun z7 h => ?_)
    refine lv_aload_n hx hb dX5_openRoutine_23 rfl (lv_at hl 0 rfl) ?_
    refine cq_geti (ci := 5) (k := 5) (f := 18) hX hC rfl in_X5 (by decide) wd_413 (fun _ h9 => h9) (fun _ _ => rfl) dX5_openRoutine_24 h (fun z8 h => ?_)
    refine lv_aload_n hx hb dX5_openRoutine_27 rfl (lv_at hl 0 rfl) ?_
    refine cq_geti (ci := 5) (k := 0) (f := 17) hX hC rfl in_X5 (by decide) wd_395 (fun _ h9 => h9) (fun _ _ => rfl) dX5_openRoutine_28 h (fun z9 h => ?_)
    obtain ⟨q10, e9, hh⟩ := h
    subst e9
    have h := hh
    clear hh
    refine cq_ist hX hC dX5_openRoutine_31 h.1 h.2.1 h.2.2 (fun S11 H locs hC h => ?_)
    refine lv_aload_n hx hb dX5_openRoutine_32 rfl (lv_at hl 0 rfl) ?_
    refine cq_getr (ci := 5) (k := 8) (f := 34) hX hC rfl in_X5 (by decide) wd_421 (fun _ h9 => h9) (fun _ _ => rfl) dX5_openRoutine_33 h (fun z12 h => ?_)
    refine lv_aload_n hx hb dX5_openRoutine_36 rfl (lv_at hl 0 rfl) ?_
    refine cq_geti (ci := 5) (k := 5) (f := 18) hX hC rfl in_X5 (by decide) wd_413 (fun _ h9 => h9) (fun _ _ => rfl) dX5_openRoutine_37 h (fun z13 h => ?_)
    refine lv_iconst (v := 0) hx hb dX5_openRoutine_40 (by decide) ?_
    obtain ⟨q14, e9, hh⟩ := h
    subst e9
    have h := hh
    clear hh
    refine cq_ist hX hC dX5_openRoutine_41 h.1 h.2.1 h.2.2 (fun S15 H locs hC h => ?_)
    refine lv_aload_n hx hb dX5_openRoutine_42 rfl (lv_at hl 0 rfl) ?_
    refine cq_getr (ci := 5) (k := 9) (f := 35) hX hC rfl in_X5 (by decide) wd_425 (fun _ h9 => h9) (fun _ _ => rfl) dX5_openRoutine_43 h (fun z16 h => ?_)
    refine lv_aload_n hx hb dX5_openRoutine_46 rfl (lv_at hl 0 rfl) ?_
    refine cq_geti (ci := 5) (k := 5) (f := 18) hX hC rfl in_X5 (by decide) wd_413 (fun _ h9 => h9) (fun _ _ => rfl) dX5_openRoutine_47 h (fun z17 h => ?_)
    refine lv_iconst (v := 0) hx hb dX5_openRoutine_50 (by decide) ?_
    obtain ⟨q18, e9, hh⟩ := h
    subst e9
    have h := hh
    clear hh
    refine cq_ist hX hC dX5_openRoutine_51 h.1 h.2.1 h.2.2 (fun S19 H locs hC h => ?_)
    refine lv_aload_n hx hb dX5_openRoutine_52 rfl (lv_at hl 0 rfl) ?_
    refine cq_getr (ci := 5) (k := 10) (f := 36) hX hC rfl in_X5 (by decide) wd_427 (fun _ h9 => h9) (fun _ _ => rfl) dX5_openRoutine_53 h (fun z20 h => ?_)
    refine lv_aload_n hx hb dX5_openRoutine_56 rfl (lv_at hl 0 rfl) ?_
    refine cq_geti (ci := 5) (k := 5) (f := 18) hX hC rfl in_X5 (by decide) wd_413 (fun _ h9 => h9) (fun _ _ => rfl) dX5_openRoutine_57 h (fun z21 h => ?_)
    refine lv_iconst (v := 0) hx hb dX5_openRoutine_60 (by decide) ?_
    obtain ⟨q22, e9, hh⟩ := h
    subst e9
    have h := hh
    clear hh
    refine cq_ist hX hC dX5_openRoutine_61 h.1 h.2.1 h.2.2 (fun S23 H locs hC h => ?_)
    refine lv_aload_n hx hb dX5_openRoutine_62 rfl (lv_at hl 0 rfl) ?_
    refine lv_dup hx hb dX5_openRoutine_63 rfl ?_
    refine cq_geti (ci := 5) (k := 5) (f := 18) hX hC rfl in_X5 (by decide) wd_413 (fun _ h9 => h9) (fun _ _ => rfl) dX5_openRoutine_64 h (fun z24 h => ?_)
    refine lv_iconst (v := 1) hx hb dX5_openRoutine_67 (by decide) ?_
    refine lq_iadd hx hb dX5_openRoutine_68 h (fun z25 h => ?_)
    refine cq_puti (v := z25) (ci := 5) (k := 5) (f := 18) hX hC rfl in_X5 (by decide) wd_413 (fun _ h9 => h9) tyX5 tyX5_ok nmX5 rfl rfl rfl (fun _ _ => Nat.le_of_ble_eq_true rfl) (fun _ _ _ => rfl) dX5_openRoutine_69 h.1 h.2 (fun S26 H locs hC h => ?_)
    exact hret _ _ _ _ _ hC h dX5_openRoutine_72
