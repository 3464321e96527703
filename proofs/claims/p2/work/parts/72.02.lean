theorem wd_1822 : (Jvm.Cond.methodLink "SleepersModel" (394 : Nat) ({ cls := "SleepersModel", name := "takeSign", desc := "(I)V" } : Jvm.MethodName)) ∈ tb := tb_at 1822 (by decide +kernel) (by decide +kernel)
theorem wd_1824 : (Jvm.Cond.instanceMethod ({ cls := "SleepersModel", name := "takeSign", desc := "(I)V" } : Jvm.MethodName)) ∈ tb := tb_at 1824 (by decide +kernel) (by decide +kernel)
theorem wd_1825 : (Jvm.Cond.code ({ cls := "SleepersModel", name := "takeSign", desc := "(I)V" } : Jvm.MethodName) prog_14_method_13_code (2 : Nat) (Option.none : Option Jvm.ClassFile.FieldType)) ∈ tb := tb_at 1825 (by decide +kernel) (by decide +kernel)
theorem wd_1834 : (Jvm.Cond.methodLink "SleepersModel" (400 : Nat) ({ cls := "SleepersModel", name := "hasSign", desc := "(I)Z" } : Jvm.MethodName)) ∈ tb := tb_at 1834 (by decide +kernel) (by decide +kernel)
theorem wd_1836 : (Jvm.Cond.instanceMethod ({ cls := "SleepersModel", name := "hasSign", desc := "(I)Z" } : Jvm.MethodName)) ∈ tb := tb_at 1836 (by decide +kernel) (by decide +kernel)
theorem wd_1837 : (Jvm.Cond.code ({ cls := "SleepersModel", name := "hasSign", desc := "(I)Z" } : Jvm.MethodName) prog_14_method_14_code (3 : Nat) (Option.some Jvm.ClassFile.FieldType.boolean)) ∈ tb := tb_at 1837 (by decide +kernel) (by decide +kernel)
theorem wd_1846 : (Jvm.Cond.methodLink "SleepersModel" (438 : Nat) ({ cls := "SleepersModel", name := "within", desc := "(Z)V" } : Jvm.MethodName)) ∈ tb := tb_at 1846 (by decide +kernel) (by decide +kernel)
theorem wd_1848 : (Jvm.Cond.instanceMethod ({ cls := "SleepersModel", name := "within", desc := "(Z)V" } : Jvm.MethodName)) ∈ tb := tb_at 1848 (by decide +kernel) (by decide +kernel)
theorem wd_1849 : (Jvm.Cond.code ({ cls := "SleepersModel", name := "within", desc := "(Z)V" } : Jvm.MethodName) prog_14_method_29_code (2 : Nat) (Option.none : Option Jvm.ClassFile.FieldType)) ∈ tb := tb_at 1849 (by decide +kernel) (by decide +kernel)
theorem wd_1854 : (Jvm.Cond.methodLink "SleepersModel" (350 : Nat) ({ cls := "SleepersModel", name := "hasWord", desc := "(I)Z" } : Jvm.MethodName)) ∈ tb := tb_at 1854 (by decide +kernel) (by decide +kernel)
theorem wd_1856 : (Jvm.Cond.instanceMethod ({ cls := "SleepersModel", name := "hasWord", desc := "(I)Z" } : Jvm.MethodName)) ∈ tb := tb_at 1856 (by decide +kernel) (by decide +kernel)
theorem wd_1857 : (Jvm.Cond.code ({ cls := "SleepersModel", name := "hasWord", desc := "(I)Z" } : Jvm.MethodName) prog_14_method_15_code (3 : Nat) (Option.some Jvm.ClassFile.FieldType.boolean)) ∈ tb := tb_at 1857 (by decide +kernel) (by decide +kernel)
theorem wd_1874 : (Jvm.Cond.methodLink "SleepersModel" (457 : Nat) ({ cls := "SleepersModel", name := "expression", desc := "()V" } : Jvm.MethodName)) ∈ tb := tb_at 1874 (by decide +kernel) (by decide +kernel)
theorem wd_1876 : (Jvm.Cond.instanceMethod ({ cls := "SleepersModel", name := "expression", desc := "()V" } : Jvm.MethodName)) ∈ tb := tb_at 1876 (by decide +kernel) (by decide +kernel)
theorem wd_1877 : (Jvm.Cond.code ({ cls := "SleepersModel", name := "expression", desc := "()V" } : Jvm.MethodName) prog_14_method_44_code (3 : Nat) (Option.none : Option Jvm.ClassFile.FieldType)) ∈ tb := tb_at 1877 (by decide +kernel) (by decide +kernel)
theorem wd_1878 : (Jvm.Cond.methodLink "SleepersModel" (501 : Nat) ({ cls := "SleepersModel", name := "sum", desc := "()V" } : Jvm.MethodName)) ∈ tb := tb_at 1878 (by decide +kernel) (by decide +kernel)
theorem wd_1880 : (Jvm.Cond.instanceMethod ({ cls := "SleepersModel", name := "sum", desc := "()V" } : Jvm.MethodName)) ∈ tb := tb_at 1880 (by decide +kernel) (by decide +kernel)
theorem wd_1881 : (Jvm.Cond.code ({ cls := "SleepersModel", name := "sum", desc := "()V" } : Jvm.MethodName) prog_14_method_45_code (3 : Nat) (Option.none : Option Jvm.ClassFile.FieldType)) ∈ tb := tb_at 1881 (by decide +kernel) (by decide +kernel)
theorem wd_1882 : (Jvm.Cond.methodLink "SleepersModel" (504 : Nat) ({ cls := "SleepersModel", name := "product", desc := "()V" } : Jvm.MethodName)) ∈ tb := tb_at 1882 (by decide +kernel) (by decide +kernel)
theorem wd_1884 : (Jvm.Cond.instanceMethod ({ cls := "SleepersModel", name := "product", desc := "()V" } : Jvm.MethodName)) ∈ tb := tb_at 1884 (by decide +kernel) (by decide +kernel)
theorem wd_1885 : (Jvm.Cond.code ({ cls := "SleepersModel", name := "product", desc := "()V" } : Jvm.MethodName) prog_14_method_46_code (3 : Nat) (Option.none : Option Jvm.ClassFile.FieldType)) ∈ tb := tb_at 1885 (by decide +kernel) (by decide +kernel)
theorem wd_1890 : (Jvm.Cond.methodLink "SleepersModel" (510 : Nat) ({ cls := "SleepersModel", name := "partWithin", desc := "()V" } : Jvm.MethodName)) ∈ tb := tb_at 1890 (by decide +kernel) (by decide +kernel)
theorem wd_1892 : (Jvm.Cond.instanceMethod ({ cls := "SleepersModel", name := "partWithin", desc := "()V" } : Jvm.MethodName)) ∈ tb := tb_at 1892 (by decide +kernel) (by decide +kernel)
theorem wd_1893 : (Jvm.Cond.code ({ cls := "SleepersModel", name := "partWithin", desc := "()V" } : Jvm.MethodName) prog_14_method_48_code (3 : Nat) (Option.none : Option Jvm.ClassFile.FieldType)) ∈ tb := tb_at 1893 (by decide +kernel) (by decide +kernel)
theorem wd_1894 : (Jvm.Cond.methodLink "SleepersModel" (470 : Nat) ({ cls := "SleepersModel", name := "takeCell", desc := "()I" } : Jvm.MethodName)) ∈ tb := tb_at 1894 (by decide +kernel) (by decide +kernel)
theorem wd_1896 : (Jvm.Cond.instanceMethod ({ cls := "SleepersModel", name := "takeCell", desc := "()I" } : Jvm.MethodName)) ∈ tb := tb_at 1896 (by decide +kernel) (by decide +kernel)
theorem wd_1897 : (Jvm.Cond.code ({ cls := "SleepersModel", name := "takeCell", desc := "()I" } : Jvm.MethodName) prog_14_method_23_code (2 : Nat) (Option.some Jvm.ClassFile.FieldType.int)) ∈ tb := tb_at 1897 (by decide +kernel) (by decide +kernel)
theorem sl_X12_expression : Cond.selects RX12 yX12_expression yX12_expression ∈ tb := sl_of (y := ⟨"SleepersModel", "expression", "()V"⟩) (n := 128) (by decide +kernel) (by decide +kernel)
theorem sl_X12_hasSign : Cond.selects RX12 yX12_hasSign yX12_hasSign ∈ tb := sl_of (y := ⟨"SleepersModel", "hasSign", "(I)Z"⟩) (n := 128) (by decide +kernel) (by decide +kernel)
theorem sl_X12_hasWord : Cond.selects RX12 yX12_hasWord yX12_hasWord ∈ tb := sl_of (y := ⟨"SleepersModel", "hasWord", "(I)Z"⟩) (n := 128) (by decide +kernel) (by decide +kernel)
theorem sl_X12_partWithin : Cond.selects RX12 yX12_partWithin yX12_partWithin ∈ tb := sl_of (y := ⟨"SleepersModel", "partWithin", "()V"⟩) (n := 128) (by decide +kernel) (by decide +kernel)
theorem sl_X12_product : Cond.selects RX12 yX12_product yX12_product ∈ tb := sl_of (y := ⟨"SleepersModel", "product", "()V"⟩) (n := 128) (by decide +kernel) (by decide +kernel)
theorem sl_X12_sum : Cond.selects RX12 yX12_sum yX12_sum ∈ tb := sl_of (y := ⟨"SleepersModel", "sum", "()V"⟩) (n := 128) (by decide +kernel) (by decide +kernel)
theorem sl_X12_takeCell : Cond.selects RX12 yX12_takeCell yX12_takeCell ∈ tb := sl_of (y := ⟨"SleepersModel", "takeCell", "()I"⟩) (n := 128) (by decide +kernel) (by decide +kernel)
theorem sl_X12_takeSign : Cond.selects RX12 yX12_takeSign yX12_takeSign ∈ tb := sl_of (y := ⟨"SleepersModel", "takeSign", "(I)V"⟩) (n := 128) (by decide +kernel) (by decide +kernel)
theorem sl_X12_within : Cond.selects RX12 yX12_within yX12_within ∈ tb := sl_of (y := ⟨"SleepersModel", "within", "(Z)V"⟩) (n := 128) (by decide +kernel) (by decide +kernel)
theorem dX12_expression_0 : decode cX12_expression 0 = .ok (.aload_n 0, 1) := by decide +kernel
theorem dX12_expression_1 : decode cX12_expression 1 = .ok (.invokevirtual 501, 3) := by decide +kernel
theorem dX12_expression_4 : decode cX12_expression 4 = .ok (.aload_n 0, 1) := by decide +kernel
theorem dX12_expression_5 : decode cX12_expression 5 = .ok (.bipush 60, 2) := by decide +kernel
theorem dX12_expression_7 : decode cX12_expression 7 = .ok (.invokevirtual 340, 3) := by decide +kernel
theorem dX12_expression_10 : decode cX12_expression 10 = .ok (.istore_n 1, 1) := by decide +kernel
theorem dX12_expression_11 : decode cX12_expression 11 = .ok (.iload_n 1, 1) := by decide +kernel
theorem dX12_expression_12 : decode cX12_expression 12 = .ok (.ifCond .ne 12, 3) := by decide +kernel
theorem dX12_expression_15 : decode cX12_expression 15 = .ok (.aload_n 0, 1) := by decide +kernel
theorem dX12_expression_16 : decode cX12_expression 16 = .ok (.bipush 61, 2) := by decide +kernel
theorem dX12_expression_18 : decode cX12_expression 18 = .ok (.invokevirtual 340, 3) := by decide +kernel
theorem dX12_expression_21 : decode cX12_expression 21 = .ok (.ifCond .eq 35, 3) := by decide +kernel
theorem dX12_expression_24 : decode cX12_expression 24 = .ok (.aload_n 0, 1) := by decide +kernel
theorem dX12_expression_25 : decode cX12_expression 25 = .ok (.dup, 1) := by decide +kernel
theorem dX12_expression_26 : decode cX12_expression 26 = .ok (.getfield 334, 3) := by decide +kernel
theorem dX12_expression_29 : decode cX12_expression 29 = .ok (.iconst 1, 1) := by decide +kernel
theorem dX12_expression_30 : decode cX12_expression 30 = .ok (.iadd, 1) := by decide +kernel
theorem dX12_expression_31 : decode cX12_expression 31 = .ok (.putfield 334, 3) := by decide +kernel
theorem dX12_expression_34 : decode cX12_expression 34 = .ok (.aload_n 0, 1) := by decide +kernel
theorem dX12_expression_35 : decode cX12_expression 35 = .ok (.invokevirtual 501, 3) := by decide +kernel
theorem dX12_expression_38 : decode cX12_expression 38 = .ok (.aload_n 0, 1) := by decide +kernel
theorem dX12_expression_39 : decode cX12_expression 39 = .ok (.iload_n 1, 1) := by decide +kernel
theorem dX12_expression_40 : decode cX12_expression 40 = .ok (.ifCond .eq 8, 3) := by decide +kernel
theorem dX12_expression_43 : decode cX12_expression 43 = .ok (.bipush 11, 2) := by decide +kernel
theorem dX12_expression_45 : decode cX12_expression 45 = .ok (.goto 5, 3) := by decide +kernel
theorem dX12_expression_48 : decode cX12_expression 48 = .ok (.bipush 12, 2) := by decide +kernel
theorem dX12_expression_50 : decode cX12_expression 50 = .ok (.iconst 0, 1) := by decide +kernel
theorem dX12_expression_51 : decode cX12_expression 51 = .ok (.iconst 0, 1) := by decide +kernel
theorem dX12_expression_52 : decode cX12_expression 52 = .ok (.invokevirtual 431, 3) := by decide +kernel
theorem dX12_expression_55 : decode cX12_expression 55 = .ok (.istore_n 2, 1) := by decide +kernel
theorem dX12_expression_56 : decode cX12_expression 56 = .ok (.return_, 1) := by decide +kernel
theorem dX12_join_0 : decode cX12_join 0 = .ok (.aload_n 0, 1) := by decide +kernel
theorem dX12_join_1 : decode cX12_join 1 = .ok (.iconst 0, 1) := by decide +kernel
theorem dX12_join_2 : decode cX12_join 2 = .ok (.iconst 0, 1) := by decide +kernel
theorem dX12_join_3 : decode cX12_join 3 = .ok (.invokevirtual 421, 3) := by decide +kernel
theorem dX12_join_6 : decode cX12_join 6 = .ok (.istore_n 2, 1) := by decide +kernel
theorem dX12_join_7 : decode cX12_join 7 = .ok (.aload_n 0, 1) := by decide +kernel
theorem dX12_join_8 : decode cX12_join 8 = .ok (.iload_n 2, 1) := by decide +kernel
theorem dX12_join_9 : decode cX12_join 9 = .ok (.invokevirtual 435, 3) := by decide +kernel
theorem dX12_join_12 : decode cX12_join 12 = .ok (.aload_n 0, 1) := by decide +kernel
theorem dX12_join_13 : decode cX12_join 13 = .ok (.iload_n 1, 1) := by decide +kernel
theorem dX12_join_14 : decode cX12_join 14 = .ok (.putfield 425, 3) := by decide +kernel
theorem dX12_join_17 : decode cX12_join 17 = .ok (.aload_n 0, 1) := by decide +kernel
theorem dX12_join_18 : decode cX12_join 18 = .ok (.iload_n 2, 1) := by decide +kernel
theorem dX12_join_19 : decode cX12_join 19 = .ok (.invokevirtual 435, 3) := by decide +kernel
theorem dX12_join_22 : decode cX12_join 22 = .ok (.aload_n 0, 1) := by decide +kernel
theorem dX12_join_23 : decode cX12_join 23 = .ok (.iload_n 2, 1) := by decide +kernel
theorem dX12_join_24 : decode cX12_join 24 = .ok (.putfield 425, 3) := by decide +kernel
theorem dX12_join_27 : decode cX12_join 27 = .ok (.return_, 1) := by decide +kernel
theorem dX12_marks_0 : decode cX12_marks 0 = .ok (.aload_n 0, 1) := by decide +kernel
theorem dX12_marks_1 : decode cX12_marks 1 = .ok (.getfield 403, 3) := by decide +kernel
theorem dX12_marks_4 : decode cX12_marks 4 = .ok (.istore_n 3, 1) := by decide +kernel
theorem dX12_marks_5 : decode cX12_marks 5 = .ok (.aload_n 0, 1) := by decide +kernel
theorem dX12_marks_6 : decode cX12_marks 6 = .ok (.getfield 406, 3) := by decide +kernel
theorem dX12_marks_9 : decode cX12_marks 9 = .ok (.istore 4, 2) := by decide +kernel
theorem dX12_marks_11 : decode cX12_marks 11 = .ok (.iload_n 3, 1) := by decide +kernel
theorem dX12_marks_12 : decode cX12_marks 12 = .ok (.ifCond .lt 55, 3) := by decide +kernel
theorem dX12_marks_15 : decode cX12_marks 15 = .ok (.iload_n 2, 1) := by decide +kernel
theorem dX12_marks_16 : decode cX12_marks 16 = .ok (.ifCond .lt 13, 3) := by decide +kernel
theorem dX12_marks_19 : decode cX12_marks 19 = .ok (.iload_n 3, 1) := by decide +kernel
theorem dX12_marks_20 : decode cX12_marks 20 = .ok (.aload_n 0, 1) := by decide +kernel
theorem dX12_marks_21 : decode cX12_marks 21 = .ok (.getfield 149, 3) := by decide +kernel
theorem dX12_marks_24 : decode cX12_marks 24 = .ok (.iload_n 2, 1) := by decide +kernel
theorem dX12_marks_25 : decode cX12_marks 25 = .ok (.iaload, 1) := by decide +kernel
theorem dX12_marks_26 : decode cX12_marks 26 = .ok (.if_icmp .eq 41, 3) := by decide +kernel
theorem dX12_marks_29 : decode cX12_marks 29 = .ok (.aload_n 1, 1) := by decide +kernel
theorem dX12_marks_30 : decode cX12_marks 30 = .ok (.iload_n 3, 1) := by decide +kernel
theorem dX12_marks_31 : decode cX12_marks 31 = .ok (.aload_n 1, 1) := by decide +kernel
theorem dX12_marks_32 : decode cX12_marks 32 = .ok (.iload_n 3, 1) := by decide +kernel
theorem dX12_marks_33 : decode cX12_marks 33 = .ok (.baload, 1) := by decide +kernel
theorem dX12_marks_34 : decode cX12_marks 34 = .ok (.ifCond .ne 9, 3) := by decide +kernel
theorem dX12_marks_37 : decode cX12_marks 37 = .ok (.iload 4, 2) := by decide +kernel
theorem dX12_marks_39 : decode cX12_marks 39 = .ok (.iconst 2, 1) := by decide +kernel
theorem dX12_marks_40 : decode cX12_marks 40 = .ok (.if_icmp .ge 7, 3) := by decide +kernel
theorem dX12_marks_43 : decode cX12_marks 43 = .ok (.iconst 1, 1) := by decide +kernel
theorem dX12_marks_44 : decode cX12_marks 44 = .ok (.goto 4, 3) := by decide +kernel
theorem dX12_marks_47 : decode cX12_marks 47 = .ok (.iconst 0, 1) := by decide +kernel
theorem dX12_marks_48 : decode cX12_marks 48 = .ok (.bastore, 1) := by decide +kernel
theorem dX12_marks_49 : decode cX12_marks 49 = .ok (.aload_n 0, 1) := by decide +kernel
theorem dX12_marks_50 : decode cX12_marks 50 = .ok (.getfield 106, 3) := by decide +kernel
theorem dX12_marks_53 : decode cX12_marks 53 = .ok (.iload_n 3, 1) := by decide +kernel
theorem dX12_marks_54 : decode cX12_marks 54 = .ok (.iaload, 1) := by decide +kernel
theorem dX12_marks_55 : decode cX12_marks 55 = .ok (.istore 4, 2) := by decide +kernel
theorem dX12_marks_57 : decode cX12_marks 57 = .ok (.aload_n 0, 1) := by decide +kernel
theorem dX12_marks_58 : decode cX12_marks 58 = .ok (.getfield 103, 3) := by decide +kernel
theorem dX12_marks_61 : decode cX12_marks 61 = .ok (.iload_n 3, 1) := by decide +kernel
theorem dX12_marks_62 : decode cX12_marks 62 = .ok (.iaload, 1) := by decide +kernel
theorem dX12_marks_63 : decode cX12_marks 63 = .ok (.istore_n 3, 1) := by decide +kernel
theorem dX12_marks_64 : decode cX12_marks 64 = .ok (.goto (-53), 3) := by decide +kernel
theorem dX12_marks_67 : decode cX12_marks 67 = .ok (.return_, 1) := by decide +kernel
theorem dX12_part_0 : decode cX12_part 0 = .ok (.aload_n 0, 1) := by decide +kernel
theorem dX12_part_1 : decode cX12_part 1 = .ok (.aload_n 0, 1) := by decide +kernel
theorem dX12_part_2 : decode cX12_part 2 = .ok (.getfield 337, 3) := by decide +kernel
theorem dX12_part_5 : decode cX12_part 5 = .ok (.ifCond .ne 54, 3) := by decide +kernel
theorem dX12_part_8 : decode cX12_part 8 = .ok (.aload_n 0, 1) := by decide +kernel
theorem dX12_part_9 : decode cX12_part 9 = .ok (.getfield 24, 3) := by decide +kernel
theorem dX12_part_12 : decode cX12_part 12 = .ok (.aload_n 0, 1) := by decide +kernel
theorem dX12_part_13 : decode cX12_part 13 = .ok (.getfield 334, 3) := by decide +kernel
theorem dX12_part_16 : decode cX12_part 16 = .ok (.iaload, 1) := by decide +kernel
theorem dX12_part_17 : decode cX12_part 17 = .ok (.iconst 2, 1) := by decide +kernel
theorem dX12_part_18 : decode cX12_part 18 = .ok (.if_icmp .eq 37, 3) := by decide +kernel
theorem dX12_part_21 : decode cX12_part 21 = .ok (.aload_n 0, 1) := by decide +kernel
theorem dX12_part_22 : decode cX12_part 22 = .ok (.bipush 40, 2) := by decide +kernel
theorem dX12_part_24 : decode cX12_part 24 = .ok (.invokevirtual 340, 3) := by decide +kernel
theorem dX12_part_27 : decode cX12_part 27 = .ok (.ifCond .ne 28, 3) := by decide +kernel
theorem dX12_part_30 : decode cX12_part 30 = .ok (.aload_n 0, 1) := by decide +kernel
theorem dX12_part_31 : decode cX12_part 31 = .ok (.bipush 45, 2) := by decide +kernel
theorem dX12_part_33 : decode cX12_part 33 = .ok (.invokevirtual 340, 3) := by decide +kernel
theorem dX12_part_36 : decode cX12_part 36 = .ok (.ifCond .ne 19, 3) := by decide +kernel
theorem dX12_part_39 : decode cX12_part 39 = .ok (.aload_n 0, 1) := by decide +kernel
theorem dX12_part_40 : decode cX12_part 40 = .ok (.bipush 20, 2) := by decide +kernel
theorem dX12_part_42 : decode cX12_part 42 = .ok (.invokevirtual 347, 3) := by decide +kernel
theorem dX12_part_45 : decode cX12_part 45 = .ok (.ifCond .ne 10, 3) := by decide +kernel
theorem dX12_part_48 : decode cX12_part 48 = .ok (.aload_n 0, 1) := by decide +kernel
theorem dX12_part_49 : decode cX12_part 49 = .ok (.invokevirtual 387, 3) := by decide +kernel
theorem dX12_part_52 : decode cX12_part 52 = .ok (.ifCond .eq 7, 3) := by decide +kernel
theorem dX12_part_55 : decode cX12_part 55 = .ok (.iconst 1, 1) := by decide +kernel
theorem dX12_part_56 : decode cX12_part 56 = .ok (.goto 4, 3) := by decide +kernel
theorem dX12_part_59 : decode cX12_part 59 = .ok (.iconst 0, 1) := by decide +kernel
theorem dX12_part_60 : decode cX12_part 60 = .ok (.invokevirtual 438, 3) := by decide +kernel
theorem dX12_part_63 : decode cX12_part 63 = .ok (.aload_n 0, 1) := by decide +kernel
theorem dX12_part_64 : decode cX12_part 64 = .ok (.getfield 337, 3) := by decide +kernel
theorem dX12_part_67 : decode cX12_part 67 = .ok (.ifCond .ne 7, 3) := by decide +kernel
theorem dX12_part_70 : decode cX12_part 70 = .ok (.aload_n 0, 1) := by decide +kernel
theorem dX12_part_71 : decode cX12_part 71 = .ok (.invokevirtual 510, 3) := by decide +kernel
theorem dX12_part_74 : decode cX12_part 74 = .ok (.aload_n 0, 1) := by decide +kernel
theorem dX12_part_75 : decode cX12_part 75 = .ok (.dup, 1) := by decide +kernel
theorem dX12_part_76 : decode cX12_part 76 = .ok (.getfield 418, 3) := by decide +kernel
theorem dX12_part_79 : decode cX12_part 79 = .ok (.iconst 1, 1) := by decide +kernel
theorem dX12_part_80 : decode cX12_part 80 = .ok (.isub, 1) := by decide +kernel
theorem dX12_part_81 : decode cX12_part 81 = .ok (.putfield 418, 3) := by decide +kernel
theorem dX12_part_84 : decode cX12_part 84 = .ok (.return_, 1) := by decide +kernel
theorem dX12_partWithin_0 : decode cX12_partWithin 0 = .ok (.aload_n 0, 1) := by decide +kernel
theorem dX12_partWithin_1 : decode cX12_partWithin 1 = .ok (.iconst 1, 1) := by decide +kernel
theorem dX12_partWithin_2 : decode cX12_partWithin 2 = .ok (.iconst 0, 1) := by decide +kernel
theorem dX12_partWithin_3 : decode cX12_partWithin 3 = .ok (.iconst 0, 1) := by decide +kernel
theorem dX12_partWithin_4 : decode cX12_partWithin 4 = .ok (.invokevirtual 431, 3) := by decide +kernel
theorem dX12_partWithin_7 : decode cX12_partWithin 7 = .ok (.istore_n 1, 1) := by decide +kernel
theorem dX12_partWithin_8 : decode cX12_partWithin 8 = .ok (.aload_n 0, 1) := by decide +kernel
theorem dX12_partWithin_9 : decode cX12_partWithin 9 = .ok (.getfield 24, 3) := by decide +kernel
theorem dX12_partWithin_12 : decode cX12_partWithin 12 = .ok (.aload_n 0, 1) := by decide +kernel
theorem dX12_partWithin_13 : decode cX12_partWithin 13 = .ok (.getfield 334, 3) := by decide +kernel
theorem dX12_partWithin_16 : decode cX12_partWithin 16 = .ok (.iaload, 1) := by decide +kernel
theorem dX12_partWithin_17 : decode cX12_partWithin 17 = .ok (.iconst 2, 1) := by decide +kernel
theorem dX12_partWithin_18 : decode cX12_partWithin 18 = .ok (.if_icmp .ne 33, 3) := by decide +kernel
theorem dX12_partWithin_21 : decode cX12_partWithin 21 = .ok (.aload_n 0, 1) := by decide +kernel
theorem dX12_partWithin_22 : decode cX12_partWithin 22 = .ok (.iconst 2, 1) := by decide +kernel
theorem dX12_partWithin_23 : decode cX12_partWithin 23 = .ok (.aload_n 0, 1) := by decide +kernel
theorem dX12_partWithin_24 : decode cX12_partWithin 24 = .ok (.getfield 30, 3) := by decide +kernel
theorem dX12_partWithin_27 : decode cX12_partWithin 27 = .ok (.aload_n 0, 1) := by decide +kernel
theorem dX12_partWithin_28 : decode cX12_partWithin 28 = .ok (.getfield 334, 3) := by decide +kernel
theorem dX12_partWithin_31 : decode cX12_partWithin 31 = .ok (.laload, 1) := by decide +kernel
theorem dX12_partWithin_32 : decode cX12_partWithin 32 = .ok (.l2i, 1) := by decide +kernel
theorem dX12_partWithin_33 : decode cX12_partWithin 33 = .ok (.iconst 0, 1) := by decide +kernel
theorem dX12_partWithin_34 : decode cX12_partWithin 34 = .ok (.invokevirtual 431, 3) := by decide +kernel
theorem dX12_partWithin_37 : decode cX12_partWithin 37 = .ok (.istore_n 1, 1) := by decide +kernel
theorem dX12_partWithin_38 : decode cX12_partWithin 38 = .ok (.aload_n 0, 1) := by decide +kernel
theorem dX12_partWithin_39 : decode cX12_partWithin 39 = .ok (.dup, 1) := by decide +kernel
theorem dX12_partWithin_40 : decode cX12_partWithin 40 = .ok (.getfield 334, 3) := by decide +kernel
theorem dX12_partWithin_43 : decode cX12_partWithin 43 = .ok (.iconst 1, 1) := by decide +kernel
theorem dX12_partWithin_44 : decode cX12_partWithin 44 = .ok (.iadd, 1) := by decide +kernel
theorem dX12_partWithin_45 : decode cX12_partWithin 45 = .ok (.putfield 334, 3) := by decide +kernel
theorem dX12_partWithin_48 : decode cX12_partWithin 48 = .ok (.goto 89, 3) := by decide +kernel
theorem dX12_partWithin_51 : decode cX12_partWithin 51 = .ok (.aload_n 0, 1) := by decide +kernel
theorem dX12_partWithin_52 : decode cX12_partWithin 52 = .ok (.bipush 40, 2) := by decide +kernel
theorem dX12_partWithin_54 : decode cX12_partWithin 54 = .ok (.invokevirtual 400, 3) := by decide +kernel
theorem dX12_partWithin_57 : decode cX12_partWithin 57 = .ok (.ifCond .eq 16, 3) := by decide +kernel
theorem dX12_partWithin_60 : decode cX12_partWithin 60 = .ok (.aload_n 0, 1) := by decide +kernel
theorem dX12_partWithin_61 : decode cX12_partWithin 61 = .ok (.invokevirtual 457, 3) := by decide +kernel
theorem dX12_partWithin_64 : decode cX12_partWithin 64 = .ok (.aload_n 0, 1) := by decide +kernel
theorem dX12_partWithin_65 : decode cX12_partWithin 65 = .ok (.bipush 41, 2) := by decide +kernel
theorem dX12_partWithin_67 : decode cX12_partWithin 67 = .ok (.invokevirtual 394, 3) := by decide +kernel
theorem dX12_partWithin_70 : decode cX12_partWithin 70 = .ok (.goto 67, 3) := by decide +kernel
theorem dX12_partWithin_73 : decode cX12_partWithin 73 = .ok (.aload_n 0, 1) := by decide +kernel
theorem dX12_partWithin_74 : decode cX12_partWithin 74 = .ok (.bipush 45, 2) := by decide +kernel
theorem dX12_partWithin_76 : decode cX12_partWithin 76 = .ok (.invokevirtual 400, 3) := by decide +kernel
theorem dX12_partWithin_79 : decode cX12_partWithin 79 = .ok (.ifCond .eq 18, 3) := by decide +kernel
theorem dX12_partWithin_82 : decode cX12_partWithin 82 = .ok (.aload_n 0, 1) := by decide +kernel
theorem dX12_partWithin_83 : decode cX12_partWithin 83 = .ok (.invokevirtual 507, 3) := by decide +kernel
theorem dX12_partWithin_86 : decode cX12_partWithin 86 = .ok (.aload_n 0, 1) := by decide +kernel
theorem dX12_partWithin_87 : decode cX12_partWithin 87 = .ok (.iconst 5, 1) := by decide +kernel
theorem dX12_partWithin_88 : decode cX12_partWithin 88 = .ok (.iconst 0, 1) := by decide +kernel
theorem dX12_partWithin_89 : decode cX12_partWithin 89 = .ok (.iconst 0, 1) := by decide +kernel
theorem dX12_partWithin_90 : decode cX12_partWithin 90 = .ok (.invokevirtual 431, 3) := by decide +kernel
theorem dX12_partWithin_93 : decode cX12_partWithin 93 = .ok (.istore_n 1, 1) := by decide +kernel
theorem dX12_partWithin_94 : decode cX12_partWithin 94 = .ok (.goto 43, 3) := by decide +kernel
theorem dX12_partWithin_97 : decode cX12_partWithin 97 = .ok (.aload_n 0, 1) := by decide +kernel
theorem dX12_partWithin_98 : decode cX12_partWithin 98 = .ok (.bipush 20, 2) := by decide +kernel
theorem dX12_partWithin_100 : decode cX12_partWithin 100 = .ok (.invokevirtual 350, 3) := by decide +kernel
theorem dX12_partWithin_103 : decode cX12_partWithin 103 = .ok (.ifCond .eq 14, 3) := by decide +kernel
theorem dX12_partWithin_106 : decode cX12_partWithin 106 = .ok (.aload_n 0, 1) := by decide +kernel
theorem dX12_partWithin_107 : decode cX12_partWithin 107 = .ok (.iconst 4, 1) := by decide +kernel
theorem dX12_partWithin_108 : decode cX12_partWithin 108 = .ok (.iconst 0, 1) := by decide +kernel
theorem dX12_partWithin_109 : decode cX12_partWithin 109 = .ok (.iconst 0, 1) := by decide +kernel
theorem dX12_partWithin_110 : decode cX12_partWithin 110 = .ok (.invokevirtual 431, 3) := by decide +kernel
theorem dX12_partWithin_113 : decode cX12_partWithin 113 = .ok (.istore_n 1, 1) := by decide +kernel
theorem dX12_partWithin_114 : decode cX12_partWithin 114 = .ok (.goto 23, 3) := by decide +kernel
theorem dX12_partWithin_117 : decode cX12_partWithin 117 = .ok (.aload_n 0, 1) := by decide +kernel
theorem dX12_partWithin_118 : decode cX12_partWithin 118 = .ok (.invokevirtual 470, 3) := by decide +kernel
theorem dX12_partWithin_121 : decode cX12_partWithin 121 = .ok (.istore_n 2, 1) := by decide +kernel
theorem dX12_partWithin_122 : decode cX12_partWithin 122 = .ok (.aload_n 0, 1) := by decide +kernel
theorem dX12_partWithin_123 : decode cX12_partWithin 123 = .ok (.iconst 3, 1) := by decide +kernel
theorem dX12_partWithin_124 : decode cX12_partWithin 124 = .ok (.iload_n 2, 1) := by decide +kernel
theorem dX12_partWithin_125 : decode cX12_partWithin 125 = .ok (.iconst 0, 1) := by decide +kernel
theorem dX12_partWithin_126 : decode cX12_partWithin 126 = .ok (.invokevirtual 431, 3) := by decide +kernel
theorem dX12_partWithin_129 : decode cX12_partWithin 129 = .ok (.istore_n 1, 1) := by decide +kernel
theorem dX12_partWithin_130 : decode cX12_partWithin 130 = .ok (.aload_n 0, 1) := by decide +kernel
theorem dX12_partWithin_131 : decode cX12_partWithin 131 = .ok (.iconst 1, 1) := by decide +kernel
theorem dX12_partWithin_132 : decode cX12_partWithin 132 = .ok (.iload_n 2, 1) := by decide +kernel
theorem dX12_partWithin_133 : decode cX12_partWithin 133 = .ok (.invokevirtual 460, 3) := by decide +kernel
theorem dX12_partWithin_136 : decode cX12_partWithin 136 = .ok (.istore_n 1, 1) := by decide +kernel
theorem dX12_partWithin_137 : decode cX12_partWithin 137 = .ok (.return_, 1) := by decide +kernel
theorem dX12_sum_0 : decode cX12_sum 0 = .ok (.aload_n 0, 1) := by decide +kernel
theorem dX12_sum_1 : decode cX12_sum 1 = .ok (.invokevirtual 504, 3) := by decide +kernel
theorem dX12_sum_4 : decode cX12_sum 4 = .ok (.aload_n 0, 1) := by decide +kernel
theorem dX12_sum_5 : decode cX12_sum 5 = .ok (.bipush 43, 2) := by decide +kernel
theorem dX12_sum_7 : decode cX12_sum 7 = .ok (.invokevirtual 340, 3) := by decide +kernel
theorem dX12_sum_10 : decode cX12_sum 10 = .ok (.ifCond .ne 12, 3) := by decide +kernel
theorem dX12_sum_13 : decode cX12_sum 13 = .ok (.aload_n 0, 1) := by decide +kernel
theorem dX12_sum_14 : decode cX12_sum 14 = .ok (.bipush 45, 2) := by decide +kernel
theorem dX12_sum_16 : decode cX12_sum 16 = .ok (.invokevirtual 340, 3) := by decide +kernel
theorem dX12_sum_19 : decode cX12_sum 19 = .ok (.ifCond .eq 45, 3) := by decide +kernel
theorem dX12_sum_22 : decode cX12_sum 22 = .ok (.aload_n 0, 1) := by decide +kernel
theorem dX12_sum_23 : decode cX12_sum 23 = .ok (.bipush 43, 2) := by decide +kernel
theorem dX12_sum_25 : decode cX12_sum 25 = .ok (.invokevirtual 340, 3) := by decide +kernel
theorem dX12_sum_28 : decode cX12_sum 28 = .ok (.ifCond .eq 8, 3) := by decide +kernel
theorem dX12_sum_31 : decode cX12_sum 31 = .ok (.bipush 9, 2) := by decide +kernel
theorem dX12_sum_33 : decode cX12_sum 33 = .ok (.goto 5, 3) := by decide +kernel
theorem dX12_sum_36 : decode cX12_sum 36 = .ok (.bipush 10, 2) := by decide +kernel
theorem dX12_sum_38 : decode cX12_sum 38 = .ok (.istore_n 1, 1) := by decide +kernel
theorem dX12_sum_39 : decode cX12_sum 39 = .ok (.aload_n 0, 1) := by decide +kernel
theorem dX12_sum_40 : decode cX12_sum 40 = .ok (.dup, 1) := by decide +kernel
theorem dX12_sum_41 : decode cX12_sum 41 = .ok (.getfield 334, 3) := by decide +kernel
theorem dX12_sum_44 : decode cX12_sum 44 = .ok (.iconst 1, 1) := by decide +kernel
theorem dX12_sum_45 : decode cX12_sum 45 = .ok (.iadd, 1) := by decide +kernel
theorem dX12_sum_46 : decode cX12_sum 46 = .ok (.putfield 334, 3) := by decide +kernel
theorem dX12_sum_49 : decode cX12_sum 49 = .ok (.aload_n 0, 1) := by decide +kernel
theorem dX12_sum_50 : decode cX12_sum 50 = .ok (.invokevirtual 504, 3) := by decide +kernel
theorem dX12_sum_53 : decode cX12_sum 53 = .ok (.aload_n 0, 1) := by decide +kernel
theorem dX12_sum_54 : decode cX12_sum 54 = .ok (.iload_n 1, 1) := by decide +kernel
theorem dX12_sum_55 : decode cX12_sum 55 = .ok (.iconst 0, 1) := by decide +kernel
theorem dX12_sum_56 : decode cX12_sum 56 = .ok (.iconst 0, 1) := by decide +kernel
theorem dX12_sum_57 : decode cX12_sum 57 = .ok (.invokevirtual 431, 3) := by decide +kernel
theorem dX12_sum_60 : decode cX12_sum 60 = .ok (.istore_n 2, 1) := by decide +kernel
theorem dX12_sum_61 : decode cX12_sum 61 = .ok (.goto (-57), 3) := by decide +kernel
theorem dX12_sum_64 : decode cX12_sum 64 = .ok (.return_, 1) := by decide +kernel
def wp_sum_38 (r_part : mS → (mS → Prop) → Prop) (K : mS → Prop) (k4 : mS → Prop) (y0 : Int32) (S : mS) : Prop := ∀ z8 : Int32, z8 = (S.1 3) + 1 → ∀ S9 : mS, S9 = sZ S 3 z8 → wp_product r_part S9 (fun (S10 : mS) => wp_emit y0 0 0 S10 (fun (S11 : mS) (r11 : Int32) => k4 S11))
def wp_sum_22 (r_part : mS → (mS → Prop) → Prop) (K : mS → Prop) (k4 : mS → Prop) (S : mS) : Prop := wp_isSign 43 S (fun (S6 : mS) (r6 : Int32) => ((r6 = 0 → wp_sum_38 r_part K k4 10 S6) ∧ (¬ r6 = 0 → wp_sum_38 r_part K k4 9 S6)))
def wp_sum_4 (r_part : mS → (mS → Prop) → Prop) (K : mS → Prop) (k4 : mS → Prop) (S : mS) : Prop := wp_isSign 43 S (fun (S2 : mS) (r2 : Int32) => ((¬ r2 = 0 → wp_sum_22 r_part K k4 S2) ∧ (r2 = 0 → wp_isSign 45 S2 (fun (S4 : mS) (r4 : Int32) => ((r4 = 0 → K S4) ∧ (¬ r4 = 0 → wp_sum_22 r_part K k4 S4))))))
def ls_sum_4 (r_part : mS → (mS → Prop) → Prop) (K : mS → Prop) (k4 : mS → Prop) (u : mS) : Prop := wp_sum_4 r_part K k4 u
def wp_sum (r_part : mS → (mS → Prop) → Prop) (S : mS) (K : mS → Prop) : Prop := wp_product r_part S (fun (S1 : mS) => (∃ n9, it (ls_sum_4 r_part K) n9 S1))
theorem cw_X12_product {R : Room} {s : State} {args : Array Value} {fr lo : Nat} (hts : ∀ w ∈ tb, w.before args s = true) (h1 : fr + 1 ≤ R.frames) (h2 : 8 + (3 + 11) + lo ≤ R.locals) : CallW R s args RX12 RX12 504 yX12_product cX12_product 3 none (.code yX12_product cX12_product 3 none :: tb) (mRm fr lo) 0 0 0 := cwV 0 hts (gd_V wd_1882 wd_1884 sl_X12_product wd_15 wd_1885) rfl rfl rfl (by decide +kernel) ⟨h1, h2⟩
set_option maxHeartbeats 4000000 in
set_option maxRecDepth 100000 in
theorem co_sum (l : Launch) (fr lo F Lo : Nat) (r_part : mS → (mS → Prop) → Prop) (hr_part : ∀ (S : mS) (K : mS → Prop), r_part S K → mMv l yX12_part cX12_part 1 none fr lo (fun E => []) S K) (hF : fr + 2 ≤ F) (hL : lo + 42 ≤ Lo) (hF0 : 3 ≤ F) (hL0 : 67 ≤ Lo) (S : mS) (K : mS → Prop) (h : wp_sum r_part S K) : mMv l yX12_sum cX12_sum 3 none F Lo (fun E => []) S K := by
  refine mv_ofv (by decide) rfl (fun _ => Nat.le_of_ble_eq_true rfl) ?_
  intro E p e R s m args below meth c A ls Q hRf hRl hX hC hl hret
  have hx := hX.1.1
  have hb := hX.1.2.1
  have hown := hX.1.2.2.2.1
  have hts := hX.1.2.2.2.2
  have cut4 : ∀ (n4 : Nat) (S : mS) (H : Heap) (locs : List Loc) (ls : Array Slot), it (ls_sum_4 r_part K) n4 S → mC E A s.heap S H locs → lv_has ls 3 [(0, .ref E.2.1)] → W p l e R s m args below meth c H locs 0 0 Q (F0 m 4 ls []) := by
    intro n4
    induction n4 with
    | zero => intro S H locs ls h hC hl; exact h.elim
    | succ n4 ih4 =>
      have cut38 : ∀ (y0 : Int32) (S : mS) (H : Heap) (locs : List Loc) (ls : Array Slot), wp_sum_38 r_part K (it (ls_sum_4 r_part K) n4) y0 S → mC E A s.heap S H locs → lv_has ls 3 [(0, .ref E.2.1)] → W p l e R s m args below meth c H locs 0 0 Q (F0 m 38 ls [.int y0]) := by
        intro y0 S H locs ls h hC hl
        unfold wp_sum_38 at h
        refine lv_istore_n (lv' := [(1, .int y0), (0, .ref E.2.1)]) hx hb dX12_sum_38 rfl hl (by decide) rfl (fun ls hl => ?_)
        refine lv_aload_n hx hb dX12_sum_39 rfl (lv_at hl 1 rfl) ?_
        refine lv_dup hx hb dX12_sum_40 rfl ?_
        refine mv_get (v := .int (S.1 3)) hX hC 7 (Nat.le_of_ble_eq_true rfl) wd_1407 rfl dX12_sum_41 ?_
        refine lv_iconst (v := 1) hx hb dX12_sum_44 (by decide) ?_
        refine lq_iadd hx hb dX12_sum_45 h (fun z8 h => ?_)
        refine mq_put (v := z8) hX hC 7 3 (Nat.le_of_ble_eq_true rfl) wd_1407 rfl rfl rfl mz_3 dX12_sum_46 h (fun S9 H locs hC h => ?_)
        refine lv_aload_n hx hb dX12_sum_49 rfl (lv_at hl 1 rfl) ?_
        refine mv_callv [] (rest := []) hX hC (co_product l fr lo (max (fr + 1) 2) (max (lo + 20) 45) r_part hr_part (Nat.le_max_left _ _) (Nat.le_max_left _ _) (Nat.le_max_right _ _) (Nat.le_max_right _ _) S9 _ h E _) (cw_X12_product hts (by omega) (by omega)) rfl hl.1 (Nat.le_of_ble_eq_true rfl) ⟨Nat.zero_le _, Nat.zero_le _⟩ dX12_sum_50 (fun S10 H locs hC h => ?_)
        refine lv_aload_n hx hb dX12_sum_53 rfl (lv_at hl 1 rfl) ?_
        refine lv_iload_n hx hb dX12_sum_54 rfl (lv_at hl 0 rfl) ?_
        refine lv_iconst (v := 0) hx hb dX12_sum_55 (by decide) ?_
        refine lv_iconst (v := 0) hx hb dX12_sum_56 (by decide) ?_
        refine mv_calli [.int y0, .int 0, .int 0] (rest := []) hX hC (ct_emit l S10 y0 0 0 _ h E _) (cw_X12_emit hts (by omega) (by omega)) rfl hl.1 (Nat.le_of_ble_eq_true rfl) ⟨Nat.zero_le _, Nat.zero_le _⟩ dX12_sum_57 (fun r11 S11 H locs hC h => ?_)
        refine lv_istore_n (lv' := [(2, .int r11), (1, .int y0), (0, .ref E.2.1)]) hx hb dX12_sum_60 rfl hl (by decide) rfl (fun ls hl => ?_)
        refine lv_goto (tgt := 4) hx hb dX12_sum_61 (by decide) ?_
        exact ih4 S11 _ _ _ h hC (lv_sub hl [2] rfl)
      have cut22 : ∀ (S : mS) (H : Heap) (locs : List Loc) (ls : Array Slot), wp_sum_22 r_part K (it (ls_sum_4 r_part K) n4) S → mC E A s.heap S H locs → lv_has ls 3 [(0, .ref E.2.1)] → W p l e R s m args below meth c H locs 0 0 Q (F0 m 22 ls []) := by
        intro S H locs ls h hC hl
        unfold wp_sum_22 at h
        refine lv_aload_n hx hb dX12_sum_22 rfl (lv_at hl 0 rfl) ?_
        refine lv_bipush (v := 43) hx hb dX12_sum_23 (by decide) ?_
        refine mv_calli [.int 43] (rest := []) hX hC (ct_isSign l S 43 _ h E _) (cw_X12_isSign hts (by omega) (by omega)) rfl hl.1 (Nat.le_of_ble_eq_true rfl) ⟨Nat.zero_le _, Nat.zero_le _⟩ dX12_sum_25 (fun r6 S6 H locs hC h => ?_)
        refine lv_if_eq (tgt := 36) hx hb dX12_sum_28 (by decide) (fun c7 => ?_) (fun c7 => ?_)
        · have h := h.1 c7
          refine lv_bipush (v := 10) hx hb dX12_sum_36 (by decide) ?_
          exact cut38 10 S6 _ _ _ h hC (lv_sub hl [0] rfl)
        · have h := h.2 c7
          refine lv_bipush (v := 9) hx hb dX12_sum_31 (by decide) ?_
          refine lv_goto (tgt := 38) hx hb dX12_sum_33 (by decide) ?_
          exact cut38 9 S6 _ _ _ h hC (lv_sub hl [0] rfl)
      intro S H locs ls h hC hl
      have h : wp_sum_4 r_part K (it (ls_sum_4 r_part K) n4) S := h
      unfold wp_sum_4 at h
      refine lv_aload_n hx hb dX12_sum_4 rfl (lv_at hl 0 rfl) ?_
      refine lv_bipush (v := 43) hx hb dX12_sum_5 (by decide) ?_
      refine mv_calli [.int 43] (rest := []) hX hC (ct_isSign l S 43 _ h E _) (cw_X12_isSign hts (by omega) (by omega)) rfl hl.1 (Nat.le_of_ble_eq_true rfl) ⟨Nat.zero_le _, Nat.zero_le _⟩ dX12_sum_7 (fun r2 S2 H locs hC h => ?_)
      refine lv_if_ne (tgt := 22) hx hb dX12_sum_10 (by decide) (fun c3 => ?_) (fun c3 => ?_)
      · have h := h.1 c3
        exact cut22 S2 _ _ _ h hC (lv_sub hl [0] rfl)
      · have h := h.2 c3
        refine lv_aload_n hx hb dX12_sum_13 rfl (lv_at hl 0 rfl) ?_
        refine lv_bipush (v := 45) hx hb dX12_sum_14 (by decide) ?_
        refine mv_calli [.int 45] (rest := []) hX hC (ct_isSign l S2 45 _ h E _) (cw_X12_isSign hts (by omega) (by omega)) rfl hl.1 (Nat.le_of_ble_eq_true rfl) ⟨Nat.zero_le _, Nat.zero_le _⟩ dX12_sum_16 (fun r4 S4 H locs hC h => ?_)
        refine lv_if_eq (tgt := 64) hx hb dX12_sum_19 (by decide) (fun c5 => ?_) (fun c5 => ?_)
        · have h := h.1 c5
          exact hret _ _ _ _ _ hC h dX12_sum_64
        · have h := h.2 c5
          exact cut22 S4 _ _ _ h hC (lv_sub hl [0] rfl)
  have hl : lv_has ls 3 [(0, .ref E.2.1)] := hl
  unfold wp_sum at h
  refine lv_aload_n hx hb dX12_sum_0 rfl (lv_at hl 0 rfl) ?_
  refine mv_callv [] (rest := []) hX hC (co_product l fr lo (max (fr + 1) 2) (max (lo + 20) 45) r_part hr_part (Nat.le_max_left _ _) (Nat.le_max_left _ _) (Nat.le_max_right _ _) (Nat.le_max_right _ _) S _ h E _) (cw_X12_product hts (by omega) (by omega)) rfl hl.1 (Nat.le_of_ble_eq_true rfl) ⟨Nat.zero_le _, Nat.zero_le _⟩ dX12_sum_1 (fun S1 H locs hC h => ?_)
  obtain ⟨n9, h⟩ := h
  exact cut4 n9 S1 _ _ _ h hC (lv_sub hl [0] rfl)
def wp_expression_50 (r_part : mS → (mS → Prop) → Prop) (K : mS → Prop) (y1 : Int32) (S : mS) : Prop := wp_emit y1 0 0 S (fun (S10 : mS) (r10 : Int32) => K S10)
def wp_expression_24 (r_part : mS → (mS → Prop) → Prop) (K : mS → Prop) (x1 : Int32) (S : mS) : Prop := ∀ z6 : Int32, z6 = (S.1 3) + 1 → ∀ S7 : mS, S7 = sZ S 3 z6 → wp_sum r_part S7 (fun (S8 : mS) => ((x1 = 0 → wp_expression_50 r_part K 12 S8) ∧ (¬ x1 = 0 → wp_expression_50 r_part K 11 S8)))
def wp_expression (r_part : mS → (mS → Prop) → Prop) (S : mS) (K : mS → Prop) : Prop := wp_sum r_part S (fun (S1 : mS) => wp_isSign 60 S1 (fun (S2 : mS) (r2 : Int32) => ((¬ r2 = 0 → wp_expression_24 r_part K r2 S2) ∧ (r2 = 0 → wp_isSign 61 S2 (fun (S4 : mS) (r4 : Int32) => ((r4 = 0 → K S4) ∧ (¬ r4 = 0 → wp_expression_24 r_part K r2 S4)))))))
theorem cw_X12_sum {R : Room} {s : State} {args : Array Value} {fr lo : Nat} (hts : ∀ w ∈ tb, w.before args s = true) (h1 : fr + 1 ≤ R.frames) (h2 : 8 + (3 + 11) + lo ≤ R.locals) : CallW R s args RX12 RX12 501 yX12_sum cX12_sum 3 none (.code yX12_sum cX12_sum 3 none :: tb) (mRm fr lo) 0 0 0 := cwV 0 hts (gd_V wd_1878 wd_1880 sl_X12_sum wd_15 wd_1881) rfl rfl rfl (by decide +kernel) ⟨h1, h2⟩
set_option maxHeartbeats 4000000 in
set_option maxRecDepth 100000 in
theorem co_expression (l : Launch) (fr lo F Lo : Nat) (r_part : mS → (mS → Prop) → Prop) (hr_part : ∀ (S : mS) (K : mS → Prop), r_part S K → mMv l yX12_part cX12_part 1 none fr lo (fun E => []) S K) (hF : fr + 3 ≤ F) (hL : lo + 64 ≤ Lo) (hF0 : 4 ≤ F) (hL0 : 89 ≤ Lo) (S : mS) (K : mS → Prop) (h : wp_expression r_part S K) : mMv l yX12_expression cX12_expression 3 none F Lo (fun E => []) S K := by
  refine mv_ofv (by decide) rfl (fun _ => Nat.le_of_ble_eq_true rfl) ?_
  intro E p e R s m args below meth c A ls Q hRf hRl hX hC hl hret
  have hx := hX.1.1
  have hb := hX.1.2.1
  have hown := hX.1.2.2.2.1
  have hts := hX.1.2.2.2.2
  have cut50 : ∀ (y1 : Int32) (S : mS) (H : Heap) (locs : List Loc) (ls : Array Slot), wp_expression_50 r_part K y1 S → mC E A s.heap S H locs → lv_has ls 3 [(0, .ref E.2.1)] → W p l e R s m args below meth c H locs 0 0 Q (F0 m 50 ls [.int y1, .ref E.2.1]) := by
    intro y1 S H locs ls h hC hl
    unfold wp_expression_50 at h
    refine lv_iconst (v := 0) hx hb dX12_expression_50 (by decide) ?_
    refine lv_iconst (v := 0) hx hb dX12_expression_51 (by decide) ?_
    refine mv_calli [.int y1, .int 0, .int 0] (rest := []) hX hC (ct_emit l S y1 0 0 _ h E _) (cw_X12_emit hts (by omega) (by omega)) rfl hl.1 (Nat.le_of_ble_eq_true rfl) ⟨Nat.zero_le _, Nat.zero_le _⟩ dX12_expression_52 (fun r10 S10 H locs hC h => ?_)
    refine lv_istore_n (lv' := [(2, .int r10), (0, .ref E.2.1)]) hx hb dX12_expression_55 rfl hl (by decide) rfl (fun ls hl => ?_)
    exact hret _ _ _ _ _ hC h dX12_expression_56
  have cut24 : ∀ (x1 : Int32) (S : mS) (H : Heap) (locs : List Loc) (ls : Array Slot), wp_expression_24 r_part K x1 S → mC E A s.heap S H locs → lv_has ls 3 [(0, .ref E.2.1), (1, .int x1)] → W p l e R s m args below meth c H locs 0 0 Q (F0 m 24 ls []) := by
    intro x1 S H locs ls h hC hl
    unfold wp_expression_24 at h
    refine lv_aload_n hx hb dX12_expression_24 rfl (lv_at hl 0 rfl) ?_
    refine lv_dup hx hb dX12_expression_25 rfl ?_
    refine mv_get (v := .int (S.1 3)) hX hC 7 (Nat.le_of_ble_eq_true rfl) wd_1407 rfl dX12_expression_26 ?_
    refine lv_iconst (v := 1) hx hb dX12_expression_29 (by decide) ?_
    refine lq_iadd hx hb dX12_expression_30 h (fun z6 h => ?_)
    refine mq_put (v := z6) hX hC 7 3 (Nat.le_of_ble_eq_true rfl) wd_1407 rfl rfl rfl mz_3 dX12_expression_31 h (fun S7 H locs hC h => ?_)
    refine lv_aload_n hx hb dX12_expression_34 rfl (lv_at hl 0 rfl) ?_
    refine mv_callv [] (rest := []) hX hC (co_sum l fr lo (max (fr + 2) 3) (max (lo + 42) 67) r_part hr_part (Nat.le_max_left _ _) (Nat.le_max_left _ _) (Nat.le_max_right _ _) (Nat.le_max_right _ _) S7 _ h E _) (cw_X12_sum hts (by omega) (by omega)) rfl hl.1 (Nat.le_of_ble_eq_true rfl) ⟨Nat.zero_le _, Nat.zero_le _⟩ dX12_expression_35 (fun S8 H locs hC h => ?_)
    refine lv_aload_n hx hb dX12_expression_38 rfl (lv_at hl 0 rfl) ?_
    refine lv_iload_n hx hb dX12_expression_39 rfl (lv_at hl 1 rfl) ?_
    refine lv_if_eq (tgt := 48) hx hb dX12_expression_40 (by decide) (fun c9 => ?_) (fun c9 => ?_)
    · have h := h.1 c9
      refine lv_bipush (v := 12) hx hb dX12_expression_48 (by decide) ?_
      exact cut50 12 S8 _ _ _ h hC (lv_sub hl [0] rfl)
    · have h := h.2 c9
      refine lv_bipush (v := 11) hx hb dX12_expression_43 (by decide) ?_
      refine lv_goto (tgt := 50) hx hb dX12_expression_45 (by decide) ?_
      exact cut50 11 S8 _ _ _ h hC (lv_sub hl [0] rfl)
  have hl : lv_has ls 3 [(0, .ref E.2.1)] := hl
  unfold wp_expression at h
  refine lv_aload_n hx hb dX12_expression_0 rfl (lv_at hl 0 rfl) ?_
  refine mv_callv [] (rest := []) hX hC (co_sum l fr lo (max (fr + 2) 3) (max (lo + 42) 67) r_part hr_part (Nat.le_max_left _ _) (Nat.le_max_left _ _) (Nat.le_max_right _ _) (Nat.le_max_right _ _) S _ h E _) (cw_X12_sum hts (by omega) (by omega)) rfl hl.1 (Nat.le_of_ble_eq_true rfl) ⟨Nat.zero_le _, Nat.zero_le _⟩ dX12_expression_1 (fun S1 H locs hC h => ?_)
  refine lv_aload_n hx hb dX12_expression_4 rfl (lv_at hl 0 rfl) ?_
  refine lv_bipush (v := 60) hx hb dX12_expression_5 (by decide) ?_
  refine mv_calli [.int 60] (rest := []) hX hC (ct_isSign l S1 60 _ h E _) (cw_X12_isSign hts (by omega) (by omega)) rfl hl.1 (Nat.le_of_ble_eq_true rfl) ⟨Nat.zero_le _, Nat.zero_le _⟩ dX12_expression_7 (fun r2 S2 H locs hC h => ?_)
  refine lv_istore_n (lv' := [(1, .int r2), (0, .ref E.2.1)]) hx hb dX12_expression_10 rfl hl (by decide) rfl (fun ls hl => ?_)
  refine lv_iload_n hx hb dX12_expression_11 rfl (lv_at hl 0 rfl) ?_
  refine lv_if_ne (tgt := 24) hx hb dX12_expression_12 (by decide) (fun c3 => ?_) (fun c3 => ?_)
  · have h := h.1 c3
    exact cut24 r2 S2 _ _ _ h hC (lv_sub hl [1, 0] rfl)
  · have h := h.2 c3
    refine lv_aload_n hx hb dX12_expression_15 rfl (lv_at hl 1 rfl) ?_
    refine lv_bipush (v := 61) hx hb dX12_expression_16 (by decide) ?_
    refine mv_calli [.int 61] (rest := []) hX hC (ct_isSign l S2 61 _ h E _) (cw_X12_isSign hts (by omega) (by omega)) rfl hl.1 (Nat.le_of_ble_eq_true rfl) ⟨Nat.zero_le _, Nat.zero_le _⟩ dX12_expression_18 (fun r4 S4 H locs hC h => ?_)
    refine lv_if_eq (tgt := 56) hx hb dX12_expression_21 (by decide) (fun c5 => ?_) (fun c5 => ?_)
    · have h := h.1 c5
      exact hret _ _ _ _ _ hC h dX12_expression_56
    · have h := h.2 c5
      exact cut24 r2 S4 _ _ _ h hC (lv_sub hl [1, 0] rfl)
def wp_partWithin (r_part : mS → (mS → Prop) → Prop) (S : mS) (K : mS → Prop) : Prop := wp_emit 1 0 0 S (fun (S1 : mS) (r1 : Int32) => inR (S1.1 3) 4002 ∧ ∀ z2 : Int32, z2 = S1.2.1 1 (ix (S1.1 3)) → ((¬ z2 = 2 → wp_hasSign 40 S1 (fun (S4 : mS) (r4 : Int32) => ((r4 = 0 → wp_hasSign 45 S4 (fun (S6 : mS) (r6 : Int32) => ((r6 = 0 → wp_hasWord 20 S6 (fun (S8 : mS) (r8 : Int32) => ((r8 = 0 → wp_takeCell S8 (fun (S10 : mS) (r10 : Int32) => wp_emit 3 r10 0 S10 (fun (S11 : mS) (r11 : Int32) => wp_then 1 r10 S11 (fun (S12 : mS) (r12 : Int32) => K S12)))) ∧ (¬ r8 = 0 → wp_emit 4 0 0 S8 (fun (S13 : mS) (r13 : Int32) => K S13))))) ∧ (¬ r6 = 0 → r_part S6 (fun (S14 : mS) => wp_emit 5 0 0 S14 (fun (S15 : mS) (r15 : Int32) => K S15)))))) ∧ (¬ r4 = 0 → wp_expression r_part S4 (fun (S16 : mS) => wp_takeSign 41 S16 (fun (S17 : mS) => K S17)))))) ∧ (z2 = 2 → inR (S1.1 3) 4002 ∧ ∀ z18 : Int64, z18 = S1.2.2 3 (ix (S1.1 3)) → ∀ z19 : Int32, z19 = Int64.toInt32 z18 → wp_emit 2 z19 0 S1 (fun (S20 : mS) (r20 : Int32) => ∀ z21 : Int32, z21 = (S20.1 3) + 1 → ∀ S22 : mS, S22 = sZ S20 3 z21 → K S22))))
theorem cw_X12_hasSign {R : Room} {s : State} {args : Array Value} {fr lo : Nat} (hts : ∀ w ∈ tb, w.before args s = true) (h1 : fr + 1 ≤ R.frames) (h2 : 8 + (3 + 11) + lo ≤ R.locals) : CallW R s args RX12 RX12 400 yX12_hasSign cX12_hasSign 3 (some .boolean) (.code yX12_hasSign cX12_hasSign 3 (some .boolean) :: tb) (mRm fr lo) 0 0 1 := cwV 1 hts (gd_V wd_1834 wd_1836 sl_X12_hasSign wd_15 wd_1837) rfl rfl rfl (by decide +kernel) ⟨h1, h2⟩
theorem cw_X12_hasWord {R : Room} {s : State} {args : Array Value} {fr lo : Nat} (hts : ∀ w ∈ tb, w.before args s = true) (h1 : fr + 1 ≤ R.frames) (h2 : 8 + (3 + 11) + lo ≤ R.locals) : CallW R s args RX12 RX12 350 yX12_hasWord cX12_hasWord 3 (some .boolean) (.code yX12_hasWord cX12_hasWord 3 (some .boolean) :: tb) (mRm fr lo) 0 0 1 := cwV 1 hts (gd_V wd_1854 wd_1856 sl_X12_hasWord wd_15 wd_1857) rfl rfl rfl (by decide +kernel) ⟨h1, h2⟩
theorem cw_X12_takeCell {R : Room} {s : State} {args : Array Value} {fr lo : Nat} (hts : ∀ w ∈ tb, w.before args s = true) (h1 : fr + 1 ≤ R.frames) (h2 : 8 + (2 + 11) + lo ≤ R.locals) : CallW R s args RX12 RX12 470 yX12_takeCell cX12_takeCell 2 (some .int) (.code yX12_takeCell cX12_takeCell 2 (some .int) :: tb) (mRm fr lo) 0 0 0 := cwV 0 hts (gd_V wd_1894 wd_1896 sl_X12_takeCell wd_15 wd_1897) rfl rfl rfl (by decide +kernel) ⟨h1, h2⟩
theorem cw_X12_expression {R : Room} {s : State} {args : Array Value} {fr lo : Nat} (hts : ∀ w ∈ tb, w.before args s = true) (h1 : fr + 1 ≤ R.frames) (h2 : 8 + (3 + 11) + lo ≤ R.locals) : CallW R s args RX12 RX12 457 yX12_expression cX12_expression 3 none (.code yX12_expression cX12_expression 3 none :: tb) (mRm fr lo) 0 0 0 := cwV 0 hts (gd_V wd_1874 wd_1876 sl_X12_expression wd_15 wd_1877) rfl rfl rfl (by decide +kernel) ⟨h1, h2⟩
theorem cw_X12_takeSign {R : Room} {s : State} {args : Array Value} {fr lo : Nat} (hts : ∀ w ∈ tb, w.before args s = true) (h1 : fr + 1 ≤ R.frames) (h2 : 8 + (2 + 11) + lo ≤ R.locals) : CallW R s args RX12 RX12 394 yX12_takeSign cX12_takeSign 2 none (.code yX12_takeSign cX12_takeSign 2 none :: tb) (mRm fr lo) 0 0 1 := cwV 1 hts (gd_V wd_1822 wd_1824 sl_X12_takeSign wd_15 wd_1825) rfl rfl rfl (by decide +kernel) ⟨h1, h2⟩
set_option maxHeartbeats 4000000 in
set_option maxRecDepth 100000 in
theorem co_partWithin (l : Launch) (fr lo F Lo : Nat) (r_part : mS → (mS → Prop) → Prop) (hr_part : ∀ (S : mS) (K : mS → Prop), r_part S K → mMv l yX12_part cX12_part 1 none fr lo (fun E => []) S K) (hF : fr + 4 ≤ F) (hL : lo + 86 ≤ Lo) (hF0 : 5 ≤ F) (hL0 : 111 ≤ Lo) (S : mS) (K : mS → Prop) (h : wp_partWithin r_part S K) : mMv l yX12_partWithin cX12_partWithin 3 none F Lo (fun E => []) S K := by
  refine mv_ofv (by decide) rfl (fun _ => Nat.le_of_ble_eq_true rfl) ?_
  intro E p e R s m args below meth c A ls Q hRf hRl hX hC hl hret
  have hx := hX.1.1
  have hb := hX.1.2.1
  have hown := hX.1.2.2.2.1
  have hts := hX.1.2.2.2.2
  have hl : lv_has ls 3 [(0, .ref E.2.1)] := hl
  unfold wp_partWithin at h
  refine lv_aload_n hx hb dX12_partWithin_0 rfl (lv_at hl 0 rfl) ?_
  refine lv_iconst (v := 1) hx hb dX12_partWithin_1 (by decide) ?_
  refine lv_iconst (v := 0) hx hb dX12_partWithin_2 (by decide) ?_
  refine lv_iconst (v := 0) hx hb dX12_partWithin_3 (by decide) ?_
  refine mv_calli [.int 1, .int 0, .int 0] (rest := []) hX hC (ct_emit l S 1 0 0 _ h E _) (cw_X12_emit hts (by omega) (by omega)) rfl hl.1 (Nat.le_of_ble_eq_true rfl) ⟨Nat.zero_le _, Nat.zero_le _⟩ dX12_partWithin_4 (fun r1 S1 H locs hC h => ?_)
  refine lv_istore_n (lv' := [(1, .int r1), (0, .ref E.2.1)]) hx hb dX12_partWithin_7 rfl hl (by decide) rfl (fun ls hl => ?_)
  refine lv_aload_n hx hb dX12_partWithin_8 rfl (lv_at hl 1 rfl) ?_
  refine mv_get (v := .ref (E.2.2.1 1)) hX hC 4 (Nat.le_of_ble_eq_true rfl) wd_1404 rfl dX12_partWithin_9 ?_
  refine lv_aload_n hx hb dX12_partWithin_12 rfl (lv_at hl 1 rfl) ?_
  refine mv_get (v := .int (S1.1 3)) hX hC 7 (Nat.le_of_ble_eq_true rfl) wd_1407 rfl dX12_partWithin_13 ?_
  refine mq_ild (n := 4002) hX hC 1 rfl rfl dX12_partWithin_16 h (fun z2 h => ?_)
  refine lv_iconst (v := 2) hx hb dX12_partWithin_17 (by decide) ?_
  refine lv_icmp_ne (tgt := 51) hx hb dX12_partWithin_18 (by decide) (fun c3 => ?_) (fun c3 => ?_)
  · have h := h.1 c3
    refine lv_aload_n hx hb dX12_partWithin_51 rfl (lv_at hl 1 rfl) ?_
    refine lv_bipush (v := 40) hx hb dX12_partWithin_52 (by decide) ?_
    refine mv_calli [.int 40] (rest := []) hX hC (ct_hasSign l S1 40 _ h E _) (cw_X12_hasSign hts (by omega) (by omega)) rfl hl.1 (Nat.le_of_ble_eq_true rfl) ⟨Nat.zero_le _, Nat.zero_le _⟩ dX12_partWithin_54 (fun r4 S4 H locs hC h => ?_)
    refine lv_if_eq (tgt := 73) hx hb dX12_partWithin_57 (by decide) (fun c5 => ?_) (fun c5 => ?_)
    · have h := h.1 c5
      refine lv_aload_n hx hb dX12_partWithin_73 rfl (lv_at hl 1 rfl) ?_
      refine lv_bipush (v := 45) hx hb dX12_partWithin_74 (by decide) ?_
      refine mv_calli [.int 45] (rest := []) hX hC (ct_hasSign l S4 45 _ h E _) (cw_X12_hasSign hts (by omega) (by omega)) rfl hl.1 (Nat.le_of_ble_eq_true rfl) ⟨Nat.zero_le _, Nat.zero_le _⟩ dX12_partWithin_76 (fun r6 S6 H locs hC h => ?_)
      refine lv_if_eq (tgt := 97) hx hb dX12_partWithin_79 (by decide) (fun c7 => ?_) (fun c7 => ?_)
      · have h := h.1 c7
        refine lv_aload_n hx hb dX12_partWithin_97 rfl (lv_at hl 1 rfl) ?_
        refine lv_bipush (v := 20) hx hb dX12_partWithin_98 (by decide) ?_
        refine mv_calli [.int 20] (rest := []) hX hC (ct_hasWord l S6 20 _ h E _) (cw_X12_hasWord hts (by omega) (by omega)) rfl hl.1 (Nat.le_of_ble_eq_true rfl) ⟨Nat.zero_le _, Nat.zero_le _⟩ dX12_partWithin_100 (fun r8 S8 H locs hC h => ?_)
        refine lv_if_eq (tgt := 117) hx hb dX12_partWithin_103 (by decide) (fun c9 => ?_) (fun c9 => ?_)
        · have h := h.1 c9
          refine lv_aload_n hx hb dX12_partWithin_117 rfl (lv_at hl 1 rfl) ?_
          refine mv_calli [] (rest := []) hX hC (ct_takeCell l S8 _ h E _) (cw_X12_takeCell hts (by omega) (by omega)) rfl hl.1 (Nat.le_of_ble_eq_true rfl) ⟨Nat.zero_le _, Nat.zero_le _⟩ dX12_partWithin_118 (fun r10 S10 H locs hC h => ?_)
          refine lv_istore_n (lv' := [(2, .int r10), (1, .int r1), (0, .ref E.2.1)]) hx hb dX12_partWithin_121 rfl hl (by decide) rfl (fun ls hl => ?_)
          refine lv_aload_n hx hb dX12_partWithin_122 rfl (lv_at hl 2 rfl) ?_
          refine lv_iconst (v := 3) hx hb dX12_partWithin_123 (by decide) ?_
          refine lv_iload_n hx hb dX12_partWithin_124 rfl (lv_at hl 0 rfl) ?_
          refine lv_iconst (v := 0) hx hb dX12_partWithin_125 (by decide) ?_
          refine mv_calli [.int 3, .int r10, .int 0] (rest := []) hX hC (ct_emit l S10 3 r10 0 _ h E _) (cw_X12_emit hts (by omega) (by omega)) rfl hl.1 (Nat.le_of_ble_eq_true rfl) ⟨Nat.zero_le _, Nat.zero_le _⟩ dX12_partWithin_126 (fun r11 S11 H locs hC h => ?_)
          refine lv_istore_n (lv' := [(1, .int r11), (2, .int r10), (0, .ref E.2.1)]) hx hb dX12_partWithin_129 rfl hl (by decide) rfl (fun ls hl => ?_)
          refine lv_aload_n hx hb dX12_partWithin_130 rfl (lv_at hl 2 rfl) ?_
          refine lv_iconst (v := 1) hx hb dX12_partWithin_131 (by decide) ?_
          refine lv_iload_n hx hb dX12_partWithin_132 rfl (lv_at hl 1 rfl) ?_
          refine mv_calli [.int 1, .int r10] (rest := []) hX hC (ct_then l S11 1 r10 _ h E _) (cw_X12_then hts (by omega) (by omega)) rfl hl.1 (Nat.le_of_ble_eq_true rfl) ⟨Nat.zero_le _, Nat.zero_le _⟩ dX12_partWithin_133 (fun r12 S12 H locs hC h => ?_)
          refine lv_istore_n (lv' := [(1, .int r12), (2, .int r10), (0, .ref E.2.1)]) hx hb dX12_partWithin_136 rfl hl (by decide) rfl (fun ls hl => ?_)
          exact hret _ _ _ _ _ hC h dX12_partWithin_137
        · have h := h.2 c9
          refine lv_aload_n hx hb dX12_partWithin_106 rfl (lv_at hl 1 rfl) ?_
          refine lv_iconst (v := 4) hx hb dX12_partWithin_107 (by decide) ?_
          refine lv_iconst (v := 0) hx hb dX12_partWithin_108 (by decide) ?_
          refine lv_iconst (v := 0) hx hb dX12_partWithin_109 (by decide) ?_
          refine mv_calli [.int 4, .int 0, .int 0] (rest := []) hX hC (ct_emit l S8 4 0 0 _ h E _) (cw_X12_emit hts (by omega) (by omega)) rfl hl.1 (Nat.le_of_ble_eq_true rfl) ⟨Nat.zero_le _, Nat.zero_le _⟩ dX12_partWithin_110 (fun r13 S13 H locs hC h => ?_)
          refine lv_istore_n (lv' := [(1, .int r13), (0, .ref E.2.1)]) hx hb dX12_partWithin_113 rfl hl (by decide) rfl (fun ls hl => ?_)
          refine lv_goto (tgt := 137) hx hb dX12_partWithin_114 (by decide) ?_
          exact hret _ _ _ _ _ hC h dX12_partWithin_137
      · have h := h.2 c7
        refine lv_aload_n hx hb dX12_partWithin_82 rfl (lv_at hl 1 rfl) ?_
        refine mv_callv [] (rest := []) hX hC (hr_part S6 _ h E _) (cw_X12_part hts (by omega) (by omega)) rfl hl.1 (Nat.le_of_ble_eq_true rfl) ⟨Nat.zero_le _, Nat.zero_le _⟩ dX12_partWithin_83 (fun S14 H locs hC h => ?_)
        refine lv_aload_n hx hb dX12_partWithin_86 rfl (lv_at hl 1 rfl) ?_
        refine lv_iconst (v := 5) hx hb dX12_partWithin_87 (by decide) ?_
        refine lv_iconst (v := 0) hx hb dX12_partWithin_88 (by decide) ?_
        refine lv_iconst (v := 0) hx hb dX12_partWithin_89 (by decide) ?_
        refine mv_calli [.int 5, .int 0, .int 0] (rest := []) hX hC (ct_emit l S14 5 0 0 _ h E _) (cw_X12_emit hts (by omega) (by omega)) rfl hl.1 (Nat.le_of_ble_eq_true rfl) ⟨Nat.zero_le _, Nat.zero_le _⟩ dX12_partWithin_90 (fun r15 S15 H locs hC h => ?_)
        refine lv_istore_n (lv' := [(1, .int r15), (0, .ref E.2.1)]) hx hb dX12_partWithin_93 rfl hl (by decide) rfl (fun ls hl => ?_)
        refine lv_goto (tgt := 137) hx hb dX12_partWithin_94 (by decide) ?_
        exact hret _ _ _ _ _ hC h dX12_partWithin_137
    · have h := h.2 c5
      refine lv_aload_n hx hb dX12_partWithin_60 rfl (lv_at hl 1 rfl) ?_
      refine mv_callv [] (rest := []) hX hC (co_expression l fr lo (max (fr + 3) 4) (max (lo + 64) 89) r_part hr_part (Nat.le_max_left _ _) (Nat.le_max_left _ _) (Nat.le_max_right _ _) (Nat.le_max_right _ _) S4 _ h E _) (cw_X12_expression hts (by omega) (by omega)) rfl hl.1 (Nat.le_of_ble_eq_true rfl) ⟨Nat.zero_le _, Nat.zero_le _⟩ dX12_partWithin_61 (fun S16 H locs hC h => ?_)
      refine lv_aload_n hx hb dX12_partWithin_64 rfl (lv_at hl 1 rfl) ?_
      refine lv_bipush (v := 41) hx hb dX12_partWithin_65 (by decide) ?_
      refine mv_callv [.int 41] (rest := []) hX hC (ct_takeSign l S16 41 _ h E _) (cw_X12_takeSign hts (by omega) (by omega)) rfl hl.1 (Nat.le_of_ble_eq_true rfl) ⟨Nat.zero_le _, Nat.zero_le _⟩ dX12_partWithin_67 (fun S17 H locs hC h => ?_)
      refine lv_goto (tgt := 137) hx hb dX12_partWithin_70 (by decide) ?_
      exact hret _ _ _ _ _ hC h dX12_partWithin_137
  · have h := h.2 c3
    refine lv_aload_n hx hb dX12_partWithin_21 rfl (lv_at hl 1 rfl) ?_
    refine lv_iconst (v := 2) hx hb dX12_partWithin_22 (by decide) ?_
    refine lv_aload_n hx hb dX12_partWithin_23 rfl (lv_at hl 1 rfl) ?_
    refine mv_get (v := .ref (E.2.2.1 3)) hX hC 6 (Nat.le_of_ble_eq_true rfl) wd_1406 rfl dX12_partWithin_24 ?_
    refine lv_aload_n hx hb dX12_partWithin_27 rfl (lv_at hl 1 rfl) ?_
    refine mv_get (v := .int (S1.1 3)) hX hC 7 (Nat.le_of_ble_eq_true rfl) wd_1407 rfl dX12_partWithin_28 ?_
    refine mq_lld (n := 4002) hX hC 3 rfl rfl dX12_partWithin_31 h (fun z18 h => ?_)
    refine lq_l2i hx hb dX12_partWithin_32 h (fun z19 h => ?_)
    refine lv_iconst (v := 0) hx hb dX12_partWithin_33 (by decide) ?_
    refine mv_calli [.int 2, .int z19, .int 0] (rest := []) hX hC (ct_emit l S1 2 z19 0 _ h E _) (cw_X12_emit hts (by omega) (by omega)) rfl hl.1 (Nat.le_of_ble_eq_true rfl) ⟨Nat.zero_le _, Nat.zero_le _⟩ dX12_partWithin_34 (fun r20 S20 H locs hC h => ?_)
    refine lv_istore_n (lv' := [(1, .int r20), (0, .ref E.2.1)]) hx hb dX12_partWithin_37 rfl hl (by decide) rfl (fun ls hl => ?_)
    refine lv_aload_n hx hb dX12_partWithin_38 rfl (lv_at hl 1 rfl) ?_
    refine lv_dup hx hb dX12_partWithin_39 rfl ?_
    refine mv_get (v := .int (S20.1 3)) hX hC 7 (Nat.le_of_ble_eq_true rfl) wd_1407 rfl dX12_partWithin_40 ?_
    refine lv_iconst (v := 1) hx hb dX12_partWithin_43 (by decide) ?_
    refine lq_iadd hx hb dX12_partWithin_44 h (fun z21 h => ?_)
    refine mq_put (v := z21) hX hC 7 3 (Nat.le_of_ble_eq_true rfl) wd_1407 rfl rfl rfl mz_3 dX12_partWithin_45 h (fun S22 H locs hC h => ?_)
    refine lv_goto (tgt := 137) hx hb dX12_partWithin_48 (by decide) ?_
    exact hret _ _ _ _ _ hC h dX12_partWithin_137
def wp_part_74 (r_part : mS → (mS → Prop) → Prop) (K : mS → Prop) (S : mS) : Prop := ∀ z15 : Int32, z15 = (S.1 18) - 1 → ∀ S16 : mS, S16 = sZ S 18 z15 → K S16
def wp_part_60 (r_part : mS → (mS → Prop) → Prop) (K : mS → Prop) (y1 : Int32) (S : mS) : Prop := wp_within y1 S (fun (S12 : mS) => ((¬ (S12.1 4) = 0 → wp_part_74 r_part K S12) ∧ ((S12.1 4) = 0 → wp_partWithin r_part S12 (fun (S14 : mS) => wp_part_74 r_part K S14))))
def wp_part_59 (r_part : mS → (mS → Prop) → Prop) (K : mS → Prop) (S : mS) : Prop := wp_part_60 r_part K 0 S
def wp_part_55 (r_part : mS → (mS → Prop) → Prop) (K : mS → Prop) (S : mS) : Prop := wp_part_60 r_part K 1 S
def wp_part (r_part : mS → (mS → Prop) → Prop) (S : mS) (K : mS → Prop) : Prop := ((¬ (S.1 4) = 0 → wp_part_59 r_part K S) ∧ ((S.1 4) = 0 → inR (S.1 3) 4002 ∧ ∀ z2 : Int32, z2 = S.2.1 1 (ix (S.1 3)) → ((z2 = 2 → wp_part_55 r_part K S) ∧ (¬ z2 = 2 → wp_isSign 40 S (fun (S4 : mS) (r4 : Int32) => ((¬ r4 = 0 → wp_part_55 r_part K S4) ∧ (r4 = 0 → wp_isSign 45 S4 (fun (S6 : mS) (r6 : Int32) => ((¬ r6 = 0 → wp_part_55 r_part K S6) ∧ (r6 = 0 → wp_isWord 20 S6 (fun (S8 : mS) (r8 : Int32) => ((¬ r8 = 0 → wp_part_55 r_part K S8) ∧ (r8 = 0 → wp_isName S8 (fun (S10 : mS) (r10 : Int32) => ((r10 = 0 → wp_part_59 r_part K S10) ∧ (¬ r10 = 0 → wp_part_55 r_part K S10))))))))))))))))
theorem cw_X12_within {R : Room} {s : State} {args : Array Value} {fr lo : Nat} (hts : ∀ w ∈ tb, w.before args s = true) (h1 : fr + 1 ≤ R.frames) (h2 : 8 + (2 + 11) + lo ≤ R.locals) : CallW R s args RX12 RX12 438 yX12_within cX12_within 2 none (.code yX12_within cX12_within 2 none :: tb) (mRm fr lo) 0 0 1 := cwV 1 hts (gd_V wd_1846 wd_1848 sl_X12_within wd_15 wd_1849) rfl rfl rfl (by decide +kernel) ⟨h1, h2⟩
theorem cw_X12_partWithin {R : Room} {s : State} {args : Array Value} {fr lo : Nat} (hts : ∀ w ∈ tb, w.before args s = true) (h1 : fr + 1 ≤ R.frames) (h2 : 8 + (3 + 11) + lo ≤ R.locals) : CallW R s args RX12 RX12 510 yX12_partWithin cX12_partWithin 3 none (.code yX12_partWithin cX12_partWithin 3 none :: tb) (mRm fr lo) 0 0 0 := cwV 0 hts (gd_V wd_1890 wd_1892 sl_X12_partWithin wd_15 wd_1893) rfl rfl rfl (by decide +kernel) ⟨h1, h2⟩
set_option maxHeartbeats 4000000 in
set_option maxRecDepth 100000 in
theorem co_part (l : Launch) (fr lo F Lo : Nat) (r_part : mS → (mS → Prop) → Prop) (hr_part : ∀ (S : mS) (K : mS → Prop), r_part S K → mMv l yX12_part cX12_part 1 none fr lo (fun E => []) S K) (hF : fr + 5 ≤ F) (hL : lo + 108 ≤ Lo) (hF0 : 6 ≤ F) (hL0 : 133 ≤ Lo) (S : mS) (K : mS → Prop) (h : wp_part r_part S K) : mMv l yX12_part cX12_part 1 none F Lo (fun E => []) S K := by
  refine mv_ofv (by decide) rfl (fun _ => Nat.le_of_ble_eq_true rfl) ?_
  intro E p e R s m args below meth c A ls Q hRf hRl hX hC hl hret
  have hx := hX.1.1
  have hb := hX.1.2.1
  have hown := hX.1.2.2.2.1
  have hts := hX.1.2.2.2.2
  have cut74 : ∀ (S : mS) (H : Heap) (locs : List Loc) (ls : Array Slot), wp_part_74 r_part K S → mC E A s.heap S H locs → lv_has ls 1 [(0, .ref E.2.1)] → W p l e R s m args below meth c H locs 0 0 Q (F0 m 74 ls []) := by
    intro S H locs ls h hC hl
    unfold wp_part_74 at h
    refine lv_aload_n hx hb dX12_part_74 rfl (lv_at hl 0 rfl) ?_
    refine lv_dup hx hb dX12_part_75 rfl ?_
    refine mv_get (v := .int (S.1 18)) hX hC 68 (Nat.le_of_ble_eq_true rfl) wd_1468 rfl dX12_part_76 ?_
    refine lv_iconst (v := 1) hx hb dX12_part_79 (by decide) ?_
    refine lq_isub hx hb dX12_part_80 h (fun z15 h => ?_)
    refine mq_put (v := z15) hX hC 68 18 (Nat.le_of_ble_eq_true rfl) wd_1468 rfl rfl rfl mz_18 dX12_part_81 h (fun S16 H locs hC h => ?_)
    exact hret _ _ _ _ _ hC h dX12_part_84
  have cut60 : ∀ (y1 : Int32) (S : mS) (H : Heap) (locs : List Loc) (ls : Array Slot), wp_part_60 r_part K y1 S → mC E A s.heap S H locs → lv_has ls 1 [(0, .ref E.2.1)] → W p l e R s m args below meth c H locs 0 0 Q (F0 m 60 ls [.int y1, .ref E.2.1]) := by
    intro y1 S H locs ls h hC hl
    unfold wp_part_60 at h
    refine mv_callv [.int y1] (rest := []) hX hC (ct_within l S y1 _ h E _) (cw_X12_within hts (by omega) (by omega)) rfl hl.1 (Nat.le_of_ble_eq_true rfl) ⟨Nat.zero_le _, Nat.zero_le _⟩ dX12_part_60 (fun S12 H locs hC h => ?_)
    refine lv_aload_n hx hb dX12_part_63 rfl (lv_at hl 0 rfl) ?_
    refine mv_get (v := .int (S12.1 4)) hX hC 8 (Nat.le_of_ble_eq_true rfl) wd_1408 rfl dX12_part_64 ?_
    refine lv_if_ne (tgt := 74) hx hb dX12_part_67 (by decide) (fun c13 => ?_) (fun c13 => ?_)
    · have h := h.1 c13
      exact cut74 S12 _ _ _ h hC (lv_sub hl [0] rfl)
    · have h := h.2 c13
      refine lv_aload_n hx hb dX12_part_70 rfl (lv_at hl 0 rfl) ?_
      refine mv_callv [] (rest := []) hX hC (co_partWithin l fr lo (max (fr + 4) 5) (max (lo + 86) 111) r_part hr_part (Nat.le_max_left _ _) (Nat.le_max_left _ _) (Nat.le_max_right _ _) (Nat.le_max_right _ _) S12 _ h E _) (cw_X12_partWithin hts (by omega) (by omega)) rfl hl.1 (Nat.le_of_ble_eq_true rfl) ⟨Nat.zero_le _, Nat.zero_le _⟩ dX12_part_71 (fun S14 H locs hC h => ?_)
      exact cut74 S14 _ _ _ h hC (lv_sub hl [0] rfl)
  have cut59 : ∀ (S : mS) (H : Heap) (locs : List Loc) (ls : Array Slot), wp_part_59 r_part K S → mC E A s.heap S H locs → lv_has ls 1 [(0, .ref E.2.1)] → W p l e R s m args below meth c H locs 0 0 Q (F0 m 59 ls [.ref E.2.1]) := by
    intro S H locs ls h hC hl
    unfold wp_part_59 at h
    refine lv_iconst (v := 0) hx hb dX12_part_59 (by decide) ?_
    exact cut60 0 S _ _ _ h hC (lv_sub hl [0] rfl)
  have cut55 : ∀ (S : mS) (H : Heap) (locs : List Loc) (ls : Array Slot), wp_part_55 r_part K S → mC E A s.heap S H locs → lv_has ls 1 [(0, .ref E.2.1)] → W p l e R s m args below meth c H locs 0 0 Q (F0 m 55 ls [.ref E.2.1]) := by
    intro S H locs ls h hC hl
    unfold wp_part_55 at h
    refine lv_iconst (v := 1) hx hb dX12_part_55 (by decide) ?_
    refine lv_goto (tgt := 60) hx hb dX12_part_56 (by decide) ?_
    exact cut60 1 S _ _ _ h hC (lv_sub hl [0] rfl)
  have hl : lv_has ls 1 [(0, .ref E.2.1)] := hl
  unfold wp_part at h
  refine lv_aload_n hx hb dX12_part_0 rfl (lv_at hl 0 rfl) ?_
  refine lv_aload_n hx hb dX12_part_1 rfl (lv_at hl 0 rfl) ?_
  refine mv_get (v := .int (S.1 4)) hX hC 8 (Nat.le_of_ble_eq_true rfl) wd_1408 rfl dX12_part_2 ?_
  refine lv_if_ne (tgt := 59) hx hb dX12_part_5 (by decide) (fun c1 => ?_) (fun c1 => ?_)
  · have h := h.1 c1
    exact cut59 S _ _ _ h hC (lv_sub hl [0] rfl)
  · have h := h.2 c1
    refine lv_aload_n hx hb dX12_part_8 rfl (lv_at hl 0 rfl) ?_
    refine mv_get (v := .ref (E.2.2.1 1)) hX hC 4 (Nat.le_of_ble_eq_true rfl) wd_1404 rfl dX12_part_9 ?_
    refine lv_aload_n hx hb dX12_part_12 rfl (lv_at hl 0 rfl) ?_
    refine mv_get (v := .int (S.1 3)) hX hC 7 (Nat.le_of_ble_eq_true rfl) wd_1407 rfl dX12_part_13 ?_
    refine mq_ild (n := 4002) hX hC 1 rfl rfl dX12_part_16 h (fun z2 h => ?_)
    refine lv_iconst (v := 2) hx hb dX12_part_17 (by decide) ?_
    refine lv_icmp_eq (tgt := 55) hx hb dX12_part_18 (by decide) (fun c3 => ?_) (fun c3 => ?_)
    · have h := h.1 c3
      exact cut55 S _ _ _ h hC (lv_sub hl [0] rfl)
    · have h := h.2 c3
      refine lv_aload_n hx hb dX12_part_21 rfl (lv_at hl 0 rfl) ?_
      refine lv_bipush (v := 40) hx hb dX12_part_22 (by decide) ?_
      refine mv_calli [.int 40] (rest := [.ref E.2.1]) hX hC (ct_isSign l S 40 _ h E _) (cw_X12_isSign hts (by omega) (by omega)) rfl hl.1 (Nat.le_of_ble_eq_true rfl) ⟨Nat.zero_le _, Nat.zero_le _⟩ dX12_part_24 (fun r4 S4 H locs hC h => ?_)
      refine lv_if_ne (tgt := 55) hx hb dX12_part_27 (by decide) (fun c5 => ?_) (fun c5 => ?_)
      · have h := h.1 c5
        exact cut55 S4 _ _ _ h hC (lv_sub hl [0] rfl)
      · have h := h.2 c5
        refine lv_aload_n hx hb dX12_part_30 rfl (lv_at hl 0 rfl) ?_
        refine lv_bipush (v := 45) hx hb dX12_part_31 (by decide) ?_
        refine mv_calli [.int 45] (rest := [.ref E.2.1]) hX hC (ct_isSign l S4 45 _ h E _) (cw_X12_isSign hts (by omega) (by omega)) rfl hl.1 (Nat.le_of_ble_eq_true rfl) ⟨Nat.zero_le _, Nat.zero_le _⟩ dX12_part_33 (fun r6 S6 H locs hC h => ?_)
        refine lv_if_ne (tgt := 55) hx hb dX12_part_36 (by decide) (fun c7 => ?_) (fun c7 => ?_)
        · have h := h.1 c7
          exact cut55 S6 _ _ _ h hC (lv_sub hl [0] rfl)
        · have h := h.2 c7
          refine lv_aload_n hx hb dX12_part_39 rfl (lv_at hl 0 rfl) ?_
          refine lv_bipush (v := 20) hx hb dX12_part_40 (by decide) ?_
          refine mv_calli [.int 20] (rest := [.ref E.2.1]) hX hC (ct_isWord l S6 20 _ h E _) (cw_X12_isWord hts (by omega) (by omega)) rfl hl.1 (Nat.le_of_ble_eq_true rfl) ⟨Nat.zero_le _, Nat.zero_le _⟩ dX12_part_42 (fun r8 S8 H locs hC h => ?_)
          refine lv_if_ne (tgt := 55) hx hb dX12_part_45 (by decide) (fun c9 => ?_) (fun c9 => ?_)
          · have h := h.1 c9
            exact cut55 S8 _ _ _ h hC (lv_sub hl [0] rfl)
          · have h := h.2 c9
            refine lv_aload_n hx hb dX12_part_48 rfl (lv_at hl 0 rfl) ?_
            refine mv_calli [] (rest := [.ref E.2.1]) hX hC (ct_isName l S8 _ h E _) (cw_X12_isName hts (by omega) (by omega)) rfl hl.1 (Nat.le_of_ble_eq_true rfl) ⟨Nat.zero_le _, Nat.zero_le _⟩ dX12_part_49 (fun r10 S10 H locs hC h => ?_)
            refine lv_if_eq (tgt := 59) hx hb dX12_part_52 (by decide) (fun c11 => ?_) (fun c11 => ?_)
            · have h := h.1 c11
              exact cut59 S10 _ _ _ h hC (lv_sub hl [0] rfl)
            · have h := h.2 c11
              exact cut55 S10 _ _ _ h hC (lv_sub hl [0] rfl)
def wr_part : Nat → mS → (mS → Prop) → Prop
  | 0 => fun _ _ => False
  | n + 1 => wp_part (wr_part n)
def wq_product : mS → (mS → Prop) → Prop := wp_product (wr_part 12)
def wq_sum : mS → (mS → Prop) → Prop := wp_sum (wr_part 12)
def wq_expression : mS → (mS → Prop) → Prop := wp_expression (wr_part 12)
def wq_partWithin : mS → (mS → Prop) → Prop := wp_partWithin (wr_part 12)
def wq_part : mS → (mS → Prop) → Prop := (wr_part 12)
set_option maxRecDepth 100000 in
theorem cr_part (l : Launch) : ∀ n : Nat, (∀ (S : mS) (K : mS → Prop), (wr_part n) S K → mMv l yX12_part cX12_part 1 none (5 * n + 6) (108 * n + 133) (fun E => []) S K) := by
  intro n
  induction n with
  | zero => exact fun _ _ h => h.elim
  | succ n ih => exact fun S K h => co_part l (5 * n + 6) (108 * n + 133) _ _ (wr_part n) ih (by omega) (by omega) (by omega) (by omega) S K h
theorem ct_product (l : Launch) (S : mS) (K : mS → Prop) (h : wq_product S K) : mMv l yX12_product cX12_product 3 none 67 1449 (fun E => []) S K := co_product l (5 * 12 + 6) (108 * 12 + 133) _ _ (wr_part 12) (cr_part l 12) (by omega) (by omega) (by omega) (by omega) S K h
theorem ct_sum (l : Launch) (S : mS) (K : mS → Prop) (h : wq_sum S K) : mMv l yX12_sum cX12_sum 3 none 68 1471 (fun E => []) S K := co_sum l (5 * 12 + 6) (108 * 12 + 133) _ _ (wr_part 12) (cr_part l 12) (by omega) (by omega) (by omega) (by omega) S K h
theorem ct_expression (l : Launch) (S : mS) (K : mS → Prop) (h : wq_expression S K) : mMv l yX12_expression cX12_expression 3 none 69 1493 (fun E => []) S K := co_expression l (5 * 12 + 6) (108 * 12 + 133) _ _ (wr_part 12) (cr_part l 12) (by omega) (by omega) (by omega) (by omega) S K h
theorem ct_partWithin (l : Launch) (S : mS) (K : mS → Prop) (h : wq_partWithin S K) : mMv l yX12_partWithin cX12_partWithin 3 none 70 1515 (fun E => []) S K := co_partWithin l (5 * 12 + 6) (108 * 12 + 133) _ _ (wr_part 12) (cr_part l 12) (by omega) (by omega) (by omega) (by omega) S K h
theorem ct_part (l : Launch) (S : mS) (K : mS → Prop) (h : wq_part S K) : mMv l yX12_part cX12_part 1 none (5 * 12 + 6) (108 * 12 + 133) (fun E => []) S K := (cr_part l 12) S K h
def wp_join (a0 : Int32) (S : mS) (K : mS → Prop) : Prop := wp_act 0 0 S (fun (S1 : mS) (r1 : Int32) => wp_lead r1 S1 (fun (S2 : mS) => ∀ S3 : mS, S3 = sZ S2 19 a0 → wp_lead r1 S3 (fun (S4 : mS) => ∀ S5 : mS, S5 = sZ S4 19 r1 → K S5)))
set_option maxHeartbeats 4000000 in
set_option maxRecDepth 100000 in
theorem ct_join (l : Launch) (S : mS) (a0 : Int32) (K : mS → Prop) (h : wp_join a0 S K) : mMv l yX12_join cX12_join 3 none 1 22 (fun E => [.int a0]) S K := by
  refine mv_ofv (by decide) rfl (fun _ => Nat.le_of_ble_eq_true rfl) ?_
  intro E p e R s m args below meth c A ls Q hRf hRl hX hC hl hret
  have hx := hX.1.1
  have hb := hX.1.2.1
  have hown := hX.1.2.2.2.1
  have hts := hX.1.2.2.2.2
  have hl : lv_has ls 3 [(0, .ref E.2.1), (1, .int a0)] := hl
  unfold wp_join at h
  refine lv_aload_n hx hb dX12_join_0 rfl (lv_at hl 0 rfl) ?_
  refine lv_iconst (v := 0) hx hb dX12_join_1 (by decide) ?_
  refine lv_iconst (v := 0) hx hb dX12_join_2 (by decide) ?_
  refine mv_calli [.int 0, .int 0] (rest := []) hX hC (ct_act l S 0 0 _ h E _) (cw_X12_act hts (by omega) (by omega)) rfl hl.1 (Nat.le_of_ble_eq_true rfl) ⟨Nat.zero_le _, Nat.zero_le _⟩ dX12_join_3 (fun r1 S1 H locs hC h => ?_)
  refine lv_istore_n (lv' := [(2, .int r1), (0, .ref E.2.1), (1, .int a0)]) hx hb dX12_join_6 rfl hl (by decide) rfl (fun ls hl => ?_)
  refine lv_aload_n hx hb dX12_join_7 rfl (lv_at hl 1 rfl) ?_
  refine lv_iload_n hx hb dX12_join_8 rfl (lv_at hl 0 rfl) ?_
  refine mv_callv [.int r1] (rest := []) hX hC (ct_lead l S1 r1 _ h E _) (cw_X12_lead hts (by omega) (by omega)) rfl hl.1 (Nat.le_of_ble_eq_true rfl) ⟨Nat.zero_le _, Nat.zero_le _⟩ dX12_join_9 (fun S2 H locs hC h => ?_)
  refine lv_aload_n hx hb dX12_join_12 rfl (lv_at hl 1 rfl) ?_
  refine lv_iload_n hx hb dX12_join_13 rfl (lv_at hl 2 rfl) ?_
  refine mq_put (v := a0) hX hC 69 19 (Nat.le_of_ble_eq_true rfl) wd_1469 rfl rfl rfl mz_19 dX12_join_14 h (fun S3 H locs hC h => ?_)
  refine lv_aload_n hx hb dX12_join_17 rfl (lv_at hl 1 rfl) ?_
  refine lv_iload_n hx hb dX12_join_18 rfl (lv_at hl 0 rfl) ?_
  refine mv_callv [.int r1] (rest := []) hX hC (ct_lead l S3 r1 _ h E _) (cw_X12_lead hts (by omega) (by omega)) rfl hl.1 (Nat.le_of_ble_eq_true rfl) ⟨Nat.zero_le _, Nat.zero_le _⟩ dX12_join_19 (fun S4 H locs hC h => ?_)
  refine lv_aload_n hx hb dX12_join_22 rfl (lv_at hl 1 rfl) ?_
  refine lv_iload_n hx hb dX12_join_23 rfl (lv_at hl 0 rfl) ?_
  refine mq_put (v := r1) hX hC 69 19 (Nat.le_of_ble_eq_true rfl) wd_1469 rfl rfl rfl mz_19 dX12_join_24 h (fun S5 H locs hC h => ?_)
  exact hret _ _ _ _ _ hC h dX12_join_27
def wp_marks_b_48 (K : mS → Prop) (k11 : Int32 × Int32 × Int32 × mS → Prop) (x2 : Int32) (x3 : Int32) (y1 : Int32) (y2 : Int32) (S : mS) : Prop := inR y1 1000 ∧ (y2 = 0 ∨ y2 = 1) ∧ ∀ S8 : mS, S8 = sF S 37 (ix y1) y2 → inR x3 1000 ∧ ∀ z9 : Int32, z9 = S8.2.1 26 (ix x3) → inR x3 1000 ∧ ∀ z10 : Int32, z10 = S8.2.1 25 (ix x3) → k11 (x2, z10, z9, S8)
def wp_marks_b_43 (K : mS → Prop) (k11 : Int32 × Int32 × Int32 × mS → Prop) (x2 : Int32) (x3 : Int32) (y1 : Int32) (S : mS) : Prop := wp_marks_b_48 K k11 x2 x3 y1 1 S
def wp_marks_b_29 (K : mS → Prop) (k11 : Int32 × Int32 × Int32 × mS → Prop) (x2 : Int32) (x3 : Int32) (x4 : Int32) (S : mS) : Prop := inR x3 1000 ∧ ∀ z5 : Int32, z5 = S.2.1 37 (ix x3) → ((¬ z5 = 0 → wp_marks_b_43 K k11 x2 x3 x3 S) ∧ (z5 = 0 → ((2 ≤ x4 → wp_marks_b_48 K k11 x2 x3 x3 0 S) ∧ (¬ 2 ≤ x4 → wp_marks_b_43 K k11 x2 x3 x3 S))))
def wp_marks_b_11 (K : mS → Prop) (k11 : Int32 × Int32 × Int32 × mS → Prop) (x2 : Int32) (x3 : Int32) (x4 : Int32) (S : mS) : Prop := ((x3 < 0 → K S) ∧ (¬ x3 < 0 → ((x2 < 0 → wp_marks_b_29 K k11 x2 x3 x4 S) ∧ (¬ x2 < 0 → inR x2 1000 ∧ ∀ z3 : Int32, z3 = S.2.1 40 (ix x2) → ((x3 = z3 → K S) ∧ (¬ x3 = z3 → wp_marks_b_29 K k11 x2 x3 x4 S))))))
def ls_marks_b_11 (K : mS → Prop) (k11 : Int32 × Int32 × Int32 × mS → Prop) (u : Int32 × Int32 × Int32 × mS) : Prop := wp_marks_b_11 K k11 u.1 u.2.1 u.2.2.1 u.2.2.2
def wp_marks_b (a1 : Int32) (S : mS) (K : mS → Prop) : Prop := (∃ n9, it (ls_marks_b_11 K) n9 (a1, S.1 13, S.1 14, S))
set_option maxHeartbeats 4000000 in
set_option maxRecDepth 100000 in
theorem ct_marks_b (l : Launch) (S : mS) (a1 : Int32) (K : mS → Prop) (h : wp_marks_b a1 S K) : mMv l yX12_marks cX12_marks 5 none 0 0 (fun E => [.ref (E.2.2.1 37), .int a1]) S K := by
  refine mv_ofv (by decide) rfl (fun _ => Nat.le_of_ble_eq_true rfl) ?_
  intro E p e R s m args below meth c A ls Q hRf hRl hX hC hl hret
  have hx := hX.1.1
  have hb := hX.1.2.1
  have hown := hX.1.2.2.2.1
  have hts := hX.1.2.2.2.2
  have cut11 : ∀ (n11 : Nat) (x2 : Int32) (x3 : Int32) (x4 : Int32) (S : mS) (H : Heap) (locs : List Loc) (ls : Array Slot), it (ls_marks_b_11 K) n11 (x2, x3, x4, S) → mC E A s.heap S H locs → lv_has ls 5 [(0, .ref E.2.1), (1, .ref (E.2.2.1 37)), (2, .int x2), (3, .int x3), (4, .int x4)] → W p l e R s m args below meth c H locs 0 0 Q (F0 m 11 ls []) := by
    intro n11
    induction n11 with
    | zero => intro x2 x3 x4 S H locs ls h hC hl; exact h.elim
    | succ n11 ih11 =>
      have cut48 : ∀ (x2 : Int32) (x3 : Int32) (y1 : Int32) (y2 : Int32) (S : mS) (H : Heap) (locs : List Loc) (ls : Array Slot), wp_marks_b_48 K (it (ls_marks_b_11 K) n11) x2 x3 y1 y2 S → mC E A s.heap S H locs → lv_has ls 5 [(0, .ref E.2.1), (1, .ref (E.2.2.1 37)), (2, .int x2), (3, .int x3)] → W p l e R s m args below meth c H locs 0 0 Q (F0 m 48 ls [.int y2, .int y1, .ref (E.2.2.1 37)]) := by
        intro x2 x3 y1 y2 S H locs ls h hC hl
        unfold wp_marks_b_48 at h
        refine mq_zst (n := 1000) (v := y2) hX hC 37 rfl rfl (nr_01 h.2.1) mf_37 dX12_marks_48 h.1 h.2.2 (fun S8 H locs hC h => ?_)
        refine lv_aload_n hx hb dX12_marks_49 rfl (lv_at hl 0 rfl) ?_
        refine mv_get (v := .ref (E.2.2.1 26)) hX hC 37 (Nat.le_of_ble_eq_true rfl) wd_1437 rfl dX12_marks_50 ?_
        refine lv_iload_n hx hb dX12_marks_53 rfl (lv_at hl 3 rfl) ?_
        refine mq_ild (n := 1000) hX hC 26 rfl rfl dX12_marks_54 h (fun z9 h => ?_)
        refine lv_istore (lv' := [(4, .int z9), (0, .ref E.2.1), (1, .ref (E.2.2.1 37)), (2, .int x2), (3, .int x3)]) hx hb dX12_marks_55 hl (by decide) rfl (fun ls hl => ?_)
        refine lv_aload_n hx hb dX12_marks_57 rfl (lv_at hl 1 rfl) ?_
        refine mv_get (v := .ref (E.2.2.1 25)) hX hC 36 (Nat.le_of_ble_eq_true rfl) wd_1436 rfl dX12_marks_58 ?_
        refine lv_iload_n hx hb dX12_marks_61 rfl (lv_at hl 4 rfl) ?_
        refine mq_ild (n := 1000) hX hC 25 rfl rfl dX12_marks_62 h (fun z10 h => ?_)
        refine lv_istore_n (lv' := [(3, .int z10), (4, .int z9), (0, .ref E.2.1), (1, .ref (E.2.2.1 37)), (2, .int x2)]) hx hb dX12_marks_63 rfl hl (by decide) rfl (fun ls hl => ?_)
        refine lv_goto (tgt := 11) hx hb dX12_marks_64 (by decide) ?_
        exact ih11 x2 z10 z9 S8 _ _ _ h hC (lv_sub hl [2, 3, 4, 0, 1] rfl)
      have cut43 : ∀ (x2 : Int32) (x3 : Int32) (y1 : Int32) (S : mS) (H : Heap) (locs : List Loc) (ls : Array Slot), wp_marks_b_43 K (it (ls_marks_b_11 K) n11) x2 x3 y1 S → mC E A s.heap S H locs → lv_has ls 5 [(0, .ref E.2.1), (1, .ref (E.2.2.1 37)), (2, .int x2), (3, .int x3)] → W p l e R s m args below meth c H locs 0 0 Q (F0 m 43 ls [.int y1, .ref (E.2.2.1 37)]) := by
        intro x2 x3 y1 S H locs ls h hC hl
        unfold wp_marks_b_43 at h
        refine lv_iconst (v := 1) hx hb dX12_marks_43 (by decide) ?_
        refine lv_goto (tgt := 48) hx hb dX12_marks_44 (by decide) ?_
        exact cut48 x2 x3 y1 1 S _ _ _ h hC (lv_sub hl [0, 1, 2, 3] rfl)
      have cut29 : ∀ (x2 : Int32) (x3 : Int32) (x4 : Int32) (S : mS) (H : Heap) (locs : List Loc) (ls : Array Slot), wp_marks_b_29 K (it (ls_marks_b_11 K) n11) x2 x3 x4 S → mC E A s.heap S H locs → lv_has ls 5 [(0, .ref E.2.1), (1, .ref (E.2.2.1 37)), (2, .int x2), (3, .int x3), (4, .int x4)] → W p l e R s m args below meth c H locs 0 0 Q (F0 m 29 ls []) := by
        intro x2 x3 x4 S H locs ls h hC hl
        unfold wp_marks_b_29 at h
        refine lv_aload_n hx hb dX12_marks_29 rfl (lv_at hl 1 rfl) ?_
        refine lv_iload_n hx hb dX12_marks_30 rfl (lv_at hl 3 rfl) ?_
        refine lv_aload_n hx hb dX12_marks_31 rfl (lv_at hl 1 rfl) ?_
        refine lv_iload_n hx hb dX12_marks_32 rfl (lv_at hl 3 rfl) ?_
        refine mq_zld (n := 1000) hX hC 37 rfl rfl dX12_marks_33 h (fun z5 h => ?_)
        refine lv_if_ne (tgt := 43) hx hb dX12_marks_34 (by decide) (fun c6 => ?_) (fun c6 => ?_)
        · have h := h.1 c6
          exact cut43 x2 x3 x3 S _ _ _ h hC (lv_sub hl [0, 1, 2, 3] rfl)
        · have h := h.2 c6
          refine lv_iload hx hb dX12_marks_37 (lv_at hl 4 rfl) ?_
          refine lv_iconst (v := 2) hx hb dX12_marks_39 (by decide) ?_
          refine lv_icmp_ge (tgt := 47) hx hb dX12_marks_40 (by decide) (fun c7 => ?_) (fun c7 => ?_)
          · have h := h.1 c7
            refine lv_iconst (v := 0) hx hb dX12_marks_47 (by decide) ?_
            exact cut48 x2 x3 x3 0 S _ _ _ h hC (lv_sub hl [0, 1, 2, 3] rfl)
          · have h := h.2 c7
            exact cut43 x2 x3 x3 S _ _ _ h hC (lv_sub hl [0, 1, 2, 3] rfl)
      intro x2 x3 x4 S H locs ls h hC hl
      have h : wp_marks_b_11 K (it (ls_marks_b_11 K) n11) x2 x3 x4 S := h
      unfold wp_marks_b_11 at h
      refine lv_iload_n hx hb dX12_marks_11 rfl (lv_at hl 3 rfl) ?_
      refine lv_if_lt (tgt := 67) hx hb dX12_marks_12 (by decide) (fun c1 => ?_) (fun c1 => ?_)
      · have h := h.1 c1
        exact hret _ _ _ _ _ hC h dX12_marks_67
      · have h := h.2 c1
        refine lv_iload_n hx hb dX12_marks_15 rfl (lv_at hl 2 rfl) ?_
        refine lv_if_lt (tgt := 29) hx hb dX12_marks_16 (by decide) (fun c2 => ?_) (fun c2 => ?_)
        · have h := h.1 c2
          exact cut29 x2 x3 x4 S _ _ _ h hC (lv_sub hl [0, 1, 2, 3, 4] rfl)
        · have h := h.2 c2
          refine lv_iload_n hx hb dX12_marks_19 rfl (lv_at hl 3 rfl) ?_
          refine lv_aload_n hx hb dX12_marks_20 rfl (lv_at hl 0 rfl) ?_
          refine mv_get (v := .ref (E.2.2.1 40)) hX hC 52 (Nat.le_of_ble_eq_true rfl) wd_1452 rfl dX12_marks_21 ?_
          refine lv_iload_n hx hb dX12_marks_24 rfl (lv_at hl 2 rfl) ?_
          refine mq_ild (n := 1000) hX hC 40 rfl rfl dX12_marks_25 h (fun z3 h => ?_)
          refine lv_icmp_eq (tgt := 67) hx hb dX12_marks_26 (by decide) (fun c4 => ?_) (fun c4 => ?_)
          · have h := h.1 c4
            exact hret _ _ _ _ _ hC h dX12_marks_67
          · have h := h.2 c4
            exact cut29 x2 x3 x4 S _ _ _ h hC (lv_sub hl [0, 1, 2, 3, 4] rfl)
  have hl : lv_has ls 5 [(0, .ref E.2.1), (1, .ref (E.2.2.1 37)), (2, .int a1)] := hl
  unfold wp_marks_b at h
  refine lv_aload_n hx hb dX12_marks_0 rfl (lv_at hl 0 rfl) ?_
  refine mv_get (v := .int (S.1 13)) hX hC 63 (Nat.le_of_ble_eq_true rfl) wd_1463 rfl dX12_marks_1 ?_
  refine lv_istore_n (lv' := [(3, .int (S.1 13)), (0, .ref E.2.1), (1, .ref (E.2.2.1 37)), (2, .int a1)]) hx hb dX12_marks_4 rfl hl (by decide) rfl (fun ls hl => ?_)
  refine lv_aload_n hx hb dX12_marks_5 rfl (lv_at hl 1 rfl) ?_
  refine mv_get (v := .int (S.1 14)) hX hC 64 (Nat.le_of_ble_eq_true rfl) wd_1464 rfl dX12_marks_6 ?_
  refine lv_istore (lv' := [(4, .int (S.1 14)), (3, .int (S.1 13)), (0, .ref E.2.1), (1, .ref (E.2.2.1 37)), (2, .int a1)]) hx hb dX12_marks_9 hl (by decide) rfl (fun ls hl => ?_)
  obtain ⟨n9, h⟩ := h
  exact cut11 n9 a1 (S.1 13) (S.1 14) S _ _ _ h hC (lv_sub hl [2, 3, 4, 1, 0] rfl)
def wp_marks_c_48 (K : mS → Prop) (k11 : Int32 × Int32 × Int32 × mS → Prop) (x2 : Int32) (x3 : Int32) (y1 : Int32) (y2 : Int32) (S : mS) : Prop := inR y1 1000 ∧ (y2 = 0 ∨ y2 = 1) ∧ ∀ S8 : mS, S8 = sF S 38 (ix y1) y2 → inR x3 1000 ∧ ∀ z9 : Int32, z9 = S8.2.1 26 (ix x3) → inR x3 1000 ∧ ∀ z10 : Int32, z10 = S8.2.1 25 (ix x3) → k11 (x2, z10, z9, S8)
def wp_marks_c_43 (K : mS → Prop) (k11 : Int32 × Int32 × Int32 × mS → Prop) (x2 : Int32) (x3 : Int32) (y1 : Int32) (S : mS) : Prop := wp_marks_c_48 K k11 x2 x3 y1 1 S
def wp_marks_c_29 (K : mS → Prop) (k11 : Int32 × Int32 × Int32 × mS → Prop) (x2 : Int32) (x3 : Int32) (x4 : Int32) (S : mS) : Prop := inR x3 1000 ∧ ∀ z5 : Int32, z5 = S.2.1 38 (ix x3) → ((¬ z5 = 0 → wp_marks_c_43 K k11 x2 x3 x3 S) ∧ (z5 = 0 → ((2 ≤ x4 → wp_marks_c_48 K k11 x2 x3 x3 0 S) ∧ (¬ 2 ≤ x4 → wp_marks_c_43 K k11 x2 x3 x3 S))))
def wp_marks_c_11 (K : mS → Prop) (k11 : Int32 × Int32 × Int32 × mS → Prop) (x2 : Int32) (x3 : Int32) (x4 : Int32) (S : mS) : Prop := ((x3 < 0 → K S) ∧ (¬ x3 < 0 → ((x2 < 0 → wp_marks_c_29 K k11 x2 x3 x4 S) ∧ (¬ x2 < 0 → inR x2 1000 ∧ ∀ z3 : Int32, z3 = S.2.1 40 (ix x2) → ((x3 = z3 → K S) ∧ (¬ x3 = z3 → wp_marks_c_29 K k11 x2 x3 x4 S))))))
def ls_marks_c_11 (K : mS → Prop) (k11 : Int32 × Int32 × Int32 × mS → Prop) (u : Int32 × Int32 × Int32 × mS) : Prop := wp_marks_c_11 K k11 u.1 u.2.1 u.2.2.1 u.2.2.2
def wp_marks_c (a1 : Int32) (S : mS) (K : mS → Prop) : Prop := (∃ n9, it (ls_marks_c_11 K) n9 (a1, S.1 13, S.1 14, S))
set_option maxHeartbeats 4000000 in
set_option maxRecDepth 100000 in
theorem ct_marks_c (l : Launch) (S : mS) (a1 : Int32) (K : mS → Prop) (h : wp_marks_c a1 S K) : mMv l yX12_marks cX12_marks 5 none 0 0 (fun E => [.ref (E.2.2.1 38), .int a1]) S K := by
  refine mv_ofv (by decide) rfl (fun _ => Nat.le_of_ble_eq_true rfl) ?_
  intro E p e R s m args below meth c A ls Q hRf hRl hX hC hl hret
  have hx := hX.1.1
  have hb := hX.1.2.1
  have hown := hX.1.2.2.2.1
  have hts := hX.1.2.2.2.2
  have cut11 : ∀ (n11 : Nat) (x2 : Int32) (x3 : Int32) (x4 : Int32) (S : mS) (H : Heap) (locs : List Loc) (ls : Array Slot), it (ls_marks_c_11 K) n11 (x2, x3, x4, S) → mC E A s.heap S H locs → lv_has ls 5 [(0, .ref E.2.1), (1, .ref (E.2.2.1 38)), (2, .int x2), (3, .int x3), (4, .int x4)] → W p l e R s m args below meth c H locs 0 0 Q (F0 m 11 ls []) := by
    intro n11
    induction n11 with
    | zero => intro x2 x3 x4 S H locs ls h hC hl; exact h.elim
    | succ n11 ih11 =>
      have cut48 : ∀ (x2 : Int32) (x3 : Int32) (y1 : Int32) (y2 : Int32) (S : mS) (H : Heap) (locs : List Loc) (ls : Array Slot), wp_marks_c_48 K (it (ls_marks_c_11 K) n11) x2 x3 y1 y2 S → mC E A s.heap S H locs → lv_has ls 5 [(0, .ref E.2.1), (1, .ref (E.2.2.1 38)), (2, .int x2), (3, .int x3)] → W p l e R s m args below meth c H locs 0 0 Q (F0 m 48 ls [.int y2, .int y1, .ref (E.2.2.1 38)]) := by
        intro x2 x3 y1 y2 S H locs ls h hC hl
        unfold wp_marks_c_48 at h
        refine mq_zst (n := 1000) (v := y2) hX hC 38 rfl rfl (nr_01 h.2.1) mf_38 dX12_marks_48 h.1 h.2.2 (fun S8 H locs hC h => ?_)
        refine lv_aload_n hx hb dX12_marks_49 rfl (lv_at hl 0 rfl) ?_
        refine mv_get (v := .ref (E.2.2.1 26)) hX hC 37 (Nat.le_of_ble_eq_true rfl) wd_1437 rfl dX12_marks_50 ?_
        refine lv_iload_n hx hb dX12_marks_53 rfl (lv_at hl 3 rfl) ?_
        refine mq_ild (n := 1000) hX hC 26 rfl rfl dX12_marks_54 h (fun z9 h => ?_)
        refine lv_istore (lv' := [(4, .int z9), (0, .ref E.2.1), (1, .ref (E.2.2.1 38)), (2, .int x2), (3, .int x3)]) hx hb dX12_marks_55 hl (by decide) rfl (fun ls hl => ?_)
        refine lv_aload_n hx hb dX12_marks_57 rfl (lv_at hl 1 rfl) ?_
        refine mv_get (v := .ref (E.2.2.1 25)) hX hC 36 (Nat.le_of_ble_eq_true rfl) wd_1436 rfl dX12_marks_58 ?_
        refine lv_iload_n hx hb dX12_marks_61 rfl (lv_at hl 4 rfl) ?_
        refine mq_ild (n := 1000) hX hC 25 rfl rfl dX12_marks_62 h (fun z10 h => ?_)
        refine lv_istore_n (lv' := [(3, .int z10), (4, .int z9), (0, .ref E.2.1), (1, .ref (E.2.2.1 38)), (2, .int x2)]) hx hb dX12_marks_63 rfl hl (by decide) rfl (fun ls hl => ?_)
        refine lv_goto (tgt := 11) hx hb dX12_marks_64 (by decide) ?_
        exact ih11 x2 z10 z9 S8 _ _ _ h hC (lv_sub hl [2, 3, 4, 0, 1] rfl)
      have cut43 : ∀ (x2 : Int32) (x3 : Int32) (y1 : Int32) (S : mS) (H : Heap) (locs : List Loc) (ls : Array Slot), wp_marks_c_43 K (it (ls_marks_c_11 K) n11) x2 x3 y1 S → mC E A s.heap S H locs → lv_has ls 5 [(0, .ref E.2.1), (1, .ref (E.2.2.1 38)), (2, .int x2), (3, .int x3)] → W p l e R s m args below meth c H locs 0 0 Q (F0 m 43 ls [.int y1, .ref (E.2.2.1 38)]) := by
        intro x2 x3 y1 S H locs ls h hC hl
        unfold wp_marks_c_43 at h
        refine lv_iconst (v := 1) hx hb dX12_marks_43 (by decide) ?_
        refine lv_goto (tgt := 48) hx hb dX12_marks_44 (by decide) ?_
        exact cut48 x2 x3 y1 1 S _ _ _ h hC (lv_sub hl [0, 1, 2, 3] rfl)
      have cut29 : ∀ (x2 : Int32) (x3 : Int32) (x4 : Int32) (S : mS) (H : Heap) (locs : List Loc) (ls : Array Slot), wp_marks_c_29 K (it (ls_marks_c_11 K) n11) x2 x3 x4 S → mC E A s.heap S H locs → lv_has ls 5 [(0, .ref E.2.1), (1, .ref (E.2.2.1 38)), (2, .int x2), (3, .int x3), (4, .int x4)] → W p l e R s m args below meth c H locs 0 0 Q (F0 m 29 ls []) := by
        intro x2 x3 x4 S H locs ls h hC hl
        unfold wp_marks_c_29 at h
        refine lv_aload_n hx hb dX12_marks_29 rfl (lv_at hl 1 rfl) ?_
        refine lv_iload_n hx hb dX12_marks_30 rfl (lv_at hl 3 rfl) ?_
        refine lv_aload_n hx hb dX12_marks_31 rfl (lv_at hl 1 rfl) ?_
        refine lv_iload_n hx hb dX12_marks_32 rfl (lv_at hl 3 rfl) ?_
        refine mq_zld (n := 1000) hX hC 38 rfl rfl dX12_marks_33 h (fun z5 h => ?_)
        refine lv_if_ne (tgt := 43) hx hb dX12_marks_34 (by decide) (fun c6 => ?_) (fun c6 => ?_)
        · have h := h.1 c6
          exact cut43 x2 x3 x3 S _ _ _ h hC (lv_sub hl [0, 1, 2, 3] rfl)
        · have h := h.2 c6
          refine lv_iload hx hb dX12_marks_37 (lv_at hl 4 rfl) ?_
          refine lv_iconst (v := 2) hx hb dX12_marks_39 (by decide) ?_
          refine lv_icmp_ge (tgt := 47) hx hb dX12_marks_40 (by decide) (fun c7 => ?_) (fun c7 => ?_)
          · have h := h.1 c7
            refine lv_iconst (v := 0) hx hb dX12_marks_47 (by decide) ?_
            exact cut48 x2 x3 x3 0 S _ _ _ h hC (lv_sub hl [0, 1, 2, 3] rfl)
          · have h := h.2 c7
            exact cut43 x2 x3 x3 S _ _ _ h hC (lv_sub hl [0, 1, 2, 3] rfl)
      intro x2 x3 x4 S H locs ls h hC hl
      have h : wp_marks_c_11 K (it (ls_marks_c_11 K) n11) x2 x3 x4 S := h
      unfold wp_marks_c_11 at h
      refine lv_iload_n hx hb dX12_marks_11 rfl (lv_at hl 3 rfl) ?_
      refine lv_if_lt (tgt := 67) hx hb dX12_marks_12 (by decide) (fun c1 => ?_) (fun c1 => ?_)
      · have h := h.1 c1
        exact hret _ _ _ _ _ hC h dX12_marks_67
      · have h := h.2 c1
        refine lv_iload_n hx hb dX12_marks_15 rfl (lv_at hl 2 rfl) ?_
        refine lv_if_lt (tgt := 29) hx hb dX12_marks_16 (by decide) (fun c2 => ?_) (fun c2 => ?_)
        · have h := h.1 c2
          exact cut29 x2 x3 x4 S _ _ _ h hC (lv_sub hl [0, 1, 2, 3, 4] rfl)
        · have h := h.2 c2
          refine lv_iload_n hx hb dX12_marks_19 rfl (lv_at hl 3 rfl) ?_
          refine lv_aload_n hx hb dX12_marks_20 rfl (lv_at hl 0 rfl) ?_
          refine mv_get (v := .ref (E.2.2.1 40)) hX hC 52 (Nat.le_of_ble_eq_true rfl) wd_1452 rfl dX12_marks_21 ?_
          refine lv_iload_n hx hb dX12_marks_24 rfl (lv_at hl 2 rfl) ?_
          refine mq_ild (n := 1000) hX hC 40 rfl rfl dX12_marks_25 h (fun z3 h => ?_)
          refine lv_icmp_eq (tgt := 67) hx hb dX12_marks_26 (by decide) (fun c4 => ?_) (fun c4 => ?_)
          · have h := h.1 c4
            exact hret _ _ _ _ _ hC h dX12_marks_67
          · have h := h.2 c4
            exact cut29 x2 x3 x4 S _ _ _ h hC (lv_sub hl [0, 1, 2, 3, 4] rfl)
  have hl : lv_has ls 5 [(0, .ref E.2.1), (1, .ref (E.2.2.1 38)), (2, .int a1)] := hl
  unfold wp_marks_c at h
  refine lv_aload_n hx hb dX12_marks_0 rfl (lv_at hl 0 rfl) ?_
  refine mv_get (v := .int (S.1 13)) hX hC 63 (Nat.le_of_ble_eq_true rfl) wd_1463 rfl dX12_marks_1 ?_
  refine lv_istore_n (lv' := [(3, .int (S.1 13)), (0, .ref E.2.1), (1, .ref (E.2.2.1 38)), (2, .int a1)]) hx hb dX12_marks_4 rfl hl (by decide) rfl (fun ls hl => ?_)
  refine lv_aload_n hx hb dX12_marks_5 rfl (lv_at hl 1 rfl) ?_
  refine mv_get (v := .int (S.1 14)) hX hC 64 (Nat.le_of_ble_eq_true rfl) wd_1464 rfl dX12_marks_6 ?_
  refine lv_istore (lv' := [(4, .int (S.1 14)), (3, .int (S.1 13)), (0, .ref E.2.1), (1, .ref (E.2.2.1 38)), (2, .int a1)]) hx hb dX12_marks_9 hl (by decide) rfl (fun ls hl => ?_)
  obtain ⟨n9, h⟩ := h
  exact cut11 n9 a1 (S.1 13) (S.1 14) S _ _ _ h hC (lv_sub hl [2, 3, 4, 1, 0] rfl)
