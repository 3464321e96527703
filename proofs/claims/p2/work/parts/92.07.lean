theorem wd_261 : (Jvm.Cond.fieldLink "Sleepers$Hall" (131 : Nat) "Sleepers$Hall" "unused" "LSleepers$Part;") ∈ tb := tb_at 261 (by decide +kernel) (by decide +kernel)
theorem wd_466 : (Jvm.Cond.methodLink "Sleepers$Hall" (56 : Nat) ({ cls := "Sleepers$Hall", name := "takeBack", desc := "(LSleepers$Task;)V" } : Jvm.MethodName)) ∈ tb := tb_at 466 (by decide +kernel) (by decide +kernel)
theorem wd_467 : (Jvm.Cond.instanceMethod ({ cls := "Sleepers$Hall", name := "takeBack", desc := "(LSleepers$Task;)V" } : Jvm.MethodName)) ∈ tb := tb_at 467 (by decide +kernel) (by decide +kernel)
theorem wd_468 : (Jvm.Cond.selects "Sleepers$Hall" ({ cls := "Sleepers$Hall", name := "takeBack", desc := "(LSleepers$Task;)V" } : Jvm.MethodName) ({ cls := "Sleepers$Hall", name := "takeBack", desc := "(LSleepers$Task;)V" } : Jvm.MethodName)) ∈ tb := tb_at 468 (by decide +kernel) (by decide +kernel)
theorem wd_469 : (Jvm.Cond.code ({ cls := "Sleepers$Hall", name := "takeBack", desc := "(LSleepers$Task;)V" } : Jvm.MethodName) prog_3_method_9_code (4 : Nat) (Option.none : Option Jvm.ClassFile.FieldType)) ∈ tb := tb_at 469 (by decide +kernel) (by decide +kernel)
theorem wd_899 : (Jvm.Cond.fieldLink "Sleepers$Hall" (175 : Nat) "Sleepers$Task" "root" "LSleepers$Part;") ∈ tb := tb_at 899 (by decide +kernel) (by decide +kernel)
theorem wd_900 : (Jvm.Cond.fieldLink "Sleepers$Hall" (159 : Nat) "Sleepers$Task" "about" "LSleepers$Part;") ∈ tb := tb_at 900 (by decide +kernel) (by decide +kernel)
theorem wd_1059 : (Jvm.Cond.fieldLink "Sleepers$Hall" (141 : Nat) "Sleepers$Part" "kind" "I") ∈ tb := tb_at 1059 (by decide +kernel) (by decide +kernel)
theorem wd_1070 : (Jvm.Cond.fieldLink "Sleepers$Line" (15 : Nat) "Sleepers$Part" "due" "I") ∈ tb := tb_at 1070 (by decide +kernel) (by decide +kernel)
theorem wd_1071 : (Jvm.Cond.fieldLink "Sleepers$Hall" (153 : Nat) "Sleepers$Part" "due" "I") ∈ tb := tb_at 1071 (by decide +kernel) (by decide +kernel)
theorem wd_1126 : (Jvm.Cond.instanceMethod ({ cls := "Sleepers$Line", name := "add", desc := "(LSleepers$Part;)V" } : Jvm.MethodName)) ∈ tb := tb_at 1126 (by decide +kernel) (by decide +kernel)
theorem wd_1127 : (Jvm.Cond.selects "Sleepers$Line" ({ cls := "Sleepers$Line", name := "add", desc := "(LSleepers$Part;)V" } : Jvm.MethodName) ({ cls := "Sleepers$Line", name := "add", desc := "(LSleepers$Part;)V" } : Jvm.MethodName)) ∈ tb := tb_at 1127 (by decide +kernel) (by decide +kernel)
theorem wd_1128 : (Jvm.Cond.code ({ cls := "Sleepers$Line", name := "add", desc := "(LSleepers$Part;)V" } : Jvm.MethodName) prog_4_method_2_code (4 : Nat) (Option.none : Option Jvm.ClassFile.FieldType)) ∈ tb := tb_at 1128 (by decide +kernel) (by decide +kernel)
theorem wd_1137 : (Jvm.Cond.constant "Sleepers$Hall" (178 : Nat) (2147483647 : Int32)) ∈ tb := tb_at 1137 (by decide +kernel) (by decide +kernel)
theorem wd_1138 : (Jvm.Cond.methodLink "Sleepers$Hall" (179 : Nat) ({ cls := "Sleepers$Line", name := "add", desc := "(LSleepers$Part;)V" } : Jvm.MethodName)) ∈ tb := tb_at 1138 (by decide +kernel) (by decide +kernel)
theorem wd_1228 : (Jvm.Cond.methodLink "Sleepers" (150 : Nat) ({ cls := "Sleepers$Hall", name := "pass", desc := "(I)V" } : Jvm.MethodName)) ∈ tb := tb_at 1228 (by decide +kernel) (by decide +kernel)
theorem wd_1229 : (Jvm.Cond.instanceMethod ({ cls := "Sleepers$Hall", name := "pass", desc := "(I)V" } : Jvm.MethodName)) ∈ tb := tb_at 1229 (by decide +kernel) (by decide +kernel)
theorem wd_1230 : (Jvm.Cond.selects "Sleepers$Hall" ({ cls := "Sleepers$Hall", name := "pass", desc := "(I)V" } : Jvm.MethodName) ({ cls := "Sleepers$Hall", name := "pass", desc := "(I)V" } : Jvm.MethodName)) ∈ tb := tb_at 1230 (by decide +kernel) (by decide +kernel)
theorem wd_1231 : (Jvm.Cond.code ({ cls := "Sleepers$Hall", name := "pass", desc := "(I)V" } : Jvm.MethodName) prog_3_method_13_code (5 : Nat) (Option.none : Option Jvm.ClassFile.FieldType)) ∈ tb := tb_at 1231 (by decide +kernel) (by decide +kernel)
theorem dX11_tick_0 : decode cX11_tick 0 = .ok (.iload_n 1, 1) := by decide +kernel
theorem dX11_tick_1 : decode cX11_tick 1 = .ok (.ifCond .lt 10, 3) := by decide +kernel
theorem dX11_tick_4 : decode cX11_tick 4 = .ok (.iload_n 1, 1) := by decide +kernel
theorem dX11_tick_5 : decode cX11_tick 5 = .ok (.sipush 10000, 3) := by decide +kernel
theorem dX11_tick_8 : decode cX11_tick 8 = .ok (.if_icmp .le 5, 3) := by decide +kernel
theorem dX11_tick_11 : decode cX11_tick 11 = .ok (.iconst (-1), 1) := by decide +kernel
theorem dX11_tick_12 : decode cX11_tick 12 = .ok (.ireturn, 1) := by decide +kernel
theorem dX11_tick_13 : decode cX11_tick 13 = .ok (.aload_n 0, 1) := by decide +kernel
theorem dX11_tick_14 : decode cX11_tick 14 = .ok (.getfield 35, 3) := by decide +kernel
theorem dX11_tick_17 : decode cX11_tick 17 = .ok (.iload_n 1, 1) := by decide +kernel
theorem dX11_tick_18 : decode cX11_tick 18 = .ok (.invokevirtual 150, 3) := by decide +kernel
theorem dX11_tick_21 : decode cX11_tick 21 = .ok (.aload_n 0, 1) := by decide +kernel
theorem dX11_tick_22 : decode cX11_tick 22 = .ok (.getfield 35, 3) := by decide +kernel
theorem dX11_tick_25 : decode cX11_tick 25 = .ok (.getfield 154, 3) := by decide +kernel
theorem dX11_tick_28 : decode cX11_tick 28 = .ok (.ireturn, 1) := by decide +kernel
theorem dX1_breakOff_0 : decode cX1_breakOff 0 = .ok (.aload_n 1, 1) := by decide +kernel
theorem dX1_breakOff_1 : decode cX1_breakOff 1 = .ok (.iconst 1, 1) := by decide +kernel
theorem dX1_breakOff_2 : decode cX1_breakOff 2 = .ok (.putfield 128, 3) := by decide +kernel
theorem dX1_breakOff_5 : decode cX1_breakOff 5 = .ok (.aload_n 0, 1) := by decide +kernel
theorem dX1_breakOff_6 : decode cX1_breakOff 6 = .ok (.aload_n 1, 1) := by decide +kernel
theorem dX1_breakOff_7 : decode cX1_breakOff 7 = .ok (.getfield 125, 3) := by decide +kernel
theorem dX1_breakOff_10 : decode cX1_breakOff 10 = .ok (.iconst (-1), 1) := by decide +kernel
theorem dX1_breakOff_11 : decode cX1_breakOff 11 = .ok (.ixor, 1) := by decide +kernel
theorem dX1_breakOff_12 : decode cX1_breakOff 12 = .ok (.invokevirtual 198, 3) := by decide +kernel
theorem dX1_breakOff_15 : decode cX1_breakOff 15 = .ok (.aload_n 0, 1) := by decide +kernel
theorem dX1_breakOff_16 : decode cX1_breakOff 16 = .ok (.aload_n 1, 1) := by decide +kernel
theorem dX1_breakOff_17 : decode cX1_breakOff 17 = .ok (.iconst 1, 1) := by decide +kernel
theorem dX1_breakOff_18 : decode cX1_breakOff 18 = .ok (.invokevirtual 204, 3) := by decide +kernel
theorem dX1_breakOff_21 : decode cX1_breakOff 21 = .ok (.aload_n 1, 1) := by decide +kernel
theorem dX1_breakOff_22 : decode cX1_breakOff 22 = .ok (.iconst 2, 1) := by decide +kernel
theorem dX1_breakOff_23 : decode cX1_breakOff 23 = .ok (.putfield 119, 3) := by decide +kernel
theorem dX1_breakOff_26 : decode cX1_breakOff 26 = .ok (.aload_n 1, 1) := by decide +kernel
theorem dX1_breakOff_27 : decode cX1_breakOff 27 = .ok (.iload_n 2, 1) := by decide +kernel
theorem dX1_breakOff_28 : decode cX1_breakOff 28 = .ok (.putfield 208, 3) := by decide +kernel
theorem dX1_breakOff_31 : decode cX1_breakOff 31 = .ok (.aload_n 0, 1) := by decide +kernel
theorem dX1_breakOff_32 : decode cX1_breakOff 32 = .ok (.invokevirtual 190, 3) := by decide +kernel
theorem dX1_breakOff_35 : decode cX1_breakOff 35 = .ok (.return_, 1) := by decide +kernel
theorem dX1_end_0 : decode cX1_end 0 = .ok (.aload_n 0, 1) := by decide +kernel
theorem dX1_end_1 : decode cX1_end 1 = .ok (.aload_n 1, 1) := by decide +kernel
theorem dX1_end_2 : decode cX1_end 2 = .ok (.iconst 1, 1) := by decide +kernel
theorem dX1_end_3 : decode cX1_end 3 = .ok (.invokevirtual 204, 3) := by decide +kernel
theorem dX1_end_6 : decode cX1_end 6 = .ok (.aload_n 0, 1) := by decide +kernel
theorem dX1_end_7 : decode cX1_end 7 = .ok (.invokevirtual 190, 3) := by decide +kernel
theorem dX1_end_10 : decode cX1_end 10 = .ok (.aload_n 0, 1) := by decide +kernel
theorem dX1_end_11 : decode cX1_end 11 = .ok (.aload_n 1, 1) := by decide +kernel
theorem dX1_end_12 : decode cX1_end 12 = .ok (.invokevirtual 209, 3) := by decide +kernel
theorem dX1_end_15 : decode cX1_end 15 = .ok (.aload_n 0, 1) := by decide +kernel
theorem dX1_end_16 : decode cX1_end 16 = .ok (.aload_n 1, 1) := by decide +kernel
theorem dX1_end_17 : decode cX1_end 17 = .ok (.invokevirtual 201, 3) := by decide +kernel
theorem dX1_end_20 : decode cX1_end 20 = .ok (.aload_n 0, 1) := by decide +kernel
theorem dX1_end_21 : decode cX1_end 21 = .ok (.invokevirtual 190, 3) := by decide +kernel
theorem dX1_end_24 : decode cX1_end 24 = .ok (.return_, 1) := by decide +kernel
theorem dX1_pass_0 : decode cX1_pass 0 = .ok (.aload_n 0, 1) := by decide +kernel
theorem dX1_pass_1 : decode cX1_pass 1 = .ok (.getfield 66, 3) := by decide +kernel
theorem dX1_pass_4 : decode cX1_pass 4 = .ok (.iload_n 1, 1) := by decide +kernel
theorem dX1_pass_5 : decode cX1_pass 5 = .ok (.iadd, 1) := by decide +kernel
theorem dX1_pass_6 : decode cX1_pass 6 = .ok (.istore_n 2, 1) := by decide +kernel
theorem dX1_pass_7 : decode cX1_pass 7 = .ok (.iconst 0, 1) := by decide +kernel
theorem dX1_pass_8 : decode cX1_pass 8 = .ok (.istore_n 3, 1) := by decide +kernel
theorem dX1_pass_9 : decode cX1_pass 9 = .ok (.iload_n 3, 1) := by decide +kernel
theorem dX1_pass_10 : decode cX1_pass 10 = .ok (.ldc 193, 2) := by decide +kernel
theorem dX1_pass_12 : decode cX1_pass 12 = .ok (.if_icmp .ge 78, 3) := by decide +kernel
theorem dX1_pass_15 : decode cX1_pass 15 = .ok (.aload_n 0, 1) := by decide +kernel
theorem dX1_pass_16 : decode cX1_pass 16 = .ok (.getfield 34, 3) := by decide +kernel
theorem dX1_pass_19 : decode cX1_pass 19 = .ok (.getfield 183, 3) := by decide +kernel
theorem dX1_pass_22 : decode cX1_pass 22 = .ok (.astore 4, 2) := by decide +kernel
theorem dX1_pass_24 : decode cX1_pass 24 = .ok (.aload 4, 2) := by decide +kernel
theorem dX1_pass_26 : decode cX1_pass 26 = .ok (.ifnull 64, 3) := by decide +kernel
theorem dX1_pass_29 : decode cX1_pass 29 = .ok (.aload 4, 2) := by decide +kernel
theorem dX1_pass_31 : decode cX1_pass 31 = .ok (.getfield 153, 3) := by decide +kernel
theorem dX1_pass_34 : decode cX1_pass 34 = .ok (.iload_n 2, 1) := by decide +kernel
theorem dX1_pass_35 : decode cX1_pass 35 = .ok (.if_icmp .le 6, 3) := by decide +kernel
theorem dX1_pass_38 : decode cX1_pass 38 = .ok (.goto 52, 3) := by decide +kernel
theorem dX1_pass_41 : decode cX1_pass 41 = .ok (.aload_n 0, 1) := by decide +kernel
theorem dX1_pass_42 : decode cX1_pass 42 = .ok (.aload 4, 2) := by decide +kernel
theorem dX1_pass_44 : decode cX1_pass 44 = .ok (.getfield 153, 3) := by decide +kernel
theorem dX1_pass_47 : decode cX1_pass 47 = .ok (.putfield 66, 3) := by decide +kernel
theorem dX1_pass_50 : decode cX1_pass 50 = .ok (.aload 4, 2) := by decide +kernel
theorem dX1_pass_52 : decode cX1_pass 52 = .ok (.getfield 141, 3) := by decide +kernel
theorem dX1_pass_55 : decode cX1_pass 55 = .ok (.bipush 6, 2) := by decide +kernel
theorem dX1_pass_57 : decode cX1_pass 57 = .ok (.if_icmp .ne 15, 3) := by decide +kernel
theorem dX1_pass_60 : decode cX1_pass 60 = .ok (.aload_n 0, 1) := by decide +kernel
theorem dX1_pass_61 : decode cX1_pass 61 = .ok (.aload 4, 2) := by decide +kernel
theorem dX1_pass_63 : decode cX1_pass 63 = .ok (.iconst 2, 1) := by decide +kernel
theorem dX1_pass_64 : decode cX1_pass 64 = .ok (.bipush 21, 2) := by decide +kernel
theorem dX1_pass_66 : decode cX1_pass 66 = .ok (.invokevirtual 186, 3) := by decide +kernel
theorem dX1_pass_69 : decode cX1_pass 69 = .ok (.goto 11, 3) := by decide +kernel
theorem dX1_pass_72 : decode cX1_pass 72 = .ok (.aload_n 0, 1) := by decide +kernel
theorem dX1_pass_73 : decode cX1_pass 73 = .ok (.aload 4, 2) := by decide +kernel
theorem dX1_pass_75 : decode cX1_pass 75 = .ok (.iconst 1, 1) := by decide +kernel
theorem dX1_pass_76 : decode cX1_pass 76 = .ok (.iconst 0, 1) := by decide +kernel
theorem dX1_pass_77 : decode cX1_pass 77 = .ok (.invokevirtual 186, 3) := by decide +kernel
theorem dX1_pass_80 : decode cX1_pass 80 = .ok (.aload_n 0, 1) := by decide +kernel
theorem dX1_pass_81 : decode cX1_pass 81 = .ok (.invokevirtual 190, 3) := by decide +kernel
theorem dX1_pass_84 : decode cX1_pass 84 = .ok (.iinc 3 1, 3) := by decide +kernel
theorem dX1_pass_87 : decode cX1_pass 87 = .ok (.goto (-78), 3) := by decide +kernel
theorem dX1_pass_90 : decode cX1_pass 90 = .ok (.aload_n 0, 1) := by decide +kernel
theorem dX1_pass_91 : decode cX1_pass 91 = .ok (.iload_n 2, 1) := by decide +kernel
theorem dX1_pass_92 : decode cX1_pass 92 = .ok (.putfield 66, 3) := by decide +kernel
theorem dX1_pass_95 : decode cX1_pass 95 = .ok (.return_, 1) := by decide +kernel
theorem dX1_setAlarm_0 : decode cX1_setAlarm 0 = .ok (.aload_n 1, 1) := by decide +kernel
theorem dX1_setAlarm_1 : decode cX1_setAlarm 1 = .ok (.iload_n 2, 1) := by decide +kernel
theorem dX1_setAlarm_2 : decode cX1_setAlarm 2 = .ok (.ldc 178, 2) := by decide +kernel
theorem dX1_setAlarm_4 : decode cX1_setAlarm 4 = .ok (.aload_n 0, 1) := by decide +kernel
theorem dX1_setAlarm_5 : decode cX1_setAlarm 5 = .ok (.getfield 66, 3) := by decide +kernel
theorem dX1_setAlarm_8 : decode cX1_setAlarm 8 = .ok (.isub, 1) := by decide +kernel
theorem dX1_setAlarm_9 : decode cX1_setAlarm 9 = .ok (.if_icmp .le 8, 3) := by decide +kernel
theorem dX1_setAlarm_12 : decode cX1_setAlarm 12 = .ok (.ldc 178, 2) := by decide +kernel
theorem dX1_setAlarm_14 : decode cX1_setAlarm 14 = .ok (.goto 9, 3) := by decide +kernel
theorem dX1_setAlarm_17 : decode cX1_setAlarm 17 = .ok (.aload_n 0, 1) := by decide +kernel
theorem dX1_setAlarm_18 : decode cX1_setAlarm 18 = .ok (.getfield 66, 3) := by decide +kernel
theorem dX1_setAlarm_21 : decode cX1_setAlarm 21 = .ok (.iload_n 2, 1) := by decide +kernel
theorem dX1_setAlarm_22 : decode cX1_setAlarm 22 = .ok (.iadd, 1) := by decide +kernel
theorem dX1_setAlarm_23 : decode cX1_setAlarm 23 = .ok (.putfield 153, 3) := by decide +kernel
theorem dX1_setAlarm_26 : decode cX1_setAlarm 26 = .ok (.aload_n 0, 1) := by decide +kernel
theorem dX1_setAlarm_27 : decode cX1_setAlarm 27 = .ok (.getfield 34, 3) := by decide +kernel
theorem dX1_setAlarm_30 : decode cX1_setAlarm 30 = .ok (.aload_n 1, 1) := by decide +kernel
theorem dX1_setAlarm_31 : decode cX1_setAlarm 31 = .ok (.invokevirtual 179, 3) := by decide +kernel
theorem dX1_setAlarm_34 : decode cX1_setAlarm 34 = .ok (.return_, 1) := by decide +kernel
theorem dX1_takeBack_0 : decode cX1_takeBack 0 = .ok (.aload_n 1, 1) := by decide +kernel
theorem dX1_takeBack_1 : decode cX1_takeBack 1 = .ok (.getfield 163, 3) := by decide +kernel
theorem dX1_takeBack_4 : decode cX1_takeBack 4 = .ok (.astore_n 2, 1) := by decide +kernel
theorem dX1_takeBack_5 : decode cX1_takeBack 5 = .ok (.aload_n 2, 1) := by decide +kernel
theorem dX1_takeBack_6 : decode cX1_takeBack 6 = .ok (.ifnull 26, 3) := by decide +kernel
theorem dX1_takeBack_9 : decode cX1_takeBack 9 = .ok (.aload_n 2, 1) := by decide +kernel
theorem dX1_takeBack_10 : decode cX1_takeBack 10 = .ok (.getfield 135, 3) := by decide +kernel
theorem dX1_takeBack_13 : decode cX1_takeBack 13 = .ok (.astore_n 3, 1) := by decide +kernel
theorem dX1_takeBack_14 : decode cX1_takeBack 14 = .ok (.aload_n 2, 1) := by decide +kernel
theorem dX1_takeBack_15 : decode cX1_takeBack 15 = .ok (.aload_n 0, 1) := by decide +kernel
theorem dX1_takeBack_16 : decode cX1_takeBack 16 = .ok (.getfield 131, 3) := by decide +kernel
theorem dX1_takeBack_19 : decode cX1_takeBack 19 = .ok (.putfield 135, 3) := by decide +kernel
theorem dX1_takeBack_22 : decode cX1_takeBack 22 = .ok (.aload_n 0, 1) := by decide +kernel
theorem dX1_takeBack_23 : decode cX1_takeBack 23 = .ok (.aload_n 2, 1) := by decide +kernel
theorem dX1_takeBack_24 : decode cX1_takeBack 24 = .ok (.putfield 131, 3) := by decide +kernel
theorem dX1_takeBack_27 : decode cX1_takeBack 27 = .ok (.aload_n 3, 1) := by decide +kernel
theorem dX1_takeBack_28 : decode cX1_takeBack 28 = .ok (.astore_n 2, 1) := by decide +kernel
theorem dX1_takeBack_29 : decode cX1_takeBack 29 = .ok (.goto (-24), 3) := by decide +kernel
theorem dX1_takeBack_32 : decode cX1_takeBack 32 = .ok (.aload_n 1, 1) := by decide +kernel
theorem dX1_takeBack_33 : decode cX1_takeBack 33 = .ok (.aconst_null, 1) := by decide +kernel
theorem dX1_takeBack_34 : decode cX1_takeBack 34 = .ok (.putfield 163, 3) := by decide +kernel
theorem dX1_takeBack_37 : decode cX1_takeBack 37 = .ok (.aload_n 1, 1) := by decide +kernel
theorem dX1_takeBack_38 : decode cX1_takeBack 38 = .ok (.aconst_null, 1) := by decide +kernel
theorem dX1_takeBack_39 : decode cX1_takeBack 39 = .ok (.putfield 175, 3) := by decide +kernel
theorem dX1_takeBack_42 : decode cX1_takeBack 42 = .ok (.aload_n 1, 1) := by decide +kernel
theorem dX1_takeBack_43 : decode cX1_takeBack 43 = .ok (.aconst_null, 1) := by decide +kernel
theorem dX1_takeBack_44 : decode cX1_takeBack 44 = .ok (.putfield 159, 3) := by decide +kernel
theorem dX1_takeBack_47 : decode cX1_takeBack 47 = .ok (.return_, 1) := by decide +kernel
theorem dX2_add_0 : decode cX2_add 0 = .ok (.aload_n 0, 1) := by decide +kernel
theorem dX2_add_1 : decode cX2_add 1 = .ok (.getfield 9, 3) := by decide +kernel
theorem dX2_add_4 : decode cX2_add 4 = .ok (.astore_n 2, 1) := by decide +kernel
theorem dX2_add_5 : decode cX2_add 5 = .ok (.aload_n 2, 1) := by decide +kernel
theorem dX2_add_6 : decode cX2_add 6 = .ok (.ifnull 22, 3) := by decide +kernel
theorem dX2_add_9 : decode cX2_add 9 = .ok (.aload_n 2, 1) := by decide +kernel
theorem dX2_add_10 : decode cX2_add 10 = .ok (.getfield 15, 3) := by decide +kernel
theorem dX2_add_13 : decode cX2_add 13 = .ok (.aload_n 1, 1) := by decide +kernel
theorem dX2_add_14 : decode cX2_add 14 = .ok (.getfield 15, 3) := by decide +kernel
theorem dX2_add_17 : decode cX2_add 17 = .ok (.if_icmp .le 11, 3) := by decide +kernel
theorem dX2_add_20 : decode cX2_add 20 = .ok (.aload_n 2, 1) := by decide +kernel
theorem dX2_add_21 : decode cX2_add 21 = .ok (.getfield 21, 3) := by decide +kernel
theorem dX2_add_24 : decode cX2_add 24 = .ok (.astore_n 2, 1) := by decide +kernel
theorem dX2_add_25 : decode cX2_add 25 = .ok (.goto (-20), 3) := by decide +kernel
theorem dX2_add_28 : decode cX2_add 28 = .ok (.aload_n 2, 1) := by decide +kernel
theorem dX2_add_29 : decode cX2_add 29 = .ok (.ifnonnull 10, 3) := by decide +kernel
theorem dX2_add_32 : decode cX2_add 32 = .ok (.aload_n 0, 1) := by decide +kernel
theorem dX2_add_33 : decode cX2_add 33 = .ok (.getfield 24, 3) := by decide +kernel
theorem dX2_add_36 : decode cX2_add 36 = .ok (.goto 7, 3) := by decide +kernel
theorem dX2_add_39 : decode cX2_add 39 = .ok (.aload_n 2, 1) := by decide +kernel
theorem dX2_add_40 : decode cX2_add 40 = .ok (.getfield 27, 3) := by decide +kernel
theorem dX2_add_43 : decode cX2_add 43 = .ok (.astore_n 3, 1) := by decide +kernel
theorem dX2_add_44 : decode cX2_add 44 = .ok (.aload_n 1, 1) := by decide +kernel
theorem dX2_add_45 : decode cX2_add 45 = .ok (.aload_n 0, 1) := by decide +kernel
theorem dX2_add_46 : decode cX2_add 46 = .ok (.putfield 30, 3) := by decide +kernel
theorem dX2_add_49 : decode cX2_add 49 = .ok (.aload_n 1, 1) := by decide +kernel
theorem dX2_add_50 : decode cX2_add 50 = .ok (.aload_n 2, 1) := by decide +kernel
theorem dX2_add_51 : decode cX2_add 51 = .ok (.putfield 21, 3) := by decide +kernel
theorem dX2_add_54 : decode cX2_add 54 = .ok (.aload_n 1, 1) := by decide +kernel
theorem dX2_add_55 : decode cX2_add 55 = .ok (.aload_n 3, 1) := by decide +kernel
theorem dX2_add_56 : decode cX2_add 56 = .ok (.putfield 27, 3) := by decide +kernel
theorem dX2_add_59 : decode cX2_add 59 = .ok (.aload_n 2, 1) := by decide +kernel
theorem dX2_add_60 : decode cX2_add 60 = .ok (.ifnonnull 11, 3) := by decide +kernel
theorem dX2_add_63 : decode cX2_add 63 = .ok (.aload_n 0, 1) := by decide +kernel
theorem dX2_add_64 : decode cX2_add 64 = .ok (.aload_n 1, 1) := by decide +kernel
theorem dX2_add_65 : decode cX2_add 65 = .ok (.putfield 24, 3) := by decide +kernel
theorem dX2_add_68 : decode cX2_add 68 = .ok (.goto 8, 3) := by decide +kernel
theorem dX2_add_71 : decode cX2_add 71 = .ok (.aload_n 2, 1) := by decide +kernel
theorem dX2_add_72 : decode cX2_add 72 = .ok (.aload_n 1, 1) := by decide +kernel
theorem dX2_add_73 : decode cX2_add 73 = .ok (.putfield 27, 3) := by decide +kernel
theorem dX2_add_76 : decode cX2_add 76 = .ok (.aload_n 3, 1) := by decide +kernel
theorem dX2_add_77 : decode cX2_add 77 = .ok (.ifnonnull 11, 3) := by decide +kernel
theorem dX2_add_80 : decode cX2_add 80 = .ok (.aload_n 0, 1) := by decide +kernel
theorem dX2_add_81 : decode cX2_add 81 = .ok (.aload_n 1, 1) := by decide +kernel
theorem dX2_add_82 : decode cX2_add 82 = .ok (.putfield 9, 3) := by decide +kernel
theorem dX2_add_85 : decode cX2_add 85 = .ok (.goto 8, 3) := by decide +kernel
theorem dX2_add_88 : decode cX2_add 88 = .ok (.aload_n 3, 1) := by decide +kernel
theorem dX2_add_89 : decode cX2_add 89 = .ok (.aload_n 1, 1) := by decide +kernel
theorem dX2_add_90 : decode cX2_add 90 = .ok (.putfield 21, 3) := by decide +kernel
theorem dX2_add_93 : decode cX2_add 93 = .ok (.return_, 1) := by decide +kernel
def wp_X1_pass_80 (K : kS → Prop) (k9 : Nat × Int32 × Int32 × kS → Prop) (x0 : Nat) (x2 : Int32) (x3 : Int32) (S : kS) : Prop := hasO S x0 1 ∧ wp_X1_work x0 S (fun (S19 : kS) => ∀ z20 : Int32, z20 = x3 + 1 → k9 (x0, x2, z20, S19))
def wp_X1_pass_9 (K : kS → Prop) (k9 : Nat × Int32 × Int32 × kS → Prop) (x0 : Nat) (x2 : Int32) (x3 : Int32) (S : kS) : Prop := ((1000000 ≤ x3 → hasO S x0 1 ∧ ∀ S4 : kS, S4 = cI S 4 x0 x2 → K S4) ∧ (¬ 1000000 ≤ x3 → hasO S x0 1 ∧ ∀ z5 : Option Nat, z5 = S.2.1 8 x0 → ∃ q6 : Nat, z5 = some q6 ∧ hasO S q6 2 ∧ ∀ z7 : Option Nat, z7 = S.2.1 12 q6 → ((z7 = none → hasO S x0 1 ∧ ∀ S9 : kS, S9 = cI S 4 x0 x2 → K S9) ∧ (∀ q8 : Nat, z7 = some q8 → hasO S q8 4 ∧ ∀ z10 : Int32, z10 = S.1 16 q8 → ((z10 ≤ x2 → hasO S q8 4 ∧ ∀ z12 : Int32, z12 = S.1 16 q8 → hasO S x0 1 ∧ ∀ S13 : kS, S13 = cI S 4 x0 z12 → hasO S13 q8 4 ∧ ∀ z14 : Int32, z14 = S13.1 12 q8 → ((¬ z14 = 6 → hasO S13 x0 1 ∧ wp_X1_report x0 q8 1 0 S13 (fun (S16 : kS) => wp_X1_pass_80 K k9 x0 x2 x3 S16)) ∧ (z14 = 6 → hasO S13 x0 1 ∧ wp_X1_report x0 q8 2 21 S13 (fun (S17 : kS) => wp_X1_pass_80 K k9 x0 x2 x3 S17)))) ∧ (¬ z10 ≤ x2 → hasO S x0 1 ∧ ∀ S18 : kS, S18 = cI S 4 x0 x2 → K S18))))))
def ls_X1_pass_9 (K : kS → Prop) (k9 : Nat × Int32 × Int32 × kS → Prop) (u : Nat × Int32 × Int32 × kS) : Prop := wp_X1_pass_9 K k9 u.1 u.2.1 u.2.2.1 u.2.2.2
def wp_X1_pass (t0 : Nat) (a0 : Int32) (S : kS) (K : kS → Prop) : Prop := hasO S t0 1 ∧ ∀ z1 : Int32, z1 = S.1 4 t0 → ∀ z2 : Int32, z2 = z1 + a0 → (∃ n9, it (ls_X1_pass_9 K) n9 (t0, z2, 0, S))
set_option maxHeartbeats 4000000 in
set_option maxRecDepth 100000 in
theorem kt_X1_pass (l : Launch) (S : kS) (t0 : Nat) (a0 : Int32) (K : kS → Prop) (h : wp_X1_pass t0 a0 S K) : kMv l yX1_pass cX1_pass 5 none 5 110 [.ref t0, .int a0] S K := by
  refine kv_ofv (own := RX1) (by decide) rfl (Nat.le_of_ble_eq_true rfl) ?_
  intro E p e R s m args below meth c A ls Q hRf hRl hX hC hl hret
  have hx := hX.1.1
  have hb := hX.1.2.1
  have hown := hX.1.2.2.2.1
  have hts := hX.1.2.2.2.2
  have cut9 : ∀ (n9 : Nat) (x0 : Nat) (x2 : Int32) (x3 : Int32) (S : kS) (H : Heap) (locs : List Loc) (ls : Array Slot), it (ls_X1_pass_9 K) n9 (x0, x2, x3, S) → cM E A s.heap S H locs → lv_has ls 5 [(0, .ref x0), (2, .int x2), (3, .int x3)] → W p l e R s m args below meth c H locs 0 0 Q (F0 m 9 ls []) := by
    intro n9
    induction n9 with
    | zero => intro x0 x2 x3 S H locs ls h hC hl; exact h.elim
    | succ n9 ih9 =>
      have cut80 : ∀ (x0 : Nat) (x2 : Int32) (x3 : Int32) (S : kS) (H : Heap) (locs : List Loc) (ls : Array Slot), wp_X1_pass_80 K (it (ls_X1_pass_9 K) n9) x0 x2 x3 S → cM E A s.heap S H locs → lv_has ls 5 [(0, .ref x0), (2, .int x2), (3, .int x3)] → W p l e R s m args below meth c H locs 0 0 Q (F0 m 80 ls []) := by
        intro x0 x2 x3 S H locs ls h hC hl
        unfold wp_X1_pass_80 at h
        refine lv_aload_n hx hb dX1_pass_80 rfl (lv_at hl 0 rfl) ?_
        refine kv_callv [] (rest := []) (ci := 1) rfl hX hC h.1 (kt_X1_work l S x0 _ h.2 E _) (cw_X1_190 hts (by omega) (by omega)) rfl hl.1 (Nat.le_of_ble_eq_true rfl) ⟨Nat.zero_le _, Nat.zero_le _⟩ dX1_pass_81 (fun S19 H locs hC h => ?_)
        obtain ⟨z20, ez20⟩ : ∃ y : Int32, y = x3 + 1 := ⟨_, rfl⟩
        have h := h z20 ez20
        refine lv_iinc (v := z20) (lv' := [(3, .int z20), (0, .ref x0), (2, .int x2)]) hx hb dX1_pass_84 hl (k := 2) rfl (by rw [ez20]; rfl) (by decide) rfl (fun ls hl => ?_)
        refine lv_goto (tgt := 9) hx hb dX1_pass_87 (by decide) ?_
        exact ih9 x0 x2 z20 S19 _ _ _ h hC (lv_sub hl [1, 2, 0] rfl)
      intro x0 x2 x3 S H locs ls h hC hl
      have h : wp_X1_pass_9 K (it (ls_X1_pass_9 K) n9) x0 x2 x3 S := h
      unfold wp_X1_pass_9 at h
      refine lv_iload_n hx hb dX1_pass_9 rfl (lv_at hl 2 rfl) ?_
      refine lv_ldc (v := 1000000) hx hb hown (hts _ wd_1180) dX1_pass_10 ?_
      refine lv_icmp_ge (tgt := 90) hx hb dX1_pass_12 (by decide) (fun c3 => ?_) (fun c3 => ?_)
      · have h := h.1 c3
        refine lv_aload_n hx hb dX1_pass_90 rfl (lv_at hl 0 rfl) ?_
        refine lv_iload_n hx hb dX1_pass_91 rfl (lv_at hl 1 rfl) ?_
        refine cq_puti (v := x2) (ci := 1) (k := 6) (f := 4) hX hC rfl in_X1 (by decide) wd_245 (fun _ h9 => h9) tyX1 tyX1_ok nmX1 rfl rfl rfl (fun _ _ => Nat.le_of_ble_eq_true rfl) (fun _ _ _ => rfl) dX1_pass_92 h.1 h.2 (fun S4 H locs hC h => ?_)
        exact hret _ _ _ _ _ hC h dX1_pass_95
      · have h := h.2 c3
        refine lv_aload_n hx hb dX1_pass_15 rfl (lv_at hl 0 rfl) ?_
        refine cq_getr (ci := 1) (k := 10) (f := 8) hX hC rfl in_X1 (by decide) wd_256 (fun _ h9 => h9) (fun _ _ => rfl) dX1_pass_16 h (fun z5 h => ?_)
        obtain ⟨q6, e9, hh⟩ := h
        subst e9
        have h := hh
        clear hh
        refine cq_getr (ci := 2) (k := 0) (f := 12) hX hC rfl in_X2 (by decide) wd_209 (fun _ h9 => h9) (fun _ _ => rfl) dX1_pass_19 h (fun z7 h => ?_)
        refine lo_astore (lv' := [(4, va_rf z7), (0, .ref x0), (2, .int x2), (3, .int x3)]) hx hb dX1_pass_22 hl (by decide) (by rcases z7 with _ | _ <;> rfl) (fun ls hl => ?_)
        refine lo_aload hx hb dX1_pass_24 (lv_at hl 0 rfl) ?_
        rcases z7 with _ | q8
        · have h := h.1 rfl
          refine lv_ifnullN (tgt := 90) hx hb dX1_pass_26 (by decide) ?_
          refine lv_aload_n hx hb dX1_pass_90 rfl (lv_at hl 1 rfl) ?_
          refine lv_iload_n hx hb dX1_pass_91 rfl (lv_at hl 2 rfl) ?_
          refine cq_puti (v := x2) (ci := 1) (k := 6) (f := 4) hX hC rfl in_X1 (by decide) wd_245 (fun _ h9 => h9) tyX1 tyX1_ok nmX1 rfl rfl rfl (fun _ _ => Nat.le_of_ble_eq_true rfl) (fun _ _ _ => rfl) dX1_pass_92 h.1 h.2 (fun S9 H locs hC h => ?_)
          exact hret _ _ _ _ _ hC h dX1_pass_95
        · have h := h.2 q8 rfl
          refine lv_ifnull hx hb dX1_pass_26 ?_
          refine lv_aload hx hb dX1_pass_29 (lv_at hl 0 rfl) ?_
          refine cq_geti (ci := 4) (k := 5) (f := 16) hX hC rfl in_X4 (by decide) wd_1071 (fun _ h9 => h9) (fun _ _ => rfl) dX1_pass_31 h (fun z10 h => ?_)
          refine lv_iload_n hx hb dX1_pass_34 rfl (lv_at hl 2 rfl) ?_
          refine lv_icmp_le (tgt := 41) hx hb dX1_pass_35 (by decide) (fun c11 => ?_) (fun c11 => ?_)
          · have h := h.1 c11
            refine lv_aload_n hx hb dX1_pass_41 rfl (lv_at hl 1 rfl) ?_
            refine lv_aload hx hb dX1_pass_42 (lv_at hl 0 rfl) ?_
            refine cq_geti (ci := 4) (k := 5) (f := 16) hX hC rfl in_X4 (by decide) wd_1071 (fun _ h9 => h9) (fun _ _ => rfl) dX1_pass_44 h (fun z12 h => ?_)
            refine cq_puti (v := z12) (ci := 1) (k := 6) (f := 4) hX hC rfl in_X1 (by decide) wd_245 (fun _ h9 => h9) tyX1 tyX1_ok nmX1 rfl rfl rfl (fun _ _ => Nat.le_of_ble_eq_true rfl) (fun _ _ _ => rfl) dX1_pass_47 h.1 h.2 (fun S13 H locs hC h => ?_)
            refine lv_aload hx hb dX1_pass_50 (lv_at hl 0 rfl) ?_
            refine cq_geti (ci := 4) (k := 1) (f := 12) hX hC rfl in_X4 (by decide) wd_1059 (fun _ h9 => h9) (fun _ _ => rfl) dX1_pass_52 h (fun z14 h => ?_)
            refine lv_bipush (v := 6) hx hb dX1_pass_55 (by decide) ?_
            refine lv_icmp_ne (tgt := 72) hx hb dX1_pass_57 (by decide) (fun c15 => ?_) (fun c15 => ?_)
            · have h := h.1 c15
              refine lv_aload_n hx hb dX1_pass_72 rfl (lv_at hl 1 rfl) ?_
              refine lv_aload hx hb dX1_pass_73 (lv_at hl 0 rfl) ?_
              refine lv_iconst (v := 1) hx hb dX1_pass_75 (by decide) ?_
              refine lv_iconst (v := 0) hx hb dX1_pass_76 (by decide) ?_
              refine kv_callv [.ref q8, .int 1, .int 0] (rest := []) (ci := 1) rfl hX hC h.1 (kt_X1_report l S13 x0 q8 1 0 _ h.2 E _) (cw_X1_186 hts (by omega) (by omega)) rfl hl.1 (Nat.le_of_ble_eq_true rfl) ⟨Nat.zero_le _, Nat.zero_le _⟩ dX1_pass_77 (fun S16 H locs hC h => ?_)
              exact cut80 x0 x2 x3 S16 _ _ _ h hC (lv_sub hl [1, 2, 3] rfl)
            · have h := h.2 c15
              refine lv_aload_n hx hb dX1_pass_60 rfl (lv_at hl 1 rfl) ?_
              refine lv_aload hx hb dX1_pass_61 (lv_at hl 0 rfl) ?_
              refine lv_iconst (v := 2) hx hb dX1_pass_63 (by decide) ?_
              refine lv_bipush (v := 21) hx hb dX1_pass_64 (by decide) ?_
              refine kv_callv [.ref q8, .int 2, .int 21] (rest := []) (ci := 1) rfl hX hC h.1 (kt_X1_report l S13 x0 q8 2 21 _ h.2 E _) (cw_X1_186 hts (by omega) (by omega)) rfl hl.1 (Nat.le_of_ble_eq_true rfl) ⟨Nat.zero_le _, Nat.zero_le _⟩ dX1_pass_66 (fun S17 H locs hC h => ?_)
              refine lv_goto (tgt := 80) hx hb dX1_pass_69 (by decide) ?_
              exact cut80 x0 x2 x3 S17 _ _ _ h hC (lv_sub hl [1, 2, 3] rfl)
          · have h := h.2 c11
            refine lv_goto (tgt := 90) hx hb dX1_pass_38 (by decide) ?_
            refine lv_aload_n hx hb dX1_pass_90 rfl (lv_at hl 1 rfl) ?_
            refine lv_iload_n hx hb dX1_pass_91 rfl (lv_at hl 2 rfl) ?_
            refine cq_puti (v := x2) (ci := 1) (k := 6) (f := 4) hX hC rfl in_X1 (by decide) wd_245 (fun _ h9 => h9) tyX1 tyX1_ok nmX1 rfl rfl rfl (fun _ _ => Nat.le_of_ble_eq_true rfl) (fun _ _ _ => rfl) dX1_pass_92 h.1 h.2 (fun S18 H locs hC h => ?_)
            exact hret _ _ _ _ _ hC h dX1_pass_95
  have hl : lv_has ls 5 [(0, .ref t0), (1, .int a0)] := hl
  unfold wp_X1_pass at h
  refine lv_aload_n hx hb dX1_pass_0 rfl (lv_at hl 0 rfl) ?_
  refine cq_geti (ci := 1) (k := 6) (f := 4) hX hC rfl in_X1 (by decide) wd_245 (fun _ h9 => h9) (fun _ _ => rfl) dX1_pass_1 h (fun z1 h => ?_)
  refine lv_iload_n hx hb dX1_pass_4 rfl (lv_at hl 1 rfl) ?_
  refine lq_iadd hx hb dX1_pass_5 h (fun z2 h => ?_)
  refine lv_istore_n (lv' := [(2, .int z2), (0, .ref t0), (1, .int a0)]) hx hb dX1_pass_6 rfl hl (by decide) rfl (fun ls hl => ?_)
  refine lv_iconst (v := 0) hx hb dX1_pass_7 (by decide) ?_
  refine lv_istore_n (lv' := [(3, .int 0), (2, .int z2), (0, .ref t0), (1, .int a0)]) hx hb dX1_pass_8 rfl hl (by decide) rfl (fun ls hl => ?_)
  obtain ⟨n9, h⟩ := h
  exact cut9 n9 t0 z2 0 S _ _ _ h hC (lv_sub hl [2, 1, 0] rfl)
def wp_X11_tick (t0 : Nat) (a0 : Int32) (S : kS) (K : kS → Int32 → Prop) : Prop := ((a0 < 0 → K S (-1)) ∧ (¬ a0 < 0 → ((a0 ≤ 10000 → hasO S t0 11 ∧ ∀ z3 : Option Nat, z3 = S.2.1 72 t0 → ∃ q4 : Nat, z3 = some q4 ∧ hasO S q4 1 ∧ wp_X1_pass q4 a0 S (fun (S5 : kS) => hasO S5 t0 11 ∧ ∀ z6 : Option Nat, z6 = S5.2.1 72 t0 → ∃ q7 : Nat, z6 = some q7 ∧ hasO S5 q7 1 ∧ ∀ z8 : Int32, z8 = S5.1 4 q7 → K S5 z8)) ∧ (¬ a0 ≤ 10000 → K S (-1)))))
theorem cw_X11_150 {R : Room} {s : State} {args : Array Value} {fr lo : Nat} (hts : ∀ w ∈ tb, w.before args s = true) (h1 : fr + 1 ≤ R.frames) (h2 : 8 + (5 + 11) + lo ≤ R.locals) : CallW R s args RX11 RX1 150 yX1_pass cX1_pass 5 none (.code yX1_pass cX1_pass 5 none :: tb) (mRm fr lo) 0 0 1 := cwV 1 hts (gd_V wd_1228 wd_1229 wd_1230 wd_9 wd_1231) rfl rfl rfl (by decide +kernel) ⟨h1, h2⟩
set_option maxHeartbeats 4000000 in
set_option maxRecDepth 100000 in
theorem kt_X11_tick (l : Launch) (S : kS) (t0 : Nat) (a0 : Int32) (K : kS → Int32 → Prop) (h : wp_X11_tick t0 a0 S K) : kMi l yX11_tick cX11_tick 2 (some .int) 6 134 [.ref t0, .int a0] S K := by
  refine kv_ofi (own := RX11) (by decide) rfl (Nat.le_of_ble_eq_true rfl) ?_
  intro E p e R s m args below meth c A ls Q hRf hRl hX hC hl hret
  have hx := hX.1.1
  have hb := hX.1.2.1
  have hown := hX.1.2.2.2.1
  have hts := hX.1.2.2.2.2
  have hl : lv_has ls 2 [(0, .ref t0), (1, .int a0)] := hl
  unfold wp_X11_tick at h
  refine lv_iload_n hx hb dX11_tick_0 rfl (lv_at hl 1 rfl) ?_
  refine lv_if_lt (tgt := 11) hx hb dX11_tick_1 (by decide) (fun c1 => ?_) (fun c1 => ?_)
  · have h := h.1 c1
    refine lv_iconst (v := -1) hx hb dX11_tick_11 (by decide) ?_
    exact hret _ _ _ _ _ _ hC h dX11_tick_12
  · have h := h.2 c1
    refine lv_iload_n hx hb dX11_tick_4 rfl (lv_at hl 1 rfl) ?_
    refine lv_sipush (v := 10000) hx hb dX11_tick_5 (by decide) ?_
    refine lv_icmp_le (tgt := 13) hx hb dX11_tick_8 (by decide) (fun c2 => ?_) (fun c2 => ?_)
    · have h := h.1 c2
      refine lv_aload_n hx hb dX11_tick_13 rfl (lv_at hl 0 rfl) ?_
      refine cq_getr (ci := 11) (k := 3) (f := 72) hX hC rfl in_X11 (by decide) wd_481 (fun _ h9 => h9) (fun _ _ => rfl) dX11_tick_14 h (fun z3 h => ?_)
      refine lv_iload_n hx hb dX11_tick_17 rfl (lv_at hl 1 rfl) ?_
      obtain ⟨q4, e9, hh⟩ := h
      subst e9
      have h := hh
      clear hh
      refine kv_callv [.int a0] (rest := []) (ci := 1) rfl hX hC h.1 (kt_X1_pass l S q4 a0 _ h.2 E _) (cw_X11_150 hts (by omega) (by omega)) rfl hl.1 (Nat.le_of_ble_eq_true rfl) ⟨Nat.zero_le _, Nat.zero_le _⟩ dX11_tick_18 (fun S5 H locs hC h => ?_)
      refine lv_aload_n hx hb dX11_tick_21 rfl (lv_at hl 0 rfl) ?_
      refine cq_getr (ci := 11) (k := 3) (f := 72) hX hC rfl in_X11 (by decide) wd_481 (fun _ h9 => h9) (fun _ _ => rfl) dX11_tick_22 h (fun z6 h => ?_)
      obtain ⟨q7, e9, hh⟩ := h
      subst e9
      have h := hh
      clear hh
      refine cq_geti (ci := 1) (k := 6) (f := 4) hX hC rfl in_X1 (by decide) wd_247 (fun _ h9 => h9) (fun _ _ => rfl) dX11_tick_25 h (fun z8 h => ?_)
      exact hret _ _ _ _ _ _ hC h dX11_tick_28
    · have h := h.2 c2
      refine lv_iconst (v := -1) hx hb dX11_tick_11 (by decide) ?_
      exact hret _ _ _ _ _ _ hC h dX11_tick_12
def wp_X1_breakOff (t0 : Nat) (a0 : Nat) (a1 : Int32) (S : kS) (K : kS → Prop) : Prop := hasO S a0 9 ∧ ∀ S1 : kS, S1 = cI S 30 a0 1 → hasO S1 a0 9 ∧ ∀ z2 : Int32, z2 = S1.1 28 a0 → ∀ z3 : Int32, z3 = z2 ^^^ (-1) → hasO S1 t0 1 ∧ wp_X1_plan t0 z3 S1 (fun (S4 : kS) => hasO S4 t0 1 ∧ wp_X1_letGo t0 a0 1 S4 (fun (S5 : kS) => hasO S5 a0 9 ∧ ∀ S6 : kS, S6 = cI S5 38 a0 2 → hasO S6 a0 9 ∧ ∀ S7 : kS, S7 = cI S6 39 a0 a1 → hasO S7 t0 1 ∧ wp_X1_work t0 S7 (fun (S8 : kS) => K S8)))
set_option maxHeartbeats 4000000 in
set_option maxRecDepth 100000 in
theorem kt_X1_breakOff (l : Launch) (S : kS) (t0 : Nat) (a0 : Nat) (a1 : Int32) (K : kS → Prop) (h : wp_X1_breakOff t0 a0 a1 S K) : kMv l yX1_breakOff cX1_breakOff 3 none 5 110 [.ref t0, .ref a0, .int a1] S K := by
  refine kv_ofv (own := RX1) (by decide) rfl (Nat.le_of_ble_eq_true rfl) ?_
  intro E p e R s m args below meth c A ls Q hRf hRl hX hC hl hret
  have hx := hX.1.1
  have hb := hX.1.2.1
  have hown := hX.1.2.2.2.1
  have hts := hX.1.2.2.2.2
  have hl : lv_has ls 3 [(0, .ref t0), (1, .ref a0), (2, .int a1)] := hl
  unfold wp_X1_breakOff at h
  refine lv_aload_n hx hb dX1_breakOff_0 rfl (lv_at hl 1 rfl) ?_
  refine lv_iconst (v := 1) hx hb dX1_breakOff_1 (by decide) ?_
  refine cq_puti (v := 1) (ci := 9) (k := 4) (f := 30) hX hC rfl in_X9 (by decide) wd_875 (fun _ h9 => h9) tyX9 tyX9_ok nmX9 rfl rfl rfl (fun _ _ => Nat.le_of_ble_eq_true rfl) (fun _ _ _ => rfl) dX1_breakOff_2 h.1 h.2 (fun S1 H locs hC h => ?_)
  refine lv_aload_n hx hb dX1_breakOff_5 rfl (lv_at hl 0 rfl) ?_
  refine lv_aload_n hx hb dX1_breakOff_6 rfl (lv_at hl 1 rfl) ?_
  refine cq_geti (ci := 9) (k := 0) (f := 28) hX hC rfl in_X9 (by decide) wd_864 (fun _ h9 => h9) (fun _ _ => rfl) dX1_breakOff_7 h (fun z2 h => ?_)
  refine lv_iconst (v := -1) hx hb dX1_breakOff_10 (by decide) ?_
  refine lq_ixor hx hb dX1_breakOff_11 h (fun z3 h => ?_)
  refine kv_callv [.int z3] (rest := []) (ci := 1) rfl hX hC h.1 (kt_X1_plan l S1 t0 z3 _ h.2 E _) (cw_X1_198 hts (by omega) (by omega)) rfl hl.1 (Nat.le_of_ble_eq_true rfl) ⟨Nat.zero_le _, Nat.zero_le _⟩ dX1_breakOff_12 (fun S4 H locs hC h => ?_)
  refine lv_aload_n hx hb dX1_breakOff_15 rfl (lv_at hl 0 rfl) ?_
  refine lv_aload_n hx hb dX1_breakOff_16 rfl (lv_at hl 1 rfl) ?_
  refine lv_iconst (v := 1) hx hb dX1_breakOff_17 (by decide) ?_
  refine kv_callv [.ref a0, .int 1] (rest := []) (ci := 1) rfl hX hC h.1 (kt_X1_letGo l S4 t0 a0 1 _ h.2 E _) (cw_X1_204 hts (by omega) (by omega)) rfl hl.1 (Nat.le_of_ble_eq_true rfl) ⟨Nat.zero_le _, Nat.zero_le _⟩ dX1_breakOff_18 (fun S5 H locs hC h => ?_)
  refine lv_aload_n hx hb dX1_breakOff_21 rfl (lv_at hl 1 rfl) ?_
  refine lv_iconst (v := 2) hx hb dX1_breakOff_22 (by decide) ?_
  refine cq_puti (v := 2) (ci := 9) (k := 18) (f := 38) hX hC rfl in_X9 (by decide) wd_905 (fun _ h9 => h9) tyX9 tyX9_ok nmX9 rfl rfl rfl (fun _ _ => Nat.le_of_ble_eq_true rfl) (fun _ _ _ => rfl) dX1_breakOff_23 h.1 h.2 (fun S6 H locs hC h => ?_)
  refine lv_aload_n hx hb dX1_breakOff_26 rfl (lv_at hl 1 rfl) ?_
  refine lv_iload_n hx hb dX1_breakOff_27 rfl (lv_at hl 2 rfl) ?_
  refine cq_puti (v := a1) (ci := 9) (k := 19) (f := 39) hX hC rfl in_X9 (by decide) wd_907 (fun _ h9 => h9) tyX9 tyX9_ok nmX9 rfl rfl rfl (fun _ _ => Nat.le_of_ble_eq_true rfl) (fun _ _ _ => rfl) dX1_breakOff_28 h.1 h.2 (fun S7 H locs hC h => ?_)
  refine lv_aload_n hx hb dX1_breakOff_31 rfl (lv_at hl 0 rfl) ?_
  refine kv_callv [] (rest := []) (ci := 1) rfl hX hC h.1 (kt_X1_work l S7 t0 _ h.2 E _) (cw_X1_190 hts (by omega) (by omega)) rfl hl.1 (Nat.le_of_ble_eq_true rfl) ⟨Nat.zero_le _, Nat.zero_le _⟩ dX1_breakOff_32 (fun S8 H locs hC h => ?_)
  exact hret _ _ _ _ _ hC h dX1_breakOff_35
def wp_X1_end (t0 : Nat) (a0 : Nat) (S : kS) (K : kS → Prop) : Prop := hasO S t0 1 ∧ wp_X1_letGo t0 a0 1 S (fun (S1 : kS) => hasO S1 t0 1 ∧ wp_X1_work t0 S1 (fun (S2 : kS) => hasO S2 t0 1 ∧ wp_X1_close t0 a0 S2 (fun (S3 : kS) => hasO S3 t0 1 ∧ wp_X1_tellParent t0 a0 S3 (fun (S4 : kS) => hasO S4 t0 1 ∧ wp_X1_work t0 S4 (fun (S5 : kS) => K S5)))))
set_option maxHeartbeats 4000000 in
set_option maxRecDepth 100000 in
theorem kt_X1_end (l : Launch) (S : kS) (t0 : Nat) (a0 : Nat) (K : kS → Prop) (h : wp_X1_end t0 a0 S K) : kMv l yX1_end cX1_end 2 none 5 110 [.ref t0, .ref a0] S K := by
  refine kv_ofv (own := RX1) (by decide) rfl (Nat.le_of_ble_eq_true rfl) ?_
  intro E p e R s m args below meth c A ls Q hRf hRl hX hC hl hret
  have hx := hX.1.1
  have hb := hX.1.2.1
  have hown := hX.1.2.2.2.1
  have hts := hX.1.2.2.2.2
  have hl : lv_has ls 2 [(0, .ref t0), (1, .ref a0)] := hl
  unfold wp_X1_end at h
  refine lv_aload_n hx hb dX1_end_0 rfl (lv_at hl 0 rfl) ?_
  refine lv_aload_n hx hb dX1_end_1 rfl (lv_at hl 1 rfl) ?_
  refine lv_iconst (v := 1) hx hb dX1_end_2 (by decide) ?_
  refine kv_callv [.ref a0, .int 1] (rest := []) (ci := 1) rfl hX hC h.1 (kt_X1_letGo l S t0 a0 1 _ h.2 E _) (cw_X1_204 hts (by omega) (by omega)) rfl hl.1 (Nat.le_of_ble_eq_true rfl) ⟨Nat.zero_le _, Nat.zero_le _⟩ dX1_end_3 (fun S1 H locs hC h => ?_)
  refine lv_aload_n hx hb dX1_end_6 rfl (lv_at hl 0 rfl) ?_
  refine kv_callv [] (rest := []) (ci := 1) rfl hX hC h.1 (kt_X1_work l S1 t0 _ h.2 E _) (cw_X1_190 hts (by omega) (by omega)) rfl hl.1 (Nat.le_of_ble_eq_true rfl) ⟨Nat.zero_le _, Nat.zero_le _⟩ dX1_end_7 (fun S2 H locs hC h => ?_)
  refine lv_aload_n hx hb dX1_end_10 rfl (lv_at hl 0 rfl) ?_
  refine lv_aload_n hx hb dX1_end_11 rfl (lv_at hl 1 rfl) ?_
  refine kv_callv [.ref a0] (rest := []) (ci := 1) rfl hX hC h.1 (kt_X1_close l S2 t0 a0 _ h.2 E _) (cw_X1_209 hts (by omega) (by omega)) rfl hl.1 (Nat.le_of_ble_eq_true rfl) ⟨Nat.zero_le _, Nat.zero_le _⟩ dX1_end_12 (fun S3 H locs hC h => ?_)
  refine lv_aload_n hx hb dX1_end_15 rfl (lv_at hl 0 rfl) ?_
  refine lv_aload_n hx hb dX1_end_16 rfl (lv_at hl 1 rfl) ?_
  refine kv_callv [.ref a0] (rest := []) (ci := 1) rfl hX hC h.1 (kt_X1_tellParent l S3 t0 a0 _ h.2 E _) (cw_X1_201 hts (by omega) (by omega)) rfl hl.1 (Nat.le_of_ble_eq_true rfl) ⟨Nat.zero_le _, Nat.zero_le _⟩ dX1_end_17 (fun S4 H locs hC h => ?_)
  refine lv_aload_n hx hb dX1_end_20 rfl (lv_at hl 0 rfl) ?_
  refine kv_callv [] (rest := []) (ci := 1) rfl hX hC h.1 (kt_X1_work l S4 t0 _ h.2 E _) (cw_X1_190 hts (by omega) (by omega)) rfl hl.1 (Nat.le_of_ble_eq_true rfl) ⟨Nat.zero_le _, Nat.zero_le _⟩ dX1_end_21 (fun S5 H locs hC h => ?_)
  exact hret _ _ _ _ _ hC h dX1_end_24
def wp_X1_takeBack_5 (K : kS → Prop) (k5 : Nat × Nat × Option Nat × kS → Prop) (x0 : Nat) (x1 : Nat) (x2 : Option Nat) (S : kS) : Prop := ((x2 = none → hasO S x1 9 ∧ ∀ S3 : kS, S3 = cR S 61 x1 none → hasO S3 x1 9 ∧ ∀ S4 : kS, S4 = cR S3 62 x1 none → hasO S4 x1 9 ∧ ∀ S5 : kS, S5 = cR S4 63 x1 none → K S5) ∧ (∀ q2 : Nat, x2 = some q2 → hasO S q2 4 ∧ ∀ z6 : Option Nat, z6 = S.2.1 24 q2 → hasO S x0 1 ∧ ∀ z7 : Option Nat, z7 = S.2.1 11 x0 → hasO S q2 4 ∧ ∀ S8 : kS, S8 = cR S 24 q2 z7 → hasO S8 x0 1 ∧ ∀ S9 : kS, S9 = cR S8 11 x0 (some q2) → k5 (x0, x1, z6, S9)))
def ls_X1_takeBack_5 (K : kS → Prop) (k5 : Nat × Nat × Option Nat × kS → Prop) (u : Nat × Nat × Option Nat × kS) : Prop := wp_X1_takeBack_5 K k5 u.1 u.2.1 u.2.2.1 u.2.2.2
def wp_X1_takeBack (t0 : Nat) (a0 : Nat) (S : kS) (K : kS → Prop) : Prop := hasO S a0 9 ∧ ∀ z1 : Option Nat, z1 = S.2.1 61 a0 → (∃ n9, it (ls_X1_takeBack_5 K) n9 (t0, a0, z1, S))
set_option maxHeartbeats 4000000 in
set_option maxRecDepth 100000 in
theorem kt_X1_takeBack (l : Launch) (S : kS) (t0 : Nat) (a0 : Nat) (K : kS → Prop) (h : wp_X1_takeBack t0 a0 S K) : kMv l yX1_takeBack cX1_takeBack 4 none 0 0 [.ref t0, .ref a0] S K := by
  refine kv_ofv (own := RX1) (by decide) rfl (Nat.le_of_ble_eq_true rfl) ?_
  intro E p e R s m args below meth c A ls Q hRf hRl hX hC hl hret
  have hx := hX.1.1
  have hb := hX.1.2.1
  have hown := hX.1.2.2.2.1
  have hts := hX.1.2.2.2.2
  have cut5 : ∀ (n5 : Nat) (x0 : Nat) (x1 : Nat) (x2 : Option Nat) (S : kS) (H : Heap) (locs : List Loc) (ls : Array Slot), it (ls_X1_takeBack_5 K) n5 (x0, x1, x2, S) → cM E A s.heap S H locs → lv_has ls 4 [(0, .ref x0), (1, .ref x1), (2, va_rf x2)] → W p l e R s m args below meth c H locs 0 0 Q (F0 m 5 ls []) := by
    intro n5
    induction n5 with
    | zero => intro x0 x1 x2 S H locs ls h hC hl; exact h.elim
    | succ n5 ih5 =>
      intro x0 x1 x2 S H locs ls h hC hl
      have h : wp_X1_takeBack_5 K (it (ls_X1_takeBack_5 K) n5) x0 x1 x2 S := h
      unfold wp_X1_takeBack_5 at h
      refine lo_aload_n hx hb dX1_takeBack_5 rfl (lv_at hl 2 rfl) ?_
      rcases x2 with _ | q2
      · have h := h.1 rfl
        refine lv_ifnullN (tgt := 32) hx hb dX1_takeBack_6 (by decide) ?_
        refine lv_aload_n hx hb dX1_takeBack_32 rfl (lv_at hl 1 rfl) ?_
        refine lv_null hx hb dX1_takeBack_33 ?_
        refine cq_putr (v := none) (ci := 9) (k := 14) (f := 61) hX hC rfl in_X9 (by decide) wd_898 (fun _ h9 => h9) tyX9 tyX9_ok nmX9 rfl rfl (fun _ _ => Nat.le_of_ble_eq_true rfl) (fun _ _ _ => rfl) dX1_takeBack_34 h.1 h.2 (fun S3 H locs hC h => ?_)
        refine lv_aload_n hx hb dX1_takeBack_37 rfl (lv_at hl 1 rfl) ?_
        refine lv_null hx hb dX1_takeBack_38 ?_
        refine cq_putr (v := none) (ci := 9) (k := 15) (f := 62) hX hC rfl in_X9 (by decide) wd_899 (fun _ h9 => h9) tyX9 tyX9_ok nmX9 rfl rfl (fun _ _ => Nat.le_of_ble_eq_true rfl) (fun _ _ _ => rfl) dX1_takeBack_39 h.1 h.2 (fun S4 H locs hC h => ?_)
        refine lv_aload_n hx hb dX1_takeBack_42 rfl (lv_at hl 1 rfl) ?_
        refine lv_null hx hb dX1_takeBack_43 ?_
        refine cq_putr (v := none) (ci := 9) (k := 16) (f := 63) hX hC rfl in_X9 (by decide) wd_900 (fun _ h9 => h9) tyX9 tyX9_ok nmX9 rfl rfl (fun _ _ => Nat.le_of_ble_eq_true rfl) (fun _ _ _ => rfl) dX1_takeBack_44 h.1 h.2 (fun S5 H locs hC h => ?_)
        exact hret _ _ _ _ _ hC h dX1_takeBack_47
      · have h := h.2 q2 rfl
        refine lv_ifnull hx hb dX1_takeBack_6 ?_
        refine lv_aload_n hx hb dX1_takeBack_9 rfl (lv_at hl 2 rfl) ?_
        refine cq_getr (ci := 4) (k := 8) (f := 24) hX hC rfl in_X4 (by decide) wd_1077 (fun _ h9 => h9) (fun _ _ => rfl) dX1_takeBack_10 h (fun z6 h => ?_)
        refine lo_astore_n (lv' := [(3, va_rf z6), (0, .ref x0), (1, .ref x1), (2, .ref q2)]) hx hb dX1_takeBack_13 rfl hl (by decide) (by rcases z6 with _ | _ <;> rfl) (fun ls hl => ?_)
        refine lv_aload_n hx hb dX1_takeBack_14 rfl (lv_at hl 3 rfl) ?_
        refine lv_aload_n hx hb dX1_takeBack_15 rfl (lv_at hl 1 rfl) ?_
        refine cq_getr (ci := 1) (k := 14) (f := 11) hX hC rfl in_X1 (by decide) wd_261 (fun _ h9 => h9) (fun _ _ => rfl) dX1_takeBack_16 h (fun z7 h => ?_)
        refine cq_putr (v := z7) (ci := 4) (k := 8) (f := 24) hX hC rfl in_X4 (by decide) wd_1077 (fun _ h9 => h9) tyX4 tyX4_ok nmX4 rfl rfl (fun _ _ => Nat.le_of_ble_eq_true rfl) (fun _ _ _ => rfl) dX1_takeBack_19 h.1 h.2 (fun S8 H locs hC h => ?_)
        refine lv_aload_n hx hb dX1_takeBack_22 rfl (lv_at hl 1 rfl) ?_
        refine lv_aload_n hx hb dX1_takeBack_23 rfl (lv_at hl 3 rfl) ?_
        refine cq_putr (v := (some q2)) (ci := 1) (k := 14) (f := 11) hX hC rfl in_X1 (by decide) wd_261 (fun _ h9 => h9) tyX1 tyX1_ok nmX1 rfl rfl (fun _ _ => Nat.le_of_ble_eq_true rfl) (fun _ _ _ => rfl) dX1_takeBack_24 h.1 h.2 (fun S9 H locs hC h => ?_)
        refine lo_aload_n hx hb dX1_takeBack_27 rfl (lv_at hl 0 rfl) ?_
        refine lo_astore_n (lv' := [(2, va_rf z6), (3, va_rf z6), (0, .ref x0), (1, .ref x1)]) hx hb dX1_takeBack_28 rfl hl (by decide) (by rcases z6 with _ | _ <;> rfl) (fun ls hl => ?_)
        refine lv_goto (tgt := 5) hx hb dX1_takeBack_29 (by decide) ?_
        exact ih5 x0 x1 z6 S9 _ _ _ h hC (lv_sub hl [2, 3, 0] rfl)
  have hl : lv_has ls 4 [(0, .ref t0), (1, .ref a0)] := hl
  unfold wp_X1_takeBack at h
  refine lv_aload_n hx hb dX1_takeBack_0 rfl (lv_at hl 1 rfl) ?_
  refine cq_getr (ci := 9) (k := 14) (f := 61) hX hC rfl in_X9 (by decide) wd_898 (fun _ h9 => h9) (fun _ _ => rfl) dX1_takeBack_1 h (fun z1 h => ?_)
  refine lo_astore_n (lv' := [(2, va_rf z1), (0, .ref t0), (1, .ref a0)]) hx hb dX1_takeBack_4 rfl hl (by decide) (by rcases z1 with _ | _ <;> rfl) (fun ls hl => ?_)
  obtain ⟨n9, h⟩ := h
  exact cut5 n9 t0 a0 z1 S _ _ _ h hC (lv_sub hl [1, 2, 0] rfl)
def wp_X2_clear (t0 : Nat) (S : kS) (K : kS → Prop) : Prop := hasO S t0 2 ∧ ∀ S1 : kS, S1 = cR S 12 t0 none → hasO S1 t0 2 ∧ ∀ S2 : kS, S2 = cR S1 13 t0 none → K S2
set_option maxHeartbeats 4000000 in
set_option maxRecDepth 100000 in
theorem kt_X2_clear (l : Launch) (S : kS) (t0 : Nat) (K : kS → Prop) (h : wp_X2_clear t0 S K) : kMv l yX2_clear cX2_clear 1 none 0 0 [.ref t0] S K := by
  refine kv_ofv (own := RX2) (by decide) rfl (Nat.le_of_ble_eq_true rfl) ?_
  intro E p e R s m args below meth c A ls Q hRf hRl hX hC hl hret
  have hx := hX.1.1
  have hb := hX.1.2.1
  have hown := hX.1.2.2.2.1
  have hts := hX.1.2.2.2.2
  have hl : lv_has ls 1 [(0, .ref t0)] := hl
  unfold wp_X2_clear at h
  refine lv_aload_n hx hb dX2_clear_0 rfl (lv_at hl 0 rfl) ?_
  refine lv_null hx hb dX2_clear_1 ?_
  refine cq_putr (v := none) (ci := 2) (k := 0) (f := 12) hX hC rfl in_X2 (by decide) wd_208 (fun _ h9 => h9) tyX2 tyX2_ok nmX2 rfl rfl (fun _ _ => Nat.le_of_ble_eq_true rfl) (fun _ _ _ => rfl) dX2_clear_2 h.1 h.2 (fun S1 H locs hC h => ?_)
  refine lv_aload_n hx hb dX2_clear_5 rfl (lv_at hl 0 rfl) ?_
  refine lv_null hx hb dX2_clear_6 ?_
  refine cq_putr (v := none) (ci := 2) (k := 1) (f := 13) hX hC rfl in_X2 (by decide) wd_210 (fun _ h9 => h9) tyX2 tyX2_ok nmX2 rfl rfl (fun _ _ => Nat.le_of_ble_eq_true rfl) (fun _ _ _ => rfl) dX2_clear_7 h.1 h.2 (fun S2 H locs hC h => ?_)
  exact hret _ _ _ _ _ hC h dX2_clear_10
def wp_X1_open_53 (K : kS → Prop) (k53 : Nat × Int32 × kS → Prop) (x0 : Nat) (x2 : Int32) (S : kS) : Prop := ((8 ≤ x2 → hasO S x0 1 ∧ ∀ z15 : Option Nat, z15 = S.2.1 8 x0 → ∃ q16 : Nat, z15 = some q16 ∧ hasO S q16 2 ∧ wp_X2_clear q16 S (fun (S17 : kS) => hasO S17 x0 1 ∧ ∀ z18 : Option Nat, z18 = S17.2.1 9 x0 → ∃ q19 : Nat, z18 = some q19 ∧ hasO S17 q19 0 ∧ wp_X0_clear q19 S17 (fun (S20 : kS) => K S20))) ∧ (¬ 8 ≤ x2 → hasO S x0 1 ∧ ∀ z21 : Option Nat, z21 = S.2.1 6 x0 → ∃ q22 : Nat, z21 = some q22 ∧ hasA S q22 8 0 ∧ inR x2 8 ∧ ∀ S23 : kS, S23 = cA S q22 (ix x2) 0 → hasO S23 x0 1 ∧ ∀ z24 : Option Nat, z24 = S23.2.1 7 x0 → ∃ q25 : Nat, z24 = some q25 ∧ hasA S23 q25 8 4 ∧ inR x2 8 ∧ ∀ z26 : Option Nat, z26 = S23.2.2.2.2.1 q25 (ix x2) → ∃ q27 : Nat, z26 = some q27 ∧ hasO S23 q27 2 ∧ wp_X2_clear q27 S23 (fun (S28 : kS) => ∀ z29 : Int32, z29 = x2 + 1 → k53 (x0, z29, S28))))
def ls_X1_open_53 (K : kS → Prop) (k53 : Nat × Int32 × kS → Prop) (u : Nat × Int32 × kS) : Prop := wp_X1_open_53 K k53 u.1 u.2.1 u.2.2
def wp_X1_open_7 (K : kS → Prop) (k7 : Nat × Int32 × kS → Prop) (x0 : Nat) (x2 : Int32) (S : kS) : Prop := hasO S x0 1 ∧ ∀ z2 : Int32, z2 = S.1 1 x0 → ((z2 ≤ x2 → hasO S x0 1 ∧ ∀ S4 : kS, S4 = cI S 1 x0 0 → hasO S4 x0 1 ∧ ∀ S5 : kS, S5 = cI S4 2 x0 0 → hasO S5 x0 1 ∧ ∀ S6 : kS, S6 = cI S5 3 x0 0 → hasO S6 x0 1 ∧ ∀ S7 : kS, S7 = cI S6 4 x0 0 → (∃ n9, it (ls_X1_open_53 K) n9 (x0, 0, S7))) ∧ (¬ z2 ≤ x2 → hasO S x0 1 ∧ ∀ z8 : Option Nat, z8 = S.2.1 3 x0 → ∃ q9 : Nat, z8 = some q9 ∧ hasA S q9 200 2 ∧ inR x2 200 ∧ ∀ z10 : Option Nat, z10 = S.2.2.2.2.1 q9 (ix x2) → ∃ q11 : Nat, z10 = some q11 ∧ hasO S x0 1 ∧ wp_X1_takeBack x0 q11 S (fun (S12 : kS) => ∀ z13 : Int32, z13 = x2 + 1 → k7 (x0, z13, S12))))
def ls_X1_open_7 (K : kS → Prop) (k7 : Nat × Int32 × kS → Prop) (u : Nat × Int32 × kS) : Prop := wp_X1_open_7 K k7 u.1 u.2.1 u.2.2
def wp_X1_open (t0 : Nat) (a0 : Nat) (S : kS) (K : kS → Prop) : Prop := hasO S t0 1 ∧ ∀ S1 : kS, S1 = cR S 2 t0 (some a0) → (∃ n9, it (ls_X1_open_7 K) n9 (t0, 0, S1))
theorem cw_X1_56 {R : Room} {s : State} {args : Array Value} {fr lo : Nat} (hts : ∀ w ∈ tb, w.before args s = true) (h1 : fr + 1 ≤ R.frames) (h2 : 8 + (4 + 11) + lo ≤ R.locals) : CallW R s args RX1 RX1 56 yX1_takeBack cX1_takeBack 4 none (.code yX1_takeBack cX1_takeBack 4 none :: tb) (mRm fr lo) 0 0 1 := cwV 1 hts (gd_V wd_466 wd_467 wd_468 wd_9 wd_469) rfl rfl rfl (by decide +kernel) ⟨h1, h2⟩
theorem cw_X1_69 {R : Room} {s : State} {args : Array Value} {fr lo : Nat} (hts : ∀ w ∈ tb, w.before args s = true) (h1 : fr + 1 ≤ R.frames) (h2 : 8 + (1 + 11) + lo ≤ R.locals) : CallW R s args RX1 RX2 69 yX2_clear cX2_clear 1 none (.code yX2_clear cX2_clear 1 none :: tb) (mRm fr lo) 0 0 0 := cwV 0 hts (gd_V wd_470 wd_471 wd_472 wd_10 wd_473) rfl rfl rfl (by decide +kernel) ⟨h1, h2⟩
theorem cw_X1_72 {R : Room} {s : State} {args : Array Value} {fr lo : Nat} (hts : ∀ w ∈ tb, w.before args s = true) (h1 : fr + 1 ≤ R.frames) (h2 : 8 + (1 + 11) + lo ≤ R.locals) : CallW R s args RX1 RX0 72 yX0_clear cX0_clear 1 none (.code yX0_clear cX0_clear 1 none :: tb) (mRm fr lo) 0 0 0 := cwV 0 hts (gd_V wd_474 wd_475 wd_476 wd_11 wd_477) rfl rfl rfl (by decide +kernel) ⟨h1, h2⟩
set_option maxHeartbeats 4000000 in
set_option maxRecDepth 100000 in
theorem kt_X1_open (l : Launch) (S : kS) (t0 : Nat) (a0 : Nat) (K : kS → Prop) (h : wp_X1_open t0 a0 S K) : kMv l yX1_open cX1_open 3 none 1 23 [.ref t0, .ref a0] S K := by
  refine kv_ofv (own := RX1) (by decide) rfl (Nat.le_of_ble_eq_true rfl) ?_
  intro E p e R s m args below meth c A ls Q hRf hRl hX hC hl hret
  have hx := hX.1.1
  have hb := hX.1.2.1
  have hown := hX.1.2.2.2.1
  have hts := hX.1.2.2.2.2
  have cut53 : ∀ (n53 : Nat) (x0 : Nat) (x2 : Int32) (S : kS) (H : Heap) (locs : List Loc) (ls : Array Slot), it (ls_X1_open_53 K) n53 (x0, x2, S) → cM E A s.heap S H locs → lv_has ls 3 [(0, .ref x0), (2, .int x2)] → W p l e R s m args below meth c H locs 0 0 Q (F0 m 53 ls []) := by
    intro n53
    induction n53 with
    | zero => intro x0 x2 S H locs ls h hC hl; exact h.elim
    | succ n53 ih53 =>
      intro x0 x2 S H locs ls h hC hl
      have h : wp_X1_open_53 K (it (ls_X1_open_53 K) n53) x0 x2 S := h
      unfold wp_X1_open_53 at h
      refine lv_iload_n hx hb dX1_open_53 rfl (lv_at hl 1 rfl) ?_
      refine lv_bipush (v := 8) hx hb dX1_open_54 (by decide) ?_
      refine lv_icmp_ge (tgt := 81) hx hb dX1_open_56 (by decide) (fun c14 => ?_) (fun c14 => ?_)
      · have h := h.1 c14
        refine lv_aload_n hx hb dX1_open_81 rfl (lv_at hl 0 rfl) ?_
        refine cq_getr (ci := 1) (k := 10) (f := 8) hX hC rfl in_X1 (by decide) wd_256 (fun _ h9 => h9) (fun _ _ => rfl) dX1_open_82 h (fun z15 h => ?_)
        obtain ⟨q16, e9, hh⟩ := h
        subst e9
        have h := hh
        clear hh
        refine kv_callv [] (rest := []) (ci := 2) rfl hX hC h.1 (kt_X2_clear l S q16 _ h.2 E _) (cw_X1_69 hts (by omega) (by omega)) rfl hl.1 (Nat.le_of_ble_eq_true rfl) ⟨Nat.zero_le _, Nat.zero_le _⟩ dX1_open_85 (fun S17 H locs hC h => ?_)
        refine lv_aload_n hx hb dX1_open_88 rfl (lv_at hl 0 rfl) ?_
        refine cq_getr (ci := 1) (k := 11) (f := 9) hX hC rfl in_X1 (by decide) wd_257 (fun _ h9 => h9) (fun _ _ => rfl) dX1_open_89 h (fun z18 h => ?_)
        obtain ⟨q19, e9, hh⟩ := h
        subst e9
        have h := hh
        clear hh
        refine kv_callv [] (rest := []) (ci := 0) rfl hX hC h.1 (kt_X0_clear l S17 q19 _ h.2 E _) (cw_X1_72 hts (by omega) (by omega)) rfl hl.1 (Nat.le_of_ble_eq_true rfl) ⟨Nat.zero_le _, Nat.zero_le _⟩ dX1_open_92 (fun S20 H locs hC h => ?_)
        exact hret _ _ _ _ _ hC h dX1_open_95
      · have h := h.2 c14
        refine lv_aload_n hx hb dX1_open_59 rfl (lv_at hl 0 rfl) ?_
        refine cq_getr (ci := 1) (k := 8) (f := 6) hX hC rfl in_X1 (by decide) wd_250 (fun _ h9 => h9) (fun _ _ => rfl) dX1_open_60 h (fun z21 h => ?_)
        refine lv_iload_n hx hb dX1_open_63 rfl (lv_at hl 1 rfl) ?_
        refine lv_iconst (v := 0) hx hb dX1_open_64 (by decide) ?_
        obtain ⟨q22, e9, hh⟩ := h
        subst e9
        have h := hh
        clear hh
        refine cq_ist hX hC dX1_open_65 h.1 h.2.1 h.2.2 (fun S23 H locs hC h => ?_)
        refine lv_aload_n hx hb dX1_open_66 rfl (lv_at hl 0 rfl) ?_
        refine cq_getr (ci := 1) (k := 9) (f := 7) hX hC rfl in_X1 (by decide) wd_253 (fun _ h9 => h9) (fun _ _ => rfl) dX1_open_67 h (fun z24 h => ?_)
        refine lv_iload_n hx hb dX1_open_70 rfl (lv_at hl 1 rfl) ?_
        obtain ⟨q25, e9, hh⟩ := h
        subst e9
        have h := hh
        clear hh
        refine cq_qld4 hX hC dX1_open_71 h (fun z26 h => ?_)
        obtain ⟨q27, e9, hh⟩ := h
        subst e9
        have h := hh
        clear hh
        refine kv_callv [] (rest := []) (ci := 2) rfl hX hC h.1 (kt_X2_clear l S23 q27 _ h.2 E _) (cw_X1_69 hts (by omega) (by omega)) rfl hl.1 (Nat.le_of_ble_eq_true rfl) ⟨Nat.zero_le _, Nat.zero_le _⟩ dX1_open_72 (fun S28 H locs hC h => ?_)
        obtain ⟨z29, ez29⟩ : ∃ y : Int32, y = x2 + 1 := ⟨_, rfl⟩
        have h := h z29 ez29
        refine lv_iinc (v := z29) (lv' := [(2, .int z29), (0, .ref x0)]) hx hb dX1_open_75 hl (k := 1) rfl (by rw [ez29]; rfl) (by decide) rfl (fun ls hl => ?_)
        refine lv_goto (tgt := 53) hx hb dX1_open_78 (by decide) ?_
        exact ih53 x0 z29 S28 _ _ _ h hC (lv_sub hl [1, 0] rfl)
  have cut7 : ∀ (n7 : Nat) (x0 : Nat) (x2 : Int32) (S : kS) (H : Heap) (locs : List Loc) (ls : Array Slot), it (ls_X1_open_7 K) n7 (x0, x2, S) → cM E A s.heap S H locs → lv_has ls 3 [(0, .ref x0), (2, .int x2)] → W p l e R s m args below meth c H locs 0 0 Q (F0 m 7 ls []) := by
    intro n7
    induction n7 with
    | zero => intro x0 x2 S H locs ls h hC hl; exact h.elim
    | succ n7 ih7 =>
      intro x0 x2 S H locs ls h hC hl
      have h : wp_X1_open_7 K (it (ls_X1_open_7 K) n7) x0 x2 S := h
      unfold wp_X1_open_7 at h
      refine lv_iload_n hx hb dX1_open_7 rfl (lv_at hl 1 rfl) ?_
      refine lv_aload_n hx hb dX1_open_8 rfl (lv_at hl 0 rfl) ?_
      refine cq_geti (ci := 1) (k := 2) (f := 1) hX hC rfl in_X1 (by decide) wd_237 (fun _ h9 => h9) (fun _ _ => rfl) dX1_open_9 h (fun z2 h => ?_)
      refine lv_icmp_ge (tgt := 31) hx hb dX1_open_12 (by decide) (fun c3 => ?_) (fun c3 => ?_)
      · have h := h.1 c3
        refine lv_aload_n hx hb dX1_open_31 rfl (lv_at hl 0 rfl) ?_
        refine lv_iconst (v := 0) hx hb dX1_open_32 (by decide) ?_
        refine cq_puti (v := 0) (ci := 1) (k := 2) (f := 1) hX hC rfl in_X1 (by decide) wd_237 (fun _ h9 => h9) tyX1 tyX1_ok nmX1 rfl rfl rfl (fun _ _ => Nat.le_of_ble_eq_true rfl) (fun _ _ _ => rfl) dX1_open_33 h.1 h.2 (fun S4 H locs hC h => ?_)
        refine lv_aload_n hx hb dX1_open_36 rfl (lv_at hl 0 rfl) ?_
        refine lv_iconst (v := 0) hx hb dX1_open_37 (by decide) ?_
        refine cq_puti (v := 0) (ci := 1) (k := 3) (f := 2) hX hC rfl in_X1 (by decide) wd_239 (fun _ h9 => h9) tyX1 tyX1_ok nmX1 rfl rfl rfl (fun _ _ => Nat.le_of_ble_eq_true rfl) (fun _ _ _ => rfl) dX1_open_38 h.1 h.2 (fun S5 H locs hC h => ?_)
        refine lv_aload_n hx hb dX1_open_41 rfl (lv_at hl 0 rfl) ?_
        refine lv_iconst (v := 0) hx hb dX1_open_42 (by decide) ?_
        refine cq_puti (v := 0) (ci := 1) (k := 5) (f := 3) hX hC rfl in_X1 (by decide) wd_243 (fun _ h9 => h9) tyX1 tyX1_ok nmX1 rfl rfl rfl (fun _ _ => Nat.le_of_ble_eq_true rfl) (fun _ _ _ => rfl) dX1_open_43 h.1 h.2 (fun S6 H locs hC h => ?_)
        refine lv_aload_n hx hb dX1_open_46 rfl (lv_at hl 0 rfl) ?_
        refine lv_iconst (v := 0) hx hb dX1_open_47 (by decide) ?_
        refine cq_puti (v := 0) (ci := 1) (k := 6) (f := 4) hX hC rfl in_X1 (by decide) wd_245 (fun _ h9 => h9) tyX1 tyX1_ok nmX1 rfl rfl rfl (fun _ _ => Nat.le_of_ble_eq_true rfl) (fun _ _ _ => rfl) dX1_open_48 h.1 h.2 (fun S7 H locs hC h => ?_)
        refine lv_iconst (v := 0) hx hb dX1_open_51 (by decide) ?_
        refine lv_istore_n (lv' := [(2, .int 0), (0, .ref x0)]) hx hb dX1_open_52 rfl hl (by decide) rfl (fun ls hl => ?_)
        obtain ⟨n9, h⟩ := h
        exact cut53 n9 x0 0 S7 _ _ _ h hC (lv_sub hl [1, 0] rfl)
      · have h := h.2 c3
        refine lv_aload_n hx hb dX1_open_15 rfl (lv_at hl 0 rfl) ?_
        refine lv_aload_n hx hb dX1_open_16 rfl (lv_at hl 0 rfl) ?_
        refine cq_getr (ci := 1) (k := 1) (f := 3) hX hC rfl in_X1 (by decide) wd_235 (fun _ h9 => h9) (fun _ _ => rfl) dX1_open_17 h (fun z8 h => ?_)
        refine lv_iload_n hx hb dX1_open_20 rfl (lv_at hl 1 rfl) ?_
        obtain ⟨q9, e9, hh⟩ := h
        subst e9
        have h := hh
        clear hh
        refine cq_qld2 hX hC dX1_open_21 h (fun z10 h => ?_)
        obtain ⟨q11, e9, hh⟩ := h
        subst e9
        have h := hh
        clear hh
        refine kv_callv [.ref q11] (rest := []) (ci := 1) rfl hX hC h.1 (kt_X1_takeBack l S x0 q11 _ h.2 E _) (cw_X1_56 hts (by omega) (by omega)) rfl hl.1 (Nat.le_of_ble_eq_true rfl) ⟨Nat.zero_le _, Nat.zero_le _⟩ dX1_open_22 (fun S12 H locs hC h => ?_)
        obtain ⟨z13, ez13⟩ : ∃ y : Int32, y = x2 + 1 := ⟨_, rfl⟩
        have h := h z13 ez13
        refine lv_iinc (v := z13) (lv' := [(2, .int z13), (0, .ref x0)]) hx hb dX1_open_25 hl (k := 1) rfl (by rw [ez13]; rfl) (by decide) rfl (fun ls hl => ?_)
        refine lv_goto (tgt := 7) hx hb dX1_open_28 (by decide) ?_
        exact ih7 x0 z13 S12 _ _ _ h hC (lv_sub hl [1, 0] rfl)
  have hl : lv_has ls 3 [(0, .ref t0), (1, .ref a0)] := hl
  unfold wp_X1_open at h
  refine lv_aload_n hx hb dX1_open_0 rfl (lv_at hl 0 rfl) ?_
  refine lv_aload_n hx hb dX1_open_1 rfl (lv_at hl 1 rfl) ?_
  refine cq_putr (v := (some a0)) (ci := 1) (k := 0) (f := 2) hX hC rfl in_X1 (by decide) wd_233 (fun _ h9 => h9) tyX1 tyX1_ok nmX1 rfl rfl (fun _ _ => Nat.le_of_ble_eq_true rfl) (fun _ _ _ => rfl) dX1_open_2 h.1 h.2 (fun S1 H locs hC h => ?_)
  refine lv_iconst (v := 0) hx hb dX1_open_5 (by decide) ?_
  refine lv_istore_n (lv' := [(2, .int 0), (0, .ref t0), (1, .ref a0)]) hx hb dX1_open_6 rfl hl (by decide) rfl (fun ls hl => ?_)
  obtain ⟨n9, h⟩ := h
  exact cut7 n9 t0 0 S1 _ _ _ h hC (lv_sub hl [1, 0] rfl)
def wp_X2_add_76 (K : kS → Prop) (x0 : Nat) (x1 : Nat) (x3 : Option Nat) (S : kS) : Prop := ((x3 = none → hasO S x0 2 ∧ ∀ S17 : kS, S17 = cR S 13 x0 (some x1) → K S17) ∧ (∀ q16 : Nat, x3 = some q16 → hasO S q16 4 ∧ ∀ S18 : kS, S18 = cR S 26 q16 (some x1) → K S18))
def wp_X2_add_43 (K : kS → Prop) (x0 : Nat) (x1 : Nat) (x2 : Option Nat) (y0 : Option Nat) (S : kS) : Prop := hasO S x1 4 ∧ ∀ S10 : kS, S10 = cR S 25 x1 (some x0) → hasO S10 x1 4 ∧ ∀ S11 : kS, S11 = cR S10 26 x1 x2 → hasO S11 x1 4 ∧ ∀ S12 : kS, S12 = cR S11 27 x1 y0 → ((x2 = none → hasO S12 x0 2 ∧ ∀ S14 : kS, S14 = cR S12 12 x0 (some x1) → wp_X2_add_76 K x0 x1 y0 S14) ∧ (∀ q13 : Nat, x2 = some q13 → hasO S12 q13 4 ∧ ∀ S15 : kS, S15 = cR S12 27 q13 (some x1) → wp_X2_add_76 K x0 x1 y0 S15))
def wp_X2_add_28 (K : kS → Prop) (x0 : Nat) (x1 : Nat) (x2 : Option Nat) (S : kS) : Prop := ((x2 = none → hasO S x0 2 ∧ ∀ z8 : Option Nat, z8 = S.2.1 12 x0 → wp_X2_add_43 K x0 x1 none z8 S) ∧ (∀ q7 : Nat, x2 = some q7 → hasO S q7 4 ∧ ∀ z9 : Option Nat, z9 = S.2.1 27 q7 → wp_X2_add_43 K x0 x1 (some q7) z9 S))
def wp_X2_add_5 (K : kS → Prop) (k5 : Nat × Nat × Option Nat × kS → Prop) (x0 : Nat) (x1 : Nat) (x2 : Option Nat) (S : kS) : Prop := ((x2 = none → wp_X2_add_28 K x0 x1 none S) ∧ (∀ q2 : Nat, x2 = some q2 → hasO S q2 4 ∧ ∀ z3 : Int32, z3 = S.1 16 q2 → hasO S x1 4 ∧ ∀ z4 : Int32, z4 = S.1 16 x1 → ((z3 ≤ z4 → wp_X2_add_28 K x0 x1 (some q2) S) ∧ (¬ z3 ≤ z4 → hasO S q2 4 ∧ ∀ z6 : Option Nat, z6 = S.2.1 26 q2 → k5 (x0, x1, z6, S)))))
def ls_X2_add_5 (K : kS → Prop) (k5 : Nat × Nat × Option Nat × kS → Prop) (u : Nat × Nat × Option Nat × kS) : Prop := wp_X2_add_5 K k5 u.1 u.2.1 u.2.2.1 u.2.2.2
def wp_X2_add (t0 : Nat) (a0 : Nat) (S : kS) (K : kS → Prop) : Prop := hasO S t0 2 ∧ ∀ z1 : Option Nat, z1 = S.2.1 13 t0 → (∃ n9, it (ls_X2_add_5 K) n9 (t0, a0, z1, S))
set_option maxHeartbeats 4000000 in
set_option maxRecDepth 100000 in
theorem kt_X2_add (l : Launch) (S : kS) (t0 : Nat) (a0 : Nat) (K : kS → Prop) (h : wp_X2_add t0 a0 S K) : kMv l yX2_add cX2_add 4 none 0 0 [.ref t0, .ref a0] S K := by
  refine kv_ofv (own := RX2) (by decide) rfl (Nat.le_of_ble_eq_true rfl) ?_
  intro E p e R s m args below meth c A ls Q hRf hRl hX hC hl hret
  have hx := hX.1.1
  have hb := hX.1.2.1
  have hown := hX.1.2.2.2.1
  have hts := hX.1.2.2.2.2
  have cut76 : ∀ (x0 : Nat) (x1 : Nat) (x3 : Option Nat) (S : kS) (H : Heap) (locs : List Loc) (ls : Array Slot), wp_X2_add_76 K x0 x1 x3 S → cM E A s.heap S H locs → lv_has ls 4 [(0, .ref x0), (1, .ref x1), (3, va_rf x3)] → W p l e R s m args below meth c H locs 0 0 Q (F0 m 76 ls []) := by
    intro x0 x1 x3 S H locs ls h hC hl
    unfold wp_X2_add_76 at h
    refine lo_aload_n hx hb dX2_add_76 rfl (lv_at hl 2 rfl) ?_
    rcases x3 with _ | q16
    · have h := h.1 rfl
      refine lv_ifnonnullN hx hb dX2_add_77 ?_
      refine lv_aload_n hx hb dX2_add_80 rfl (lv_at hl 0 rfl) ?_
      refine lv_aload_n hx hb dX2_add_81 rfl (lv_at hl 1 rfl) ?_
      refine cq_putr (v := (some x1)) (ci := 2) (k := 1) (f := 13) hX hC rfl in_X2 (by decide) wd_210 (fun _ h9 => h9) tyX2 tyX2_ok nmX2 rfl rfl (fun _ _ => Nat.le_of_ble_eq_true rfl) (fun _ _ _ => rfl) dX2_add_82 h.1 h.2 (fun S17 H locs hC h => ?_)
      refine lv_goto (tgt := 93) hx hb dX2_add_85 (by decide) ?_
      exact hret _ _ _ _ _ hC h dX2_add_93
    · have h := h.2 q16 rfl
      refine lv_ifnonnull (tgt := 88) hx hb dX2_add_77 (by decide) ?_
      refine lv_aload_n hx hb dX2_add_88 rfl (lv_at hl 2 rfl) ?_
      refine lv_aload_n hx hb dX2_add_89 rfl (lv_at hl 1 rfl) ?_
      refine cq_putr (v := (some x1)) (ci := 4) (k := 10) (f := 26) hX hC rfl in_X4 (by decide) wd_1080 (fun _ h9 => h9) tyX4 tyX4_ok nmX4 rfl rfl (fun _ _ => Nat.le_of_ble_eq_true rfl) (fun _ _ _ => rfl) dX2_add_90 h.1 h.2 (fun S18 H locs hC h => ?_)
      exact hret _ _ _ _ _ hC h dX2_add_93
  have cut43 : ∀ (x0 : Nat) (x1 : Nat) (x2 : Option Nat) (y0 : Option Nat) (S : kS) (H : Heap) (locs : List Loc) (ls : Array Slot), wp_X2_add_43 K x0 x1 x2 y0 S → cM E A s.heap S H locs → lv_has ls 4 [(0, .ref x0), (1, .ref x1), (2, va_rf x2)] → W p l e R s m args below meth c H locs 0 0 Q (F0 m 43 ls [va_rf y0]) := by
    intro x0 x1 x2 y0 S H locs ls h hC hl
    unfold wp_X2_add_43 at h
    refine lo_astore_n (lv' := [(3, va_rf y0), (0, .ref x0), (1, .ref x1), (2, va_rf x2)]) hx hb dX2_add_43 rfl hl (by decide) (by rcases x2 with _ | _ <;> rcases y0 with _ | _ <;> rfl) (fun ls hl => ?_)
    refine lv_aload_n hx hb dX2_add_44 rfl (lv_at hl 2 rfl) ?_
    refine lv_aload_n hx hb dX2_add_45 rfl (lv_at hl 1 rfl) ?_
    refine cq_putr (v := (some x0)) (ci := 4) (k := 9) (f := 25) hX hC rfl in_X4 (by decide) wd_1078 (fun _ h9 => h9) tyX4 tyX4_ok nmX4 rfl rfl (fun _ _ => Nat.le_of_ble_eq_true rfl) (fun _ _ _ => rfl) dX2_add_46 h.1 h.2 (fun S10 H locs hC h => ?_)
    refine lv_aload_n hx hb dX2_add_49 rfl (lv_at hl 2 rfl) ?_
    refine lo_aload_n hx hb dX2_add_50 rfl (lv_at hl 3 rfl) ?_
    refine cq_putr (v := x2) (ci := 4) (k := 10) (f := 26) hX hC rfl in_X4 (by decide) wd_1080 (fun _ h9 => h9) tyX4 tyX4_ok nmX4 rfl rfl (fun _ _ => Nat.le_of_ble_eq_true rfl) (fun _ _ _ => rfl) dX2_add_51 h.1 h.2 (fun S11 H locs hC h => ?_)
    refine lv_aload_n hx hb dX2_add_54 rfl (lv_at hl 2 rfl) ?_
    refine lo_aload_n hx hb dX2_add_55 rfl (lv_at hl 0 rfl) ?_
    refine cq_putr (v := y0) (ci := 4) (k := 11) (f := 27) hX hC rfl in_X4 (by decide) wd_1082 (fun _ h9 => h9) tyX4 tyX4_ok nmX4 rfl rfl (fun _ _ => Nat.le_of_ble_eq_true rfl) (fun _ _ _ => rfl) dX2_add_56 h.1 h.2 (fun S12 H locs hC h => ?_)
    refine lo_aload_n hx hb dX2_add_59 rfl (lv_at hl 3 rfl) ?_
    rcases x2 with _ | q13
    · have h := h.1 rfl
      refine lv_ifnonnullN hx hb dX2_add_60 ?_
      refine lv_aload_n hx hb dX2_add_63 rfl (lv_at hl 1 rfl) ?_
      refine lv_aload_n hx hb dX2_add_64 rfl (lv_at hl 2 rfl) ?_
      refine cq_putr (v := (some x1)) (ci := 2) (k := 0) (f := 12) hX hC rfl in_X2 (by decide) wd_208 (fun _ h9 => h9) tyX2 tyX2_ok nmX2 rfl rfl (fun _ _ => Nat.le_of_ble_eq_true rfl) (fun _ _ _ => rfl) dX2_add_65 h.1 h.2 (fun S14 H locs hC h => ?_)
      refine lv_goto (tgt := 76) hx hb dX2_add_68 (by decide) ?_
      exact cut76 x0 x1 y0 S14 _ _ _ h hC (lv_sub hl [1, 2, 0] rfl)
    · have h := h.2 q13 rfl
      refine lv_ifnonnull (tgt := 71) hx hb dX2_add_60 (by decide) ?_
      refine lv_aload_n hx hb dX2_add_71 rfl (lv_at hl 3 rfl) ?_
      refine lv_aload_n hx hb dX2_add_72 rfl (lv_at hl 2 rfl) ?_
      refine cq_putr (v := (some x1)) (ci := 4) (k := 11) (f := 27) hX hC rfl in_X4 (by decide) wd_1082 (fun _ h9 => h9) tyX4 tyX4_ok nmX4 rfl rfl (fun _ _ => Nat.le_of_ble_eq_true rfl) (fun _ _ _ => rfl) dX2_add_73 h.1 h.2 (fun S15 H locs hC h => ?_)
      exact cut76 x0 x1 y0 S15 _ _ _ h hC (lv_sub hl [1, 2, 0] rfl)
  have cut28 : ∀ (x0 : Nat) (x1 : Nat) (x2 : Option Nat) (S : kS) (H : Heap) (locs : List Loc) (ls : Array Slot), wp_X2_add_28 K x0 x1 x2 S → cM E A s.heap S H locs → lv_has ls 4 [(0, .ref x0), (1, .ref x1), (2, va_rf x2)] → W p l e R s m args below meth c H locs 0 0 Q (F0 m 28 ls []) := by
    intro x0 x1 x2 S H locs ls h hC hl
    unfold wp_X2_add_28 at h
    refine lo_aload_n hx hb dX2_add_28 rfl (lv_at hl 2 rfl) ?_
    rcases x2 with _ | q7
    · have h := h.1 rfl
      refine lv_ifnonnullN hx hb dX2_add_29 ?_
      refine lv_aload_n hx hb dX2_add_32 rfl (lv_at hl 0 rfl) ?_
      refine cq_getr (ci := 2) (k := 0) (f := 12) hX hC rfl in_X2 (by decide) wd_208 (fun _ h9 => h9) (fun _ _ => rfl) dX2_add_33 h (fun z8 h => ?_)
      refine lv_goto (tgt := 43) hx hb dX2_add_36 (by decide) ?_
      exact cut43 x0 x1 none z8 S _ _ _ h hC (lv_sub hl [0, 1, 2] rfl)
    · have h := h.2 q7 rfl
      refine lv_ifnonnull (tgt := 39) hx hb dX2_add_29 (by decide) ?_
      refine lv_aload_n hx hb dX2_add_39 rfl (lv_at hl 2 rfl) ?_
      refine cq_getr (ci := 4) (k := 11) (f := 27) hX hC rfl in_X4 (by decide) wd_1082 (fun _ h9 => h9) (fun _ _ => rfl) dX2_add_40 h (fun z9 h => ?_)
      exact cut43 x0 x1 (some q7) z9 S _ _ _ h hC (lv_sub hl [0, 1, 2] rfl)
  have cut5 : ∀ (n5 : Nat) (x0 : Nat) (x1 : Nat) (x2 : Option Nat) (S : kS) (H : Heap) (locs : List Loc) (ls : Array Slot), it (ls_X2_add_5 K) n5 (x0, x1, x2, S) → cM E A s.heap S H locs → lv_has ls 4 [(0, .ref x0), (1, .ref x1), (2, va_rf x2)] → W p l e R s m args below meth c H locs 0 0 Q (F0 m 5 ls []) := by
    intro n5
    induction n5 with
    | zero => intro x0 x1 x2 S H locs ls h hC hl; exact h.elim
    | succ n5 ih5 =>
      intro x0 x1 x2 S H locs ls h hC hl
      have h : wp_X2_add_5 K (it (ls_X2_add_5 K) n5) x0 x1 x2 S := h
      unfold wp_X2_add_5 at h
      refine lo_aload_n hx hb dX2_add_5 rfl (lv_at hl 2 rfl) ?_
      rcases x2 with _ | q2
      · have h := h.1 rfl
        refine lv_ifnullN (tgt := 28) hx hb dX2_add_6 (by decide) ?_
        exact cut28 x0 x1 none S _ _ _ h hC (lv_sub hl [0, 1, 2] rfl)
      · have h := h.2 q2 rfl
        refine lv_ifnull hx hb dX2_add_6 ?_
        refine lv_aload_n hx hb dX2_add_9 rfl (lv_at hl 2 rfl) ?_
        refine cq_geti (ci := 4) (k := 5) (f := 16) hX hC rfl in_X4 (by decide) wd_1070 (fun _ h9 => h9) (fun _ _ => rfl) dX2_add_10 h (fun z3 h => ?_)
        refine lv_aload_n hx hb dX2_add_13 rfl (lv_at hl 1 rfl) ?_
        refine cq_geti (ci := 4) (k := 5) (f := 16) hX hC rfl in_X4 (by decide) wd_1070 (fun _ h9 => h9) (fun _ _ => rfl) dX2_add_14 h (fun z4 h => ?_)
        refine lv_icmp_le (tgt := 28) hx hb dX2_add_17 (by decide) (fun c5 => ?_) (fun c5 => ?_)
        · have h := h.1 c5
          exact cut28 x0 x1 (some q2) S _ _ _ h hC (lv_sub hl [0, 1, 2] rfl)
        · have h := h.2 c5
          refine lv_aload_n hx hb dX2_add_20 rfl (lv_at hl 2 rfl) ?_
          refine cq_getr (ci := 4) (k := 10) (f := 26) hX hC rfl in_X4 (by decide) wd_1080 (fun _ h9 => h9) (fun _ _ => rfl) dX2_add_21 h (fun z6 h => ?_)
          refine lo_astore_n (lv' := [(2, va_rf z6), (0, .ref x0), (1, .ref x1)]) hx hb dX2_add_24 rfl hl (by decide) (by rcases z6 with _ | _ <;> rfl) (fun ls hl => ?_)
          refine lv_goto (tgt := 5) hx hb dX2_add_25 (by decide) ?_
          exact ih5 x0 x1 z6 S _ _ _ h hC (lv_sub hl [1, 2, 0] rfl)
  have hl : lv_has ls 4 [(0, .ref t0), (1, .ref a0)] := hl
  unfold wp_X2_add at h
  refine lv_aload_n hx hb dX2_add_0 rfl (lv_at hl 0 rfl) ?_
  refine cq_getr (ci := 2) (k := 1) (f := 13) hX hC rfl in_X2 (by decide) wd_210 (fun _ h9 => h9) (fun _ _ => rfl) dX2_add_1 h (fun z1 h => ?_)
  refine lo_astore_n (lv' := [(2, va_rf z1), (0, .ref t0), (1, .ref a0)]) hx hb dX2_add_4 rfl hl (by decide) (by rcases z1 with _ | _ <;> rfl) (fun ls hl => ?_)
  obtain ⟨n9, h⟩ := h
  exact cut5 n9 t0 a0 z1 S _ _ _ h hC (lv_sub hl [1, 2, 0] rfl)
def wp_X1_setAlarm_23 (K : kS → Prop) (x0 : Nat) (x1 : Nat) (y0 : Nat) (y1 : Int32) (S : kS) : Prop := hasO S y0 4 ∧ ∀ S6 : kS, S6 = cI S 16 y0 y1 → hasO S6 x0 1 ∧ ∀ z7 : Option Nat, z7 = S6.2.1 8 x0 → ∃ q8 : Nat, z7 = some q8 ∧ hasO S6 q8 2 ∧ wp_X2_add q8 x1 S6 (fun (S9 : kS) => K S9)
def wp_X1_setAlarm (t0 : Nat) (a0 : Nat) (a1 : Int32) (S : kS) (K : kS → Prop) : Prop := hasO S t0 1 ∧ ∀ z1 : Int32, z1 = S.1 4 t0 → ∀ z2 : Int32, z2 = 2147483647 - z1 → ((a1 ≤ z2 → hasO S t0 1 ∧ ∀ z4 : Int32, z4 = S.1 4 t0 → ∀ z5 : Int32, z5 = z4 + a1 → wp_X1_setAlarm_23 K t0 a0 a0 z5 S) ∧ (¬ a1 ≤ z2 → wp_X1_setAlarm_23 K t0 a0 a0 2147483647 S))
theorem cw_X1_179 {R : Room} {s : State} {args : Array Value} {fr lo : Nat} (hts : ∀ w ∈ tb, w.before args s = true) (h1 : fr + 1 ≤ R.frames) (h2 : 8 + (4 + 11) + lo ≤ R.locals) : CallW R s args RX1 RX2 179 yX2_add cX2_add 4 none (.code yX2_add cX2_add 4 none :: tb) (mRm fr lo) 0 0 1 := cwV 1 hts (gd_V wd_1138 wd_1126 wd_1127 wd_10 wd_1128) rfl rfl rfl (by decide +kernel) ⟨h1, h2⟩
set_option maxHeartbeats 4000000 in
set_option maxRecDepth 100000 in
theorem kt_X1_setAlarm (l : Launch) (S : kS) (t0 : Nat) (a0 : Nat) (a1 : Int32) (K : kS → Prop) (h : wp_X1_setAlarm t0 a0 a1 S K) : kMv l yX1_setAlarm cX1_setAlarm 3 none 1 23 [.ref t0, .ref a0, .int a1] S K := by
  refine kv_ofv (own := RX1) (by decide) rfl (Nat.le_of_ble_eq_true rfl) ?_
  intro E p e R s m args below meth c A ls Q hRf hRl hX hC hl hret
  have hx := hX.1.1
  have hb := hX.1.2.1
  have hown := hX.1.2.2.2.1
  have hts := hX.1.2.2.2.2
  have cut23 : ∀ (x0 : Nat) (x1 : Nat) (y0 : Nat) (y1 : Int32) (S : kS) (H : Heap) (locs : List Loc) (ls : Array Slot), wp_X1_setAlarm_23 K x0 x1 y0 y1 S → cM E A s.heap S H locs → lv_has ls 3 [(0, .ref x0), (1, .ref x1)] → W p l e R s m args below meth c H locs 0 0 Q (F0 m 23 ls [.int y1, .ref y0]) := by
    intro x0 x1 y0 y1 S H locs ls h hC hl
    unfold wp_X1_setAlarm_23 at h
    refine cq_puti (v := y1) (ci := 4) (k := 5) (f := 16) hX hC rfl in_X4 (by decide) wd_1071 (fun _ h9 => h9) tyX4 tyX4_ok nmX4 rfl rfl rfl (fun _ _ => Nat.le_of_ble_eq_true rfl) (fun _ _ _ => rfl) dX1_setAlarm_23 h.1 h.2 (fun S6 H locs hC h => ?_)
    refine lv_aload_n hx hb dX1_setAlarm_26 rfl (lv_at hl 0 rfl) ?_
    refine cq_getr (ci := 1) (k := 10) (f := 8) hX hC rfl in_X1 (by decide) wd_256 (fun _ h9 => h9) (fun _ _ => rfl) dX1_setAlarm_27 h (fun z7 h => ?_)
    refine lv_aload_n hx hb dX1_setAlarm_30 rfl (lv_at hl 1 rfl) ?_
    obtain ⟨q8, e9, hh⟩ := h
    subst e9
    have h := hh
    clear hh
    refine kv_callv [.ref x1] (rest := []) (ci := 2) rfl hX hC h.1 (kt_X2_add l S6 q8 x1 _ h.2 E _) (cw_X1_179 hts (by omega) (by omega)) rfl hl.1 (Nat.le_of_ble_eq_true rfl) ⟨Nat.zero_le _, Nat.zero_le _⟩ dX1_setAlarm_31 (fun S9 H locs hC h => ?_)
    exact hret _ _ _ _ _ hC h dX1_setAlarm_34
  have hl : lv_has ls 3 [(0, .ref t0), (1, .ref a0), (2, .int a1)] := hl
  unfold wp_X1_setAlarm at h
  refine lv_aload_n hx hb dX1_setAlarm_0 rfl (lv_at hl 1 rfl) ?_
  refine lv_iload_n hx hb dX1_setAlarm_1 rfl (lv_at hl 2 rfl) ?_
  refine lv_ldc (v := 2147483647) hx hb hown (hts _ wd_1137) dX1_setAlarm_2 ?_
  refine lv_aload_n hx hb dX1_setAlarm_4 rfl (lv_at hl 0 rfl) ?_
  refine cq_geti (ci := 1) (k := 6) (f := 4) hX hC rfl in_X1 (by decide) wd_245 (fun _ h9 => h9) (fun _ _ => rfl) dX1_setAlarm_5 h (fun z1 h => ?_)
  refine lq_isub hx hb dX1_setAlarm_8 h (fun z2 h => ?_)
  refine lv_icmp_le (tgt := 17) hx hb dX1_setAlarm_9 (by decide) (fun c3 => ?_) (fun c3 => ?_)
  · have h := h.1 c3
    refine lv_aload_n hx hb dX1_setAlarm_17 rfl (lv_at hl 0 rfl) ?_
    refine cq_geti (ci := 1) (k := 6) (f := 4) hX hC rfl in_X1 (by decide) wd_245 (fun _ h9 => h9) (fun _ _ => rfl) dX1_setAlarm_18 h (fun z4 h => ?_)
    refine lv_iload_n hx hb dX1_setAlarm_21 rfl (lv_at hl 2 rfl) ?_
    refine lq_iadd hx hb dX1_setAlarm_22 h (fun z5 h => ?_)
    exact cut23 t0 a0 a0 z5 S _ _ _ h hC (lv_sub hl [0, 1] rfl)
  · have h := h.2 c3
    refine lv_ldc (v := 2147483647) hx hb hown (hts _ wd_1137) dX1_setAlarm_12 ?_
    refine lv_goto (tgt := 23) hx hb dX1_setAlarm_14 (by decide) ?_
    exact cut23 t0 a0 a0 2147483647 S _ _ _ h hC (lv_sub hl [0, 1] rfl)
