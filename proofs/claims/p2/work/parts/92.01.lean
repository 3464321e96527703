theorem wd_23 : (Jvm.Cond.initialized "Sleepers$Part") ∈ tb := tb_at 23 (by decide +kernel) (by decide +kernel)
theorem wd_249 : (Jvm.Cond.fieldLink "Sleepers" (192 : Nat) "Sleepers$Hall" "letters" "[I") ∈ tb := tb_at 249 (by decide +kernel) (by decide +kernel)
theorem wd_252 : (Jvm.Cond.fieldLink "Sleepers" (189 : Nat) "Sleepers$Hall" "letterCount" "[I") ∈ tb := tb_at 252 (by decide +kernel) (by decide +kernel)
theorem wd_260 : (Jvm.Cond.fieldLink "Sleepers$Hall" (212 : Nat) "Sleepers$Hall" "agendaCount" "I") ∈ tb := tb_at 260 (by decide +kernel) (by decide +kernel)
theorem wd_864 : (Jvm.Cond.fieldLink "Sleepers$Hall" (125 : Nat) "Sleepers$Task" "number" "I") ∈ tb := tb_at 864 (by decide +kernel) (by decide +kernel)
theorem wd_898 : (Jvm.Cond.fieldLink "Sleepers$Hall" (163 : Nat) "Sleepers$Task" "latest" "LSleepers$Part;") ∈ tb := tb_at 898 (by decide +kernel) (by decide +kernel)
theorem wd_905 : (Jvm.Cond.fieldLink "Sleepers$Hall" (119 : Nat) "Sleepers$Task" "outcome" "I") ∈ tb := tb_at 905 (by decide +kernel) (by decide +kernel)
theorem wd_907 : (Jvm.Cond.fieldLink "Sleepers$Hall" (208 : Nat) "Sleepers$Task" "value" "I") ∈ tb := tb_at 907 (by decide +kernel) (by decide +kernel)
theorem wd_1057 : (Jvm.Cond.fieldLink "Sleepers$Hall" (138 : Nat) "Sleepers$Part" "owner" "LSleepers$Task;") ∈ tb := tb_at 1057 (by decide +kernel) (by decide +kernel)
theorem wd_1058 : (Jvm.Cond.fieldLink "Sleepers$Part" (7 : Nat) "Sleepers$Part" "kind" "I") ∈ tb := tb_at 1058 (by decide +kernel) (by decide +kernel)
theorem wd_1061 : (Jvm.Cond.fieldLink "Sleepers$Part" (19 : Nat) "Sleepers$Part" "status" "I") ∈ tb := tb_at 1061 (by decide +kernel) (by decide +kernel)
theorem wd_1062 : (Jvm.Cond.fieldLink "Sleepers$Hall" (144 : Nat) "Sleepers$Part" "status" "I") ∈ tb := tb_at 1062 (by decide +kernel) (by decide +kernel)
theorem wd_1064 : (Jvm.Cond.fieldLink "Sleepers$Part" (13 : Nat) "Sleepers$Part" "value" "I") ∈ tb := tb_at 1064 (by decide +kernel) (by decide +kernel)
theorem wd_1065 : (Jvm.Cond.fieldLink "Sleepers$Hall" (147 : Nat) "Sleepers$Part" "value" "I") ∈ tb := tb_at 1065 (by decide +kernel) (by decide +kernel)
theorem wd_1067 : (Jvm.Cond.fieldLink "Sleepers$Part" (16 : Nat) "Sleepers$Part" "left" "I") ∈ tb := tb_at 1067 (by decide +kernel) (by decide +kernel)
theorem wd_1072 : (Jvm.Cond.fieldLink "Sleepers$Hall" (156 : Nat) "Sleepers$Part" "child" "LSleepers$Task;") ∈ tb := tb_at 1072 (by decide +kernel) (by decide +kernel)
theorem wd_1074 : (Jvm.Cond.fieldLink "Sleepers$Part" (22 : Nat) "Sleepers$Part" "about" "LSleepers$Part;") ∈ tb := tb_at 1074 (by decide +kernel) (by decide +kernel)
theorem wd_1075 : (Jvm.Cond.fieldLink "Sleepers$Hall" (162 : Nat) "Sleepers$Part" "about" "LSleepers$Part;") ∈ tb := tb_at 1075 (by decide +kernel) (by decide +kernel)
theorem wd_1077 : (Jvm.Cond.fieldLink "Sleepers$Hall" (135 : Nat) "Sleepers$Part" "before" "LSleepers$Part;") ∈ tb := tb_at 1077 (by decide +kernel) (by decide +kernel)
theorem wd_1078 : (Jvm.Cond.fieldLink "Sleepers$Line" (30 : Nat) "Sleepers$Part" "line" "LSleepers$Line;") ∈ tb := tb_at 1078 (by decide +kernel) (by decide +kernel)
theorem wd_1079 : (Jvm.Cond.fieldLink "Sleepers$Hall" (166 : Nat) "Sleepers$Part" "line" "LSleepers$Line;") ∈ tb := tb_at 1079 (by decide +kernel) (by decide +kernel)
theorem wd_1080 : (Jvm.Cond.fieldLink "Sleepers$Line" (21 : Nat) "Sleepers$Part" "ahead" "LSleepers$Part;") ∈ tb := tb_at 1080 (by decide +kernel) (by decide +kernel)
theorem wd_1082 : (Jvm.Cond.fieldLink "Sleepers$Line" (27 : Nat) "Sleepers$Part" "behind" "LSleepers$Part;") ∈ tb := tb_at 1082 (by decide +kernel) (by decide +kernel)
theorem wd_1122 : (Jvm.Cond.instanceMethod ({ cls := "Sleepers$Part", name := "hears", desc := "(II)Z" } : Jvm.MethodName)) ∈ tb := tb_at 1122 (by decide +kernel) (by decide +kernel)
theorem wd_1123 : (Jvm.Cond.selects "Sleepers$Part" ({ cls := "Sleepers$Part", name := "hears", desc := "(II)Z" } : Jvm.MethodName) ({ cls := "Sleepers$Part", name := "hears", desc := "(II)Z" } : Jvm.MethodName)) ∈ tb := tb_at 1123 (by decide +kernel) (by decide +kernel)
theorem wd_1124 : (Jvm.Cond.code ({ cls := "Sleepers$Part", name := "hears", desc := "(II)Z" } : Jvm.MethodName) prog_6_method_2_code (3 : Nat) (Option.some Jvm.ClassFile.FieldType.boolean)) ∈ tb := tb_at 1124 (by decide +kernel) (by decide +kernel)
theorem wd_1152 : (Jvm.Cond.methodLink "Sleepers$Hall" (198 : Nat) ({ cls := "Sleepers$Hall", name := "plan", desc := "(I)V" } : Jvm.MethodName)) ∈ tb := tb_at 1152 (by decide +kernel) (by decide +kernel)
theorem wd_1154 : (Jvm.Cond.instanceMethod ({ cls := "Sleepers$Hall", name := "plan", desc := "(I)V" } : Jvm.MethodName)) ∈ tb := tb_at 1154 (by decide +kernel) (by decide +kernel)
theorem wd_1155 : (Jvm.Cond.code ({ cls := "Sleepers$Hall", name := "plan", desc := "(I)V" } : Jvm.MethodName) prog_3_method_22_code (2 : Nat) (Option.none : Option Jvm.ClassFile.FieldType)) ∈ tb := tb_at 1155 (by decide +kernel) (by decide +kernel)
theorem wd_1160 : (Jvm.Cond.methodLink "Sleepers$Hall" (218 : Nat) ({ cls := "Sleepers$Hall", name := "drop", desc := "(LSleepers$Task;Z)V" } : Jvm.MethodName)) ∈ tb := tb_at 1160 (by decide +kernel) (by decide +kernel)
theorem wd_1162 : (Jvm.Cond.instanceMethod ({ cls := "Sleepers$Hall", name := "drop", desc := "(LSleepers$Task;Z)V" } : Jvm.MethodName)) ∈ tb := tb_at 1162 (by decide +kernel) (by decide +kernel)
theorem wd_1163 : (Jvm.Cond.code ({ cls := "Sleepers$Hall", name := "drop", desc := "(LSleepers$Task;Z)V" } : Jvm.MethodName) prog_3_method_21_code (4 : Nat) (Option.none : Option Jvm.ClassFile.FieldType)) ∈ tb := tb_at 1163 (by decide +kernel) (by decide +kernel)
theorem wd_1164 : (Jvm.Cond.methodLink "Sleepers$Hall" (228 : Nat) ({ cls := "Sleepers$Part", name := "isAdrift", desc := "()Z" } : Jvm.MethodName)) ∈ tb := tb_at 1164 (by decide +kernel) (by decide +kernel)
theorem wd_1165 : (Jvm.Cond.instanceMethod ({ cls := "Sleepers$Part", name := "isAdrift", desc := "()Z" } : Jvm.MethodName)) ∈ tb := tb_at 1165 (by decide +kernel) (by decide +kernel)
theorem wd_1166 : (Jvm.Cond.selects "Sleepers$Part" ({ cls := "Sleepers$Part", name := "isAdrift", desc := "()Z" } : Jvm.MethodName) ({ cls := "Sleepers$Part", name := "isAdrift", desc := "()Z" } : Jvm.MethodName)) ∈ tb := tb_at 1166 (by decide +kernel) (by decide +kernel)
theorem wd_1167 : (Jvm.Cond.code ({ cls := "Sleepers$Part", name := "isAdrift", desc := "()Z" } : Jvm.MethodName) prog_6_method_3_code (2 : Nat) (Option.some Jvm.ClassFile.FieldType.boolean)) ∈ tb := tb_at 1167 (by decide +kernel) (by decide +kernel)
theorem wd_1168 : (Jvm.Cond.methodLink "Sleepers$Hall" (215 : Nat) ({ cls := "Sleepers$Line", name := "remove", desc := "(LSleepers$Part;)V" } : Jvm.MethodName)) ∈ tb := tb_at 1168 (by decide +kernel) (by decide +kernel)
theorem wd_1169 : (Jvm.Cond.instanceMethod ({ cls := "Sleepers$Line", name := "remove", desc := "(LSleepers$Part;)V" } : Jvm.MethodName)) ∈ tb := tb_at 1169 (by decide +kernel) (by decide +kernel)
theorem wd_1170 : (Jvm.Cond.selects "Sleepers$Line" ({ cls := "Sleepers$Line", name := "remove", desc := "(LSleepers$Part;)V" } : Jvm.MethodName) ({ cls := "Sleepers$Line", name := "remove", desc := "(LSleepers$Part;)V" } : Jvm.MethodName)) ∈ tb := tb_at 1170 (by decide +kernel) (by decide +kernel)
theorem wd_1171 : (Jvm.Cond.code ({ cls := "Sleepers$Line", name := "remove", desc := "(LSleepers$Part;)V" } : Jvm.MethodName) prog_4_method_3_code (2 : Nat) (Option.none : Option Jvm.ClassFile.FieldType)) ∈ tb := tb_at 1171 (by decide +kernel) (by decide +kernel)
theorem wd_1172 : (Jvm.Cond.methodLink "Sleepers$Hall" (225 : Nat) ({ cls := "Sleepers$Hall", name := "turnRound", desc := "(I)V" } : Jvm.MethodName)) ∈ tb := tb_at 1172 (by decide +kernel) (by decide +kernel)
theorem wd_1174 : (Jvm.Cond.instanceMethod ({ cls := "Sleepers$Hall", name := "turnRound", desc := "(I)V" } : Jvm.MethodName)) ∈ tb := tb_at 1174 (by decide +kernel) (by decide +kernel)
theorem wd_1175 : (Jvm.Cond.code ({ cls := "Sleepers$Hall", name := "turnRound", desc := "(I)V" } : Jvm.MethodName) prog_3_method_23_code (5 : Nat) (Option.none : Option Jvm.ClassFile.FieldType)) ∈ tb := tb_at 1175 (by decide +kernel) (by decide +kernel)
theorem wd_1211 : (Jvm.Cond.methodLink "Sleepers$Hall" (221 : Nat) ({ cls := "Sleepers$Part", name := "hears", desc := "(II)Z" } : Jvm.MethodName)) ∈ tb := tb_at 1211 (by decide +kernel) (by decide +kernel)
theorem sl_X1_drop : Cond.selects RX1 yX1_drop yX1_drop ∈ tb := sl_of (y := ⟨"Sleepers$Hall", "drop", "(LSleepers$Task;Z)V"⟩) (n := 15) (by decide +kernel) (by decide +kernel)
theorem sl_X1_plan : Cond.selects RX1 yX1_plan yX1_plan ∈ tb := sl_of (y := ⟨"Sleepers$Hall", "plan", "(I)V"⟩) (n := 15) (by decide +kernel) (by decide +kernel)
theorem sl_X1_turnRound : Cond.selects RX1 yX1_turnRound yX1_turnRound ∈ tb := sl_of (y := ⟨"Sleepers$Hall", "turnRound", "(I)V"⟩) (n := 15) (by decide +kernel) (by decide +kernel)
theorem dX11_box_0 : decode cX11_box 0 = .ok (.iload_n 1, 1) := by decide +kernel
theorem dX11_box_1 : decode cX11_box 1 = .ok (.ifCond .lt 26, 3) := by decide +kernel
theorem dX11_box_4 : decode cX11_box 4 = .ok (.iload_n 1, 1) := by decide +kernel
theorem dX11_box_5 : decode cX11_box 5 = .ok (.bipush 8, 2) := by decide +kernel
theorem dX11_box_7 : decode cX11_box 7 = .ok (.if_icmp .ge 20, 3) := by decide +kernel
theorem dX11_box_10 : decode cX11_box 10 = .ok (.iload_n 2, 1) := by decide +kernel
theorem dX11_box_11 : decode cX11_box 11 = .ok (.ifCond .lt 16, 3) := by decide +kernel
theorem dX11_box_14 : decode cX11_box 14 = .ok (.iload_n 2, 1) := by decide +kernel
theorem dX11_box_15 : decode cX11_box 15 = .ok (.aload_n 0, 1) := by decide +kernel
theorem dX11_box_16 : decode cX11_box 16 = .ok (.getfield 35, 3) := by decide +kernel
theorem dX11_box_19 : decode cX11_box 19 = .ok (.getfield 189, 3) := by decide +kernel
theorem dX11_box_22 : decode cX11_box 22 = .ok (.iload_n 1, 1) := by decide +kernel
theorem dX11_box_23 : decode cX11_box 23 = .ok (.iaload, 1) := by decide +kernel
theorem dX11_box_24 : decode cX11_box 24 = .ok (.if_icmp .lt 5, 3) := by decide +kernel
theorem dX11_box_27 : decode cX11_box 27 = .ok (.iconst 0, 1) := by decide +kernel
theorem dX11_box_28 : decode cX11_box 28 = .ok (.ireturn, 1) := by decide +kernel
theorem dX11_box_29 : decode cX11_box 29 = .ok (.aload_n 0, 1) := by decide +kernel
theorem dX11_box_30 : decode cX11_box 30 = .ok (.getfield 35, 3) := by decide +kernel
theorem dX11_box_33 : decode cX11_box 33 = .ok (.getfield 192, 3) := by decide +kernel
theorem dX11_box_36 : decode cX11_box 36 = .ok (.iload_n 1, 1) := by decide +kernel
theorem dX11_box_37 : decode cX11_box 37 = .ok (.bipush 50, 2) := by decide +kernel
theorem dX11_box_39 : decode cX11_box 39 = .ok (.imul, 1) := by decide +kernel
theorem dX11_box_40 : decode cX11_box 40 = .ok (.iload_n 2, 1) := by decide +kernel
theorem dX11_box_41 : decode cX11_box 41 = .ok (.iadd, 1) := by decide +kernel
theorem dX11_box_42 : decode cX11_box 42 = .ok (.iaload, 1) := by decide +kernel
theorem dX11_box_43 : decode cX11_box 43 = .ok (.ireturn, 1) := by decide +kernel
theorem dX1_drop_0 : decode cX1_drop 0 = .ok (.aload_n 1, 1) := by decide +kernel
theorem dX1_drop_1 : decode cX1_drop 1 = .ok (.getfield 163, 3) := by decide +kernel
theorem dX1_drop_4 : decode cX1_drop 4 = .ok (.astore_n 3, 1) := by decide +kernel
theorem dX1_drop_5 : decode cX1_drop 5 = .ok (.aload_n 3, 1) := by decide +kernel
theorem dX1_drop_6 : decode cX1_drop 6 = .ok (.ifnull 67, 3) := by decide +kernel
theorem dX1_drop_9 : decode cX1_drop 9 = .ok (.aload_n 3, 1) := by decide +kernel
theorem dX1_drop_10 : decode cX1_drop 10 = .ok (.getfield 144, 3) := by decide +kernel
theorem dX1_drop_13 : decode cX1_drop 13 = .ok (.ifCond .ne 52, 3) := by decide +kernel
theorem dX1_drop_16 : decode cX1_drop 16 = .ok (.iload_n 2, 1) := by decide +kernel
theorem dX1_drop_17 : decode cX1_drop 17 = .ok (.ifCond .ne 10, 3) := by decide +kernel
theorem dX1_drop_20 : decode cX1_drop 20 = .ok (.aload_n 3, 1) := by decide +kernel
theorem dX1_drop_21 : decode cX1_drop 21 = .ok (.invokevirtual 228, 3) := by decide +kernel
theorem dX1_drop_24 : decode cX1_drop 24 = .ok (.ifCond .eq 41, 3) := by decide +kernel
theorem dX1_drop_27 : decode cX1_drop 27 = .ok (.aload_n 3, 1) := by decide +kernel
theorem dX1_drop_28 : decode cX1_drop 28 = .ok (.iconst 3, 1) := by decide +kernel
theorem dX1_drop_29 : decode cX1_drop 29 = .ok (.putfield 144, 3) := by decide +kernel
theorem dX1_drop_32 : decode cX1_drop 32 = .ok (.aload_n 3, 1) := by decide +kernel
theorem dX1_drop_33 : decode cX1_drop 33 = .ok (.getfield 166, 3) := by decide +kernel
theorem dX1_drop_36 : decode cX1_drop 36 = .ok (.ifnull 11, 3) := by decide +kernel
theorem dX1_drop_39 : decode cX1_drop 39 = .ok (.aload_n 3, 1) := by decide +kernel
theorem dX1_drop_40 : decode cX1_drop 40 = .ok (.getfield 166, 3) := by decide +kernel
theorem dX1_drop_43 : decode cX1_drop 43 = .ok (.aload_n 3, 1) := by decide +kernel
theorem dX1_drop_44 : decode cX1_drop 44 = .ok (.invokevirtual 215, 3) := by decide +kernel
theorem dX1_drop_47 : decode cX1_drop 47 = .ok (.aload_n 3, 1) := by decide +kernel
theorem dX1_drop_48 : decode cX1_drop 48 = .ok (.getfield 156, 3) := by decide +kernel
theorem dX1_drop_51 : decode cX1_drop 51 = .ok (.ifnull 14, 3) := by decide +kernel
theorem dX1_drop_54 : decode cX1_drop 54 = .ok (.aload_n 0, 1) := by decide +kernel
theorem dX1_drop_55 : decode cX1_drop 55 = .ok (.aload_n 3, 1) := by decide +kernel
theorem dX1_drop_56 : decode cX1_drop 56 = .ok (.getfield 156, 3) := by decide +kernel
theorem dX1_drop_59 : decode cX1_drop 59 = .ok (.getfield 125, 3) := by decide +kernel
theorem dX1_drop_62 : decode cX1_drop 62 = .ok (.invokevirtual 198, 3) := by decide +kernel
theorem dX1_drop_65 : decode cX1_drop 65 = .ok (.aload_n 3, 1) := by decide +kernel
theorem dX1_drop_66 : decode cX1_drop 66 = .ok (.getfield 135, 3) := by decide +kernel
theorem dX1_drop_69 : decode cX1_drop 69 = .ok (.astore_n 3, 1) := by decide +kernel
theorem dX1_drop_70 : decode cX1_drop 70 = .ok (.goto (-65), 3) := by decide +kernel
theorem dX1_drop_73 : decode cX1_drop 73 = .ok (.return_, 1) := by decide +kernel
theorem dX1_has_0 : decode cX1_has 0 = .ok (.iload_n 1, 1) := by decide +kernel
theorem dX1_has_1 : decode cX1_has 1 = .ok (.ifCond .lt 15, 3) := by decide +kernel
theorem dX1_has_4 : decode cX1_has 4 = .ok (.iload_n 1, 1) := by decide +kernel
theorem dX1_has_5 : decode cX1_has 5 = .ok (.aload_n 0, 1) := by decide +kernel
theorem dX1_has_6 : decode cX1_has 6 = .ok (.getfield 52, 3) := by decide +kernel
theorem dX1_has_9 : decode cX1_has 9 = .ok (.if_icmp .ge 7, 3) := by decide +kernel
theorem dX1_has_12 : decode cX1_has 12 = .ok (.iconst 1, 1) := by decide +kernel
theorem dX1_has_13 : decode cX1_has 13 = .ok (.goto 4, 3) := by decide +kernel
theorem dX1_has_16 : decode cX1_has 16 = .ok (.iconst 0, 1) := by decide +kernel
theorem dX1_has_17 : decode cX1_has 17 = .ok (.ireturn, 1) := by decide +kernel
theorem dX1_plan_0 : decode cX1_plan 0 = .ok (.aload_n 0, 1) := by decide +kernel
theorem dX1_plan_1 : decode cX1_plan 1 = .ok (.getfield 212, 3) := by decide +kernel
theorem dX1_plan_4 : decode cX1_plan 4 = .ok (.sipush 416, 3) := by decide +kernel
theorem dX1_plan_7 : decode cX1_plan 7 = .ok (.if_icmp .ge 23, 3) := by decide +kernel
theorem dX1_plan_10 : decode cX1_plan 10 = .ok (.aload_n 0, 1) := by decide +kernel
theorem dX1_plan_11 : decode cX1_plan 11 = .ok (.getfield 45, 3) := by decide +kernel
theorem dX1_plan_14 : decode cX1_plan 14 = .ok (.aload_n 0, 1) := by decide +kernel
theorem dX1_plan_15 : decode cX1_plan 15 = .ok (.getfield 212, 3) := by decide +kernel
theorem dX1_plan_18 : decode cX1_plan 18 = .ok (.iload_n 1, 1) := by decide +kernel
theorem dX1_plan_19 : decode cX1_plan 19 = .ok (.iastore, 1) := by decide +kernel
theorem dX1_plan_20 : decode cX1_plan 20 = .ok (.aload_n 0, 1) := by decide +kernel
theorem dX1_plan_21 : decode cX1_plan 21 = .ok (.dup, 1) := by decide +kernel
theorem dX1_plan_22 : decode cX1_plan 22 = .ok (.getfield 212, 3) := by decide +kernel
theorem dX1_plan_25 : decode cX1_plan 25 = .ok (.iconst 1, 1) := by decide +kernel
theorem dX1_plan_26 : decode cX1_plan 26 = .ok (.iadd, 1) := by decide +kernel
theorem dX1_plan_27 : decode cX1_plan 27 = .ok (.putfield 212, 3) := by decide +kernel
theorem dX1_plan_30 : decode cX1_plan 30 = .ok (.return_, 1) := by decide +kernel
theorem dX1_report_0 : decode cX1_report 0 = .ok (.aload_n 1, 1) := by decide +kernel
theorem dX1_report_1 : decode cX1_report 1 = .ok (.getfield 138, 3) := by decide +kernel
theorem dX1_report_4 : decode cX1_report 4 = .ok (.astore 4, 2) := by decide +kernel
theorem dX1_report_6 : decode cX1_report 6 = .ok (.aload_n 0, 1) := by decide +kernel
theorem dX1_report_7 : decode cX1_report 7 = .ok (.aload 4, 2) := by decide +kernel
theorem dX1_report_9 : decode cX1_report 9 = .ok (.getfield 125, 3) := by decide +kernel
theorem dX1_report_12 : decode cX1_report 12 = .ok (.iconst (-1), 1) := by decide +kernel
theorem dX1_report_13 : decode cX1_report 13 = .ok (.ixor, 1) := by decide +kernel
theorem dX1_report_14 : decode cX1_report 14 = .ok (.invokevirtual 198, 3) := by decide +kernel
theorem dX1_report_17 : decode cX1_report 17 = .ok (.aload_n 0, 1) := by decide +kernel
theorem dX1_report_18 : decode cX1_report 18 = .ok (.getfield 212, 3) := by decide +kernel
theorem dX1_report_21 : decode cX1_report 21 = .ok (.istore 5, 2) := by decide +kernel
theorem dX1_report_23 : decode cX1_report 23 = .ok (.aload_n 1, 1) := by decide +kernel
theorem dX1_report_24 : decode cX1_report 24 = .ok (.iload_n 2, 1) := by decide +kernel
theorem dX1_report_25 : decode cX1_report 25 = .ok (.putfield 144, 3) := by decide +kernel
theorem dX1_report_28 : decode cX1_report 28 = .ok (.aload_n 1, 1) := by decide +kernel
theorem dX1_report_29 : decode cX1_report 29 = .ok (.iload_n 3, 1) := by decide +kernel
theorem dX1_report_30 : decode cX1_report 30 = .ok (.putfield 147, 3) := by decide +kernel
theorem dX1_report_33 : decode cX1_report 33 = .ok (.aload_n 1, 1) := by decide +kernel
theorem dX1_report_34 : decode cX1_report 34 = .ok (.astore 6, 2) := by decide +kernel
theorem dX1_report_36 : decode cX1_report 36 = .ok (.iconst 0, 1) := by decide +kernel
theorem dX1_report_37 : decode cX1_report 37 = .ok (.istore 7, 2) := by decide +kernel
theorem dX1_report_39 : decode cX1_report 39 = .ok (.iload 7, 2) := by decide +kernel
theorem dX1_report_41 : decode cX1_report 41 = .ok (.bipush 10, 2) := by decide +kernel
theorem dX1_report_43 : decode cX1_report 43 = .ok (.if_icmp .gt 102, 3) := by decide +kernel
theorem dX1_report_46 : decode cX1_report 46 = .ok (.aload 6, 2) := by decide +kernel
theorem dX1_report_48 : decode cX1_report 48 = .ok (.ifnull 97, 3) := by decide +kernel
theorem dX1_report_51 : decode cX1_report 51 = .ok (.aload 6, 2) := by decide +kernel
theorem dX1_report_53 : decode cX1_report 53 = .ok (.getfield 166, 3) := by decide +kernel
theorem dX1_report_56 : decode cX1_report 56 = .ok (.ifnull 13, 3) := by decide +kernel
theorem dX1_report_59 : decode cX1_report 59 = .ok (.aload 6, 2) := by decide +kernel
theorem dX1_report_61 : decode cX1_report 61 = .ok (.getfield 166, 3) := by decide +kernel
theorem dX1_report_64 : decode cX1_report 64 = .ok (.aload 6, 2) := by decide +kernel
theorem dX1_report_66 : decode cX1_report 66 = .ok (.invokevirtual 215, 3) := by decide +kernel
theorem dX1_report_69 : decode cX1_report 69 = .ok (.aload_n 0, 1) := by decide +kernel
theorem dX1_report_70 : decode cX1_report 70 = .ok (.aload 4, 2) := by decide +kernel
theorem dX1_report_72 : decode cX1_report 72 = .ok (.iconst 0, 1) := by decide +kernel
theorem dX1_report_73 : decode cX1_report 73 = .ok (.invokevirtual 218, 3) := by decide +kernel
theorem dX1_report_76 : decode cX1_report 76 = .ok (.aload 6, 2) := by decide +kernel
theorem dX1_report_78 : decode cX1_report 78 = .ok (.getfield 162, 3) := by decide +kernel
theorem dX1_report_81 : decode cX1_report 81 = .ok (.ifnonnull 26, 3) := by decide +kernel
theorem dX1_report_84 : decode cX1_report 84 = .ok (.aload 4, 2) := by decide +kernel
theorem dX1_report_86 : decode cX1_report 86 = .ok (.aload 6, 2) := by decide +kernel
theorem dX1_report_88 : decode cX1_report 88 = .ok (.getfield 144, 3) := by decide +kernel
theorem dX1_report_91 : decode cX1_report 91 = .ok (.putfield 119, 3) := by decide +kernel
theorem dX1_report_94 : decode cX1_report 94 = .ok (.aload 4, 2) := by decide +kernel
theorem dX1_report_96 : decode cX1_report 96 = .ok (.aload 6, 2) := by decide +kernel
theorem dX1_report_98 : decode cX1_report 98 = .ok (.getfield 147, 3) := by decide +kernel
theorem dX1_report_101 : decode cX1_report 101 = .ok (.putfield 208, 3) := by decide +kernel
theorem dX1_report_104 : decode cX1_report 104 = .ok (.goto 41, 3) := by decide +kernel
theorem dX1_report_107 : decode cX1_report 107 = .ok (.aload 6, 2) := by decide +kernel
theorem dX1_report_109 : decode cX1_report 109 = .ok (.getfield 162, 3) := by decide +kernel
theorem dX1_report_112 : decode cX1_report 112 = .ok (.aload 6, 2) := by decide +kernel
theorem dX1_report_114 : decode cX1_report 114 = .ok (.getfield 144, 3) := by decide +kernel
theorem dX1_report_117 : decode cX1_report 117 = .ok (.aload 6, 2) := by decide +kernel
theorem dX1_report_119 : decode cX1_report 119 = .ok (.getfield 147, 3) := by decide +kernel
theorem dX1_report_122 : decode cX1_report 122 = .ok (.invokevirtual 221, 3) := by decide +kernel
theorem dX1_report_125 : decode cX1_report 125 = .ok (.ifCond .eq 11, 3) := by decide +kernel
theorem dX1_report_128 : decode cX1_report 128 = .ok (.aload 6, 2) := by decide +kernel
theorem dX1_report_130 : decode cX1_report 130 = .ok (.getfield 162, 3) := by decide +kernel
theorem dX1_report_133 : decode cX1_report 133 = .ok (.goto 4, 3) := by decide +kernel
theorem dX1_report_136 : decode cX1_report 136 = .ok (.aconst_null, 1) := by decide +kernel
theorem dX1_report_137 : decode cX1_report 137 = .ok (.astore 6, 2) := by decide +kernel
theorem dX1_report_139 : decode cX1_report 139 = .ok (.iinc 7 1, 3) := by decide +kernel
theorem dX1_report_142 : decode cX1_report 142 = .ok (.goto (-103), 3) := by decide +kernel
theorem dX1_report_145 : decode cX1_report 145 = .ok (.aload_n 0, 1) := by decide +kernel
theorem dX1_report_146 : decode cX1_report 146 = .ok (.iload 5, 2) := by decide +kernel
theorem dX1_report_148 : decode cX1_report 148 = .ok (.invokevirtual 225, 3) := by decide +kernel
theorem dX1_report_151 : decode cX1_report 151 = .ok (.return_, 1) := by decide +kernel
theorem dX1_turnRound_0 : decode cX1_turnRound 0 = .ok (.iload_n 1, 1) := by decide +kernel
theorem dX1_turnRound_1 : decode cX1_turnRound 1 = .ok (.istore_n 2, 1) := by decide +kernel
theorem dX1_turnRound_2 : decode cX1_turnRound 2 = .ok (.aload_n 0, 1) := by decide +kernel
theorem dX1_turnRound_3 : decode cX1_turnRound 3 = .ok (.getfield 212, 3) := by decide +kernel
theorem dX1_turnRound_6 : decode cX1_turnRound 6 = .ok (.iconst 1, 1) := by decide +kernel
theorem dX1_turnRound_7 : decode cX1_turnRound 7 = .ok (.isub, 1) := by decide +kernel
theorem dX1_turnRound_8 : decode cX1_turnRound 8 = .ok (.istore_n 3, 1) := by decide +kernel
theorem dX1_turnRound_9 : decode cX1_turnRound 9 = .ok (.iload_n 2, 1) := by decide +kernel
theorem dX1_turnRound_10 : decode cX1_turnRound 10 = .ok (.iload_n 3, 1) := by decide +kernel
theorem dX1_turnRound_11 : decode cX1_turnRound 11 = .ok (.if_icmp .ge 40, 3) := by decide +kernel
theorem dX1_turnRound_14 : decode cX1_turnRound 14 = .ok (.aload_n 0, 1) := by decide +kernel
theorem dX1_turnRound_15 : decode cX1_turnRound 15 = .ok (.getfield 45, 3) := by decide +kernel
theorem dX1_turnRound_18 : decode cX1_turnRound 18 = .ok (.iload_n 2, 1) := by decide +kernel
theorem dX1_turnRound_19 : decode cX1_turnRound 19 = .ok (.iaload, 1) := by decide +kernel
theorem dX1_turnRound_20 : decode cX1_turnRound 20 = .ok (.istore 4, 2) := by decide +kernel
theorem dX1_turnRound_22 : decode cX1_turnRound 22 = .ok (.aload_n 0, 1) := by decide +kernel
theorem dX1_turnRound_23 : decode cX1_turnRound 23 = .ok (.getfield 45, 3) := by decide +kernel
theorem dX1_turnRound_26 : decode cX1_turnRound 26 = .ok (.iload_n 2, 1) := by decide +kernel
theorem dX1_turnRound_27 : decode cX1_turnRound 27 = .ok (.aload_n 0, 1) := by decide +kernel
theorem dX1_turnRound_28 : decode cX1_turnRound 28 = .ok (.getfield 45, 3) := by decide +kernel
theorem dX1_turnRound_31 : decode cX1_turnRound 31 = .ok (.iload_n 3, 1) := by decide +kernel
theorem dX1_turnRound_32 : decode cX1_turnRound 32 = .ok (.iaload, 1) := by decide +kernel
theorem dX1_turnRound_33 : decode cX1_turnRound 33 = .ok (.iastore, 1) := by decide +kernel
theorem dX1_turnRound_34 : decode cX1_turnRound 34 = .ok (.aload_n 0, 1) := by decide +kernel
theorem dX1_turnRound_35 : decode cX1_turnRound 35 = .ok (.getfield 45, 3) := by decide +kernel
theorem dX1_turnRound_38 : decode cX1_turnRound 38 = .ok (.iload_n 3, 1) := by decide +kernel
theorem dX1_turnRound_39 : decode cX1_turnRound 39 = .ok (.iload 4, 2) := by decide +kernel
theorem dX1_turnRound_41 : decode cX1_turnRound 41 = .ok (.iastore, 1) := by decide +kernel
theorem dX1_turnRound_42 : decode cX1_turnRound 42 = .ok (.iinc 2 1, 3) := by decide +kernel
theorem dX1_turnRound_45 : decode cX1_turnRound 45 = .ok (.iinc 3 (-1), 3) := by decide +kernel
theorem dX1_turnRound_48 : decode cX1_turnRound 48 = .ok (.goto (-39), 3) := by decide +kernel
theorem dX1_turnRound_51 : decode cX1_turnRound 51 = .ok (.return_, 1) := by decide +kernel
theorem dX2_remove_0 : decode cX2_remove 0 = .ok (.aload_n 1, 1) := by decide +kernel
theorem dX2_remove_1 : decode cX2_remove 1 = .ok (.getfield 21, 3) := by decide +kernel
theorem dX2_remove_4 : decode cX2_remove 4 = .ok (.ifnonnull 14, 3) := by decide +kernel
theorem dX2_remove_7 : decode cX2_remove 7 = .ok (.aload_n 0, 1) := by decide +kernel
theorem dX2_remove_8 : decode cX2_remove 8 = .ok (.aload_n 1, 1) := by decide +kernel
theorem dX2_remove_9 : decode cX2_remove 9 = .ok (.getfield 27, 3) := by decide +kernel
theorem dX2_remove_12 : decode cX2_remove 12 = .ok (.putfield 24, 3) := by decide +kernel
theorem dX2_remove_15 : decode cX2_remove 15 = .ok (.goto 14, 3) := by decide +kernel
theorem dX2_remove_18 : decode cX2_remove 18 = .ok (.aload_n 1, 1) := by decide +kernel
theorem dX2_remove_19 : decode cX2_remove 19 = .ok (.getfield 21, 3) := by decide +kernel
theorem dX2_remove_22 : decode cX2_remove 22 = .ok (.aload_n 1, 1) := by decide +kernel
theorem dX2_remove_23 : decode cX2_remove 23 = .ok (.getfield 27, 3) := by decide +kernel
theorem dX2_remove_26 : decode cX2_remove 26 = .ok (.putfield 27, 3) := by decide +kernel
theorem dX2_remove_29 : decode cX2_remove 29 = .ok (.aload_n 1, 1) := by decide +kernel
theorem dX2_remove_30 : decode cX2_remove 30 = .ok (.getfield 27, 3) := by decide +kernel
theorem dX2_remove_33 : decode cX2_remove 33 = .ok (.ifnonnull 14, 3) := by decide +kernel
theorem dX2_remove_36 : decode cX2_remove 36 = .ok (.aload_n 0, 1) := by decide +kernel
theorem dX2_remove_37 : decode cX2_remove 37 = .ok (.aload_n 1, 1) := by decide +kernel
theorem dX2_remove_38 : decode cX2_remove 38 = .ok (.getfield 21, 3) := by decide +kernel
theorem dX2_remove_41 : decode cX2_remove 41 = .ok (.putfield 9, 3) := by decide +kernel
theorem dX2_remove_44 : decode cX2_remove 44 = .ok (.goto 14, 3) := by decide +kernel
theorem dX2_remove_47 : decode cX2_remove 47 = .ok (.aload_n 1, 1) := by decide +kernel
theorem dX2_remove_48 : decode cX2_remove 48 = .ok (.getfield 27, 3) := by decide +kernel
theorem dX2_remove_51 : decode cX2_remove 51 = .ok (.aload_n 1, 1) := by decide +kernel
theorem dX2_remove_52 : decode cX2_remove 52 = .ok (.getfield 21, 3) := by decide +kernel
theorem dX2_remove_55 : decode cX2_remove 55 = .ok (.putfield 21, 3) := by decide +kernel
theorem dX2_remove_58 : decode cX2_remove 58 = .ok (.aload_n 1, 1) := by decide +kernel
theorem dX2_remove_59 : decode cX2_remove 59 = .ok (.aconst_null, 1) := by decide +kernel
theorem dX2_remove_60 : decode cX2_remove 60 = .ok (.putfield 30, 3) := by decide +kernel
theorem dX2_remove_63 : decode cX2_remove 63 = .ok (.aload_n 1, 1) := by decide +kernel
theorem dX2_remove_64 : decode cX2_remove 64 = .ok (.aconst_null, 1) := by decide +kernel
theorem dX2_remove_65 : decode cX2_remove 65 = .ok (.putfield 21, 3) := by decide +kernel
theorem dX2_remove_68 : decode cX2_remove 68 = .ok (.aload_n 1, 1) := by decide +kernel
theorem dX2_remove_69 : decode cX2_remove 69 = .ok (.aconst_null, 1) := by decide +kernel
theorem dX2_remove_70 : decode cX2_remove 70 = .ok (.putfield 27, 3) := by decide +kernel
theorem dX2_remove_73 : decode cX2_remove 73 = .ok (.return_, 1) := by decide +kernel
theorem dX4_hears_0 : decode cX4_hears 0 = .ok (.aload_n 0, 1) := by decide +kernel
theorem dX4_hears_1 : decode cX4_hears 1 = .ok (.getfield 7, 3) := by decide +kernel
theorem dX4_hears_4 : decode cX4_hears 4 = .ok (.iconst 4, 1) := by decide +kernel
theorem dX4_hears_5 : decode cX4_hears 5 = .ok (.if_icmp .ne 45, 3) := by decide +kernel
theorem dX4_hears_8 : decode cX4_hears 8 = .ok (.iload_n 1, 1) := by decide +kernel
theorem dX4_hears_9 : decode cX4_hears 9 = .ok (.iconst 1, 1) := by decide +kernel
theorem dX4_hears_10 : decode cX4_hears 10 = .ok (.if_icmp .ne 40, 3) := by decide +kernel
theorem dX4_hears_13 : decode cX4_hears 13 = .ok (.aload_n 0, 1) := by decide +kernel
theorem dX4_hears_14 : decode cX4_hears 14 = .ok (.dup, 1) := by decide +kernel
theorem dX4_hears_15 : decode cX4_hears 15 = .ok (.getfield 13, 3) := by decide +kernel
theorem dX4_hears_18 : decode cX4_hears 18 = .ok (.iload_n 2, 1) := by decide +kernel
theorem dX4_hears_19 : decode cX4_hears 19 = .ok (.iadd, 1) := by decide +kernel
theorem dX4_hears_20 : decode cX4_hears 20 = .ok (.putfield 13, 3) := by decide +kernel
theorem dX4_hears_23 : decode cX4_hears 23 = .ok (.aload_n 0, 1) := by decide +kernel
theorem dX4_hears_24 : decode cX4_hears 24 = .ok (.dup, 1) := by decide +kernel
theorem dX4_hears_25 : decode cX4_hears 25 = .ok (.getfield 16, 3) := by decide +kernel
theorem dX4_hears_28 : decode cX4_hears 28 = .ok (.iconst 1, 1) := by decide +kernel
theorem dX4_hears_29 : decode cX4_hears 29 = .ok (.isub, 1) := by decide +kernel
theorem dX4_hears_30 : decode cX4_hears 30 = .ok (.putfield 16, 3) := by decide +kernel
theorem dX4_hears_33 : decode cX4_hears 33 = .ok (.aload_n 0, 1) := by decide +kernel
theorem dX4_hears_34 : decode cX4_hears 34 = .ok (.getfield 16, 3) := by decide +kernel
theorem dX4_hears_37 : decode cX4_hears 37 = .ok (.ifCond .le 5, 3) := by decide +kernel
theorem dX4_hears_40 : decode cX4_hears 40 = .ok (.iconst 0, 1) := by decide +kernel
theorem dX4_hears_41 : decode cX4_hears 41 = .ok (.ireturn, 1) := by decide +kernel
theorem dX4_hears_42 : decode cX4_hears 42 = .ok (.aload_n 0, 1) := by decide +kernel
theorem dX4_hears_43 : decode cX4_hears 43 = .ok (.iconst 1, 1) := by decide +kernel
theorem dX4_hears_44 : decode cX4_hears 44 = .ok (.putfield 19, 3) := by decide +kernel
theorem dX4_hears_47 : decode cX4_hears 47 = .ok (.goto 13, 3) := by decide +kernel
theorem dX4_hears_50 : decode cX4_hears 50 = .ok (.aload_n 0, 1) := by decide +kernel
theorem dX4_hears_51 : decode cX4_hears 51 = .ok (.iload_n 1, 1) := by decide +kernel
theorem dX4_hears_52 : decode cX4_hears 52 = .ok (.putfield 19, 3) := by decide +kernel
theorem dX4_hears_55 : decode cX4_hears 55 = .ok (.aload_n 0, 1) := by decide +kernel
theorem dX4_hears_56 : decode cX4_hears 56 = .ok (.iload_n 2, 1) := by decide +kernel
theorem dX4_hears_57 : decode cX4_hears 57 = .ok (.putfield 13, 3) := by decide +kernel
theorem dX4_hears_60 : decode cX4_hears 60 = .ok (.iconst 1, 1) := by decide +kernel
theorem dX4_hears_61 : decode cX4_hears 61 = .ok (.ireturn, 1) := by decide +kernel
theorem dX4_isAdrift_0 : decode cX4_isAdrift 0 = .ok (.aload_n 0, 1) := by decide +kernel
theorem dX4_isAdrift_1 : decode cX4_isAdrift 1 = .ok (.getfield 22, 3) := by decide +kernel
theorem dX4_isAdrift_4 : decode cX4_isAdrift 4 = .ok (.astore_n 1, 1) := by decide +kernel
theorem dX4_isAdrift_5 : decode cX4_isAdrift 5 = .ok (.aload_n 1, 1) := by decide +kernel
theorem dX4_isAdrift_6 : decode cX4_isAdrift 6 = .ok (.ifnull 20, 3) := by decide +kernel
theorem dX4_isAdrift_9 : decode cX4_isAdrift 9 = .ok (.aload_n 1, 1) := by decide +kernel
theorem dX4_isAdrift_10 : decode cX4_isAdrift 10 = .ok (.getfield 19, 3) := by decide +kernel
theorem dX4_isAdrift_13 : decode cX4_isAdrift 13 = .ok (.ifCond .eq 5, 3) := by decide +kernel
theorem dX4_isAdrift_16 : decode cX4_isAdrift 16 = .ok (.iconst 1, 1) := by decide +kernel
theorem dX4_isAdrift_17 : decode cX4_isAdrift 17 = .ok (.ireturn, 1) := by decide +kernel
theorem dX4_isAdrift_18 : decode cX4_isAdrift 18 = .ok (.aload_n 1, 1) := by decide +kernel
theorem dX4_isAdrift_19 : decode cX4_isAdrift 19 = .ok (.getfield 22, 3) := by decide +kernel
theorem dX4_isAdrift_22 : decode cX4_isAdrift 22 = .ok (.astore_n 1, 1) := by decide +kernel
theorem dX4_isAdrift_23 : decode cX4_isAdrift 23 = .ok (.goto (-18), 3) := by decide +kernel
theorem dX4_isAdrift_26 : decode cX4_isAdrift 26 = .ok (.iconst 0, 1) := by decide +kernel
theorem dX4_isAdrift_27 : decode cX4_isAdrift 27 = .ok (.ireturn, 1) := by decide +kernel
def wp_X11_box (t0 : Nat) (a0 : Int32) (a1 : Int32) (S : kS) (K : kS → Int32 → Prop) : Prop := ((a0 < 0 → K S 0) ∧ (¬ a0 < 0 → ((8 ≤ a0 → K S 0) ∧ (¬ 8 ≤ a0 → ((a1 < 0 → K S 0) ∧ (¬ a1 < 0 → hasO S t0 11 ∧ ∀ z4 : Option Nat, z4 = S.2.1 72 t0 → ∃ q5 : Nat, z4 = some q5 ∧ hasO S q5 1 ∧ ∀ z6 : Option Nat, z6 = S.2.1 6 q5 → ∃ q7 : Nat, z6 = some q7 ∧ hasA S q7 8 0 ∧ inR a0 8 ∧ ∀ z8 : Int32, z8 = S.2.2.1 q7 (ix a0) → ((a1 < z8 → hasO S t0 11 ∧ ∀ z10 : Option Nat, z10 = S.2.1 72 t0 → ∃ q11 : Nat, z10 = some q11 ∧ hasO S q11 1 ∧ ∀ z12 : Option Nat, z12 = S.2.1 5 q11 → ∀ z13 : Int32, z13 = a0 * 50 → ∀ z14 : Int32, z14 = z13 + a1 → ∃ q15 : Nat, z12 = some q15 ∧ hasA S q15 400 0 ∧ inR z14 400 ∧ ∀ z16 : Int32, z16 = S.2.2.1 q15 (ix z14) → K S z16) ∧ (¬ a1 < z8 → K S 0))))))))
set_option maxHeartbeats 4000000 in
set_option maxRecDepth 100000 in
theorem kt_X11_box (l : Launch) (S : kS) (t0 : Nat) (a0 : Int32) (a1 : Int32) (K : kS → Int32 → Prop) (h : wp_X11_box t0 a0 a1 S K) : kMi l yX11_box cX11_box 3 (some .int) 0 0 [.ref t0, .int a0, .int a1] S K := by
  refine kv_ofi (own := RX11) (by decide) rfl (Nat.le_of_ble_eq_true rfl) ?_
  intro E p e R s m args below meth c A ls Q hRf hRl hX hC hl hret
  have hx := hX.1.1
  have hb := hX.1.2.1
  have hown := hX.1.2.2.2.1
  have hts := hX.1.2.2.2.2
  have hl : lv_has ls 3 [(0, .ref t0), (1, .int a0), (2, .int a1)] := hl
  unfold wp_X11_box at h
  refine lv_iload_n hx hb dX11_box_0 rfl (lv_at hl 1 rfl) ?_
  refine lv_if_lt (tgt := 27) hx hb dX11_box_1 (by decide) (fun c1 => ?_) (fun c1 => ?_)
  · have h := h.1 c1
    refine lv_iconst (v := 0) hx hb dX11_box_27 (by decide) ?_
    exact hret _ _ _ _ _ _ hC h dX11_box_28
  · have h := h.2 c1
    refine lv_iload_n hx hb dX11_box_4 rfl (lv_at hl 1 rfl) ?_
    refine lv_bipush (v := 8) hx hb dX11_box_5 (by decide) ?_
    refine lv_icmp_ge (tgt := 27) hx hb dX11_box_7 (by decide) (fun c2 => ?_) (fun c2 => ?_)
    · have h := h.1 c2
      refine lv_iconst (v := 0) hx hb dX11_box_27 (by decide) ?_
      exact hret _ _ _ _ _ _ hC h dX11_box_28
    · have h := h.2 c2
      refine lv_iload_n hx hb dX11_box_10 rfl (lv_at hl 2 rfl) ?_
      refine lv_if_lt (tgt := 27) hx hb dX11_box_11 (by decide) (fun c3 => ?_) (fun c3 => ?_)
      · have h := h.1 c3
        refine lv_iconst (v := 0) hx hb dX11_box_27 (by decide) ?_
        exact hret _ _ _ _ _ _ hC h dX11_box_28
      · have h := h.2 c3
        refine lv_iload_n hx hb dX11_box_14 rfl (lv_at hl 2 rfl) ?_
        refine lv_aload_n hx hb dX11_box_15 rfl (lv_at hl 0 rfl) ?_
        refine cq_getr (ci := 11) (k := 3) (f := 72) hX hC rfl in_X11 (by decide) wd_481 (fun _ h9 => h9) (fun _ _ => rfl) dX11_box_16 h (fun z4 h => ?_)
        obtain ⟨q5, e9, hh⟩ := h
        subst e9
        have h := hh
        clear hh
        refine cq_getr (ci := 1) (k := 8) (f := 6) hX hC rfl in_X1 (by decide) wd_252 (fun _ h9 => h9) (fun _ _ => rfl) dX11_box_19 h (fun z6 h => ?_)
        refine lv_iload_n hx hb dX11_box_22 rfl (lv_at hl 1 rfl) ?_
        obtain ⟨q7, e9, hh⟩ := h
        subst e9
        have h := hh
        clear hh
        refine cq_ild hX hC dX11_box_23 h (fun z8 h => ?_)
        refine lv_icmp_lt (tgt := 29) hx hb dX11_box_24 (by decide) (fun c9 => ?_) (fun c9 => ?_)
        · have h := h.1 c9
          refine lv_aload_n hx hb dX11_box_29 rfl (lv_at hl 0 rfl) ?_
          refine cq_getr (ci := 11) (k := 3) (f := 72) hX hC rfl in_X11 (by decide) wd_481 (fun _ h9 => h9) (fun _ _ => rfl) dX11_box_30 h (fun z10 h => ?_)
          obtain ⟨q11, e9, hh⟩ := h
          subst e9
          have h := hh
          clear hh
          refine cq_getr (ci := 1) (k := 7) (f := 5) hX hC rfl in_X1 (by decide) wd_249 (fun _ h9 => h9) (fun _ _ => rfl) dX11_box_33 h (fun z12 h => ?_)
          refine lv_iload_n hx hb dX11_box_36 rfl (lv_at hl 1 rfl) ?_
          refine lv_bipush (v := 50) hx hb dX11_box_37 (by decide) ?_
          refine lq_imul hx hb dX11_box_39 h (fun z13 h => ?_)
          refine lv_iload_n hx hb dX11_box_40 rfl (lv_at hl 2 rfl) ?_
          refine lq_iadd hx hb dX11_box_41 h (fun z14 h => ?_)
          obtain ⟨q15, e9, hh⟩ := h
          subst e9
          have h := hh
          clear hh
          refine cq_ild hX hC dX11_box_42 h (fun z16 h => ?_)
          exact hret _ _ _ _ _ _ hC h dX11_box_43
        · have h := h.2 c9
          refine lv_iconst (v := 0) hx hb dX11_box_27 (by decide) ?_
          exact hret _ _ _ _ _ _ hC h dX11_box_28
def wp_X1_has (t0 : Nat) (a0 : Int32) (S : kS) (K : kS → Int32 → Prop) : Prop := ((a0 < 0 → K S 0) ∧ (¬ a0 < 0 → hasO S t0 1 ∧ ∀ z2 : Int32, z2 = S.1 1 t0 → ((z2 ≤ a0 → K S 0) ∧ (¬ z2 ≤ a0 → K S 1))))
set_option maxHeartbeats 4000000 in
set_option maxRecDepth 100000 in
theorem kt_X1_has (l : Launch) (S : kS) (t0 : Nat) (a0 : Int32) (K : kS → Int32 → Prop) (h : wp_X1_has t0 a0 S K) : kMi l yX1_has cX1_has 2 (some .boolean) 0 0 [.ref t0, .int a0] S K := by
  refine kv_ofz (own := RX1) (by decide) rfl (Nat.le_of_ble_eq_true rfl) ?_
  intro E p e R s m args below meth c A ls Q hRf hRl hX hC hl hret
  have hx := hX.1.1
  have hb := hX.1.2.1
  have hown := hX.1.2.2.2.1
  have hts := hX.1.2.2.2.2
  have hl : lv_has ls 2 [(0, .ref t0), (1, .int a0)] := hl
  unfold wp_X1_has at h
  refine lv_iload_n hx hb dX1_has_0 rfl (lv_at hl 1 rfl) ?_
  refine lv_if_lt (tgt := 16) hx hb dX1_has_1 (by decide) (fun c1 => ?_) (fun c1 => ?_)
  · have h := h.1 c1
    refine lv_iconst (v := 0) hx hb dX1_has_16 (by decide) ?_
    exact hret _ _ _ _ _ _ hC (Or.inl rfl) h dX1_has_17
  · have h := h.2 c1
    refine lv_iload_n hx hb dX1_has_4 rfl (lv_at hl 1 rfl) ?_
    refine lv_aload_n hx hb dX1_has_5 rfl (lv_at hl 0 rfl) ?_
    refine cq_geti (ci := 1) (k := 2) (f := 1) hX hC rfl in_X1 (by decide) wd_237 (fun _ h9 => h9) (fun _ _ => rfl) dX1_has_6 h (fun z2 h => ?_)
    refine lv_icmp_ge (tgt := 16) hx hb dX1_has_9 (by decide) (fun c3 => ?_) (fun c3 => ?_)
    · have h := h.1 c3
      refine lv_iconst (v := 0) hx hb dX1_has_16 (by decide) ?_
      exact hret _ _ _ _ _ _ hC (Or.inl rfl) h dX1_has_17
    · have h := h.2 c3
      refine lv_iconst (v := 1) hx hb dX1_has_12 (by decide) ?_
      refine lv_goto (tgt := 17) hx hb dX1_has_13 (by decide) ?_
      exact hret _ _ _ _ _ _ hC (Or.inr rfl) h dX1_has_17
def wp_X1_plan (t0 : Nat) (a0 : Int32) (S : kS) (K : kS → Prop) : Prop := hasO S t0 1 ∧ ∀ z1 : Int32, z1 = S.1 5 t0 → ((416 ≤ z1 → K S) ∧ (¬ 416 ≤ z1 → hasO S t0 1 ∧ ∀ z3 : Option Nat, z3 = S.2.1 10 t0 → hasO S t0 1 ∧ ∀ z4 : Int32, z4 = S.1 5 t0 → ∃ q5 : Nat, z3 = some q5 ∧ hasA S q5 416 0 ∧ inR z4 416 ∧ ∀ S6 : kS, S6 = cA S q5 (ix z4) a0 → hasO S6 t0 1 ∧ ∀ z7 : Int32, z7 = S6.1 5 t0 → ∀ z8 : Int32, z8 = z7 + 1 → hasO S6 t0 1 ∧ ∀ S9 : kS, S9 = cI S6 5 t0 z8 → K S9))
set_option maxHeartbeats 4000000 in
set_option maxRecDepth 100000 in
theorem kt_X1_plan (l : Launch) (S : kS) (t0 : Nat) (a0 : Int32) (K : kS → Prop) (h : wp_X1_plan t0 a0 S K) : kMv l yX1_plan cX1_plan 2 none 0 0 [.ref t0, .int a0] S K := by
  refine kv_ofv (own := RX1) (by decide) rfl (Nat.le_of_ble_eq_true rfl) ?_
  intro E p e R s m args below meth c A ls Q hRf hRl hX hC hl hret
  have hx := hX.1.1
  have hb := hX.1.2.1
  have hown := hX.1.2.2.2.1
  have hts := hX.1.2.2.2.2
  have hl : lv_has ls 2 [(0, .ref t0), (1, .int a0)] := hl
  unfold wp_X1_plan at h
  refine lv_aload_n hx hb dX1_plan_0 rfl (lv_at hl 0 rfl) ?_
  refine cq_geti (ci := 1) (k := 13) (f := 5) hX hC rfl in_X1 (by decide) wd_260 (fun _ h9 => h9) (fun _ _ => rfl) dX1_plan_1 h (fun z1 h => ?_)
  refine lv_sipush (v := 416) hx hb dX1_plan_4 (by decide) ?_
  refine lv_icmp_ge (tgt := 30) hx hb dX1_plan_7 (by decide) (fun c2 => ?_) (fun c2 => ?_)
  · have h := h.1 c2
    exact hret _ _ _ _ _ hC h dX1_plan_30
  · have h := h.2 c2
    refine lv_aload_n hx hb dX1_plan_10 rfl (lv_at hl 0 rfl) ?_
    refine cq_getr (ci := 1) (k := 12) (f := 10) hX hC rfl in_X1 (by decide) wd_259 (fun _ h9 => h9) (fun _ _ => rfl) dX1_plan_11 h (fun z3 h => ?_)
    refine lv_aload_n hx hb dX1_plan_14 rfl (lv_at hl 0 rfl) ?_
    refine cq_geti (ci := 1) (k := 13) (f := 5) hX hC rfl in_X1 (by decide) wd_260 (fun _ h9 => h9) (fun _ _ => rfl) dX1_plan_15 h (fun z4 h => ?_)
    refine lv_iload_n hx hb dX1_plan_18 rfl (lv_at hl 1 rfl) ?_
    obtain ⟨q5, e9, hh⟩ := h
    subst e9
    have h := hh
    clear hh
    refine cq_ist hX hC dX1_plan_19 h.1 h.2.1 h.2.2 (fun S6 H locs hC h => ?_)
    refine lv_aload_n hx hb dX1_plan_20 rfl (lv_at hl 0 rfl) ?_
    refine lv_dup hx hb dX1_plan_21 rfl ?_
    refine cq_geti (ci := 1) (k := 13) (f := 5) hX hC rfl in_X1 (by decide) wd_260 (fun _ h9 => h9) (fun _ _ => rfl) dX1_plan_22 h (fun z7 h => ?_)
    refine lv_iconst (v := 1) hx hb dX1_plan_25 (by decide) ?_
    refine lq_iadd hx hb dX1_plan_26 h (fun z8 h => ?_)
    refine cq_puti (v := z8) (ci := 1) (k := 13) (f := 5) hX hC rfl in_X1 (by decide) wd_260 (fun _ h9 => h9) tyX1 tyX1_ok nmX1 rfl rfl rfl (fun _ _ => Nat.le_of_ble_eq_true rfl) (fun _ _ _ => rfl) dX1_plan_27 h.1 h.2 (fun S9 H locs hC h => ?_)
    exact hret _ _ _ _ _ hC h dX1_plan_30
def wp_X2_remove_58 (K : kS → Prop) (x1 : Nat) (S : kS) : Prop := hasO S x1 4 ∧ ∀ S17 : kS, S17 = cR S 25 x1 none → hasO S17 x1 4 ∧ ∀ S18 : kS, S18 = cR S17 26 x1 none → hasO S18 x1 4 ∧ ∀ S19 : kS, S19 = cR S18 27 x1 none → K S19
def wp_X2_remove_29 (K : kS → Prop) (x0 : Nat) (x1 : Nat) (S : kS) : Prop := hasO S x1 4 ∧ ∀ z9 : Option Nat, z9 = S.2.1 27 x1 → ((z9 = none → hasO S x1 4 ∧ ∀ z11 : Option Nat, z11 = S.2.1 26 x1 → hasO S x0 2 ∧ ∀ S12 : kS, S12 = cR S 13 x0 z11 → wp_X2_remove_58 K x1 S12) ∧ (∀ q10 : Nat, z9 = some q10 → hasO S x1 4 ∧ ∀ z13 : Option Nat, z13 = S.2.1 27 x1 → hasO S x1 4 ∧ ∀ z14 : Option Nat, z14 = S.2.1 26 x1 → ∃ q15 : Nat, z13 = some q15 ∧ hasO S q15 4 ∧ ∀ S16 : kS, S16 = cR S 26 q15 z14 → wp_X2_remove_58 K x1 S16))
def wp_X2_remove (t0 : Nat) (a0 : Nat) (S : kS) (K : kS → Prop) : Prop := hasO S a0 4 ∧ ∀ z1 : Option Nat, z1 = S.2.1 26 a0 → ((z1 = none → hasO S a0 4 ∧ ∀ z3 : Option Nat, z3 = S.2.1 27 a0 → hasO S t0 2 ∧ ∀ S4 : kS, S4 = cR S 12 t0 z3 → wp_X2_remove_29 K t0 a0 S4) ∧ (∀ q2 : Nat, z1 = some q2 → hasO S a0 4 ∧ ∀ z5 : Option Nat, z5 = S.2.1 26 a0 → hasO S a0 4 ∧ ∀ z6 : Option Nat, z6 = S.2.1 27 a0 → ∃ q7 : Nat, z5 = some q7 ∧ hasO S q7 4 ∧ ∀ S8 : kS, S8 = cR S 27 q7 z6 → wp_X2_remove_29 K t0 a0 S8))
set_option maxHeartbeats 4000000 in
set_option maxRecDepth 100000 in
theorem kt_X2_remove (l : Launch) (S : kS) (t0 : Nat) (a0 : Nat) (K : kS → Prop) (h : wp_X2_remove t0 a0 S K) : kMv l yX2_remove cX2_remove 2 none 0 0 [.ref t0, .ref a0] S K := by
  refine kv_ofv (own := RX2) (by decide) rfl (Nat.le_of_ble_eq_true rfl) ?_
  intro E p e R s m args below meth c A ls Q hRf hRl hX hC hl hret
  have hx := hX.1.1
  have hb := hX.1.2.1
  have hown := hX.1.2.2.2.1
  have hts := hX.1.2.2.2.2
  have cut58 : ∀ (x1 : Nat) (S : kS) (H : Heap) (locs : List Loc) (ls : Array Slot), wp_X2_remove_58 K x1 S → cM E A s.heap S H locs → lv_has ls 2 [(1, .ref x1)] → W p l e R s m args below meth c H locs 0 0 Q (F0 m 58 ls []) := by
    intro x1 S H locs ls h hC hl
    unfold wp_X2_remove_58 at h
    refine lv_aload_n hx hb dX2_remove_58 rfl (lv_at hl 0 rfl) ?_
    refine lv_null hx hb dX2_remove_59 ?_
    refine cq_putr (v := none) (ci := 4) (k := 9) (f := 25) hX hC rfl in_X4 (by decide) wd_1078 (fun _ h9 => h9) tyX4 tyX4_ok nmX4 rfl rfl (fun _ _ => Nat.le_of_ble_eq_true rfl) (fun _ _ _ => rfl) dX2_remove_60 h.1 h.2 (fun S17 H locs hC h => ?_)
    refine lv_aload_n hx hb dX2_remove_63 rfl (lv_at hl 0 rfl) ?_
    refine lv_null hx hb dX2_remove_64 ?_
    refine cq_putr (v := none) (ci := 4) (k := 10) (f := 26) hX hC rfl in_X4 (by decide) wd_1080 (fun _ h9 => h9) tyX4 tyX4_ok nmX4 rfl rfl (fun _ _ => Nat.le_of_ble_eq_true rfl) (fun _ _ _ => rfl) dX2_remove_65 h.1 h.2 (fun S18 H locs hC h => ?_)
    refine lv_aload_n hx hb dX2_remove_68 rfl (lv_at hl 0 rfl) ?_
    refine lv_null hx hb dX2_remove_69 ?_
    refine cq_putr (v := none) (ci := 4) (k := 11) (f := 27) hX hC rfl in_X4 (by decide) wd_1082 (fun _ h9 => h9) tyX4 tyX4_ok nmX4 rfl rfl (fun _ _ => Nat.le_of_ble_eq_true rfl) (fun _ _ _ => rfl) dX2_remove_70 h.1 h.2 (fun S19 H locs hC h => ?_)
    exact hret _ _ _ _ _ hC h dX2_remove_73
  have cut29 : ∀ (x0 : Nat) (x1 : Nat) (S : kS) (H : Heap) (locs : List Loc) (ls : Array Slot), wp_X2_remove_29 K x0 x1 S → cM E A s.heap S H locs → lv_has ls 2 [(0, .ref x0), (1, .ref x1)] → W p l e R s m args below meth c H locs 0 0 Q (F0 m 29 ls []) := by
    intro x0 x1 S H locs ls h hC hl
    unfold wp_X2_remove_29 at h
    refine lv_aload_n hx hb dX2_remove_29 rfl (lv_at hl 1 rfl) ?_
    refine cq_getr (ci := 4) (k := 11) (f := 27) hX hC rfl in_X4 (by decide) wd_1082 (fun _ h9 => h9) (fun _ _ => rfl) dX2_remove_30 h (fun z9 h => ?_)
    rcases z9 with _ | q10
    · have h := h.1 rfl
      refine lv_ifnonnullN hx hb dX2_remove_33 ?_
      refine lv_aload_n hx hb dX2_remove_36 rfl (lv_at hl 0 rfl) ?_
      refine lv_aload_n hx hb dX2_remove_37 rfl (lv_at hl 1 rfl) ?_
      refine cq_getr (ci := 4) (k := 10) (f := 26) hX hC rfl in_X4 (by decide) wd_1080 (fun _ h9 => h9) (fun _ _ => rfl) dX2_remove_38 h (fun z11 h => ?_)
      refine cq_putr (v := z11) (ci := 2) (k := 1) (f := 13) hX hC rfl in_X2 (by decide) wd_210 (fun _ h9 => h9) tyX2 tyX2_ok nmX2 rfl rfl (fun _ _ => Nat.le_of_ble_eq_true rfl) (fun _ _ _ => rfl) dX2_remove_41 h.1 h.2 (fun S12 H locs hC h => ?_)
      refine lv_goto (tgt := 58) hx hb dX2_remove_44 (by decide) ?_
      exact cut58 x1 S12 _ _ _ h hC (lv_sub hl [1] rfl)
    · have h := h.2 q10 rfl
      refine lv_ifnonnull (tgt := 47) hx hb dX2_remove_33 (by decide) ?_
      refine lv_aload_n hx hb dX2_remove_47 rfl (lv_at hl 1 rfl) ?_
      refine cq_getr (ci := 4) (k := 11) (f := 27) hX hC rfl in_X4 (by decide) wd_1082 (fun _ h9 => h9) (fun _ _ => rfl) dX2_remove_48 h (fun z13 h => ?_)
      refine lv_aload_n hx hb dX2_remove_51 rfl (lv_at hl 1 rfl) ?_
      refine cq_getr (ci := 4) (k := 10) (f := 26) hX hC rfl in_X4 (by decide) wd_1080 (fun _ h9 => h9) (fun _ _ => rfl) dX2_remove_52 h (fun z14 h => ?_)
      obtain ⟨q15, e9, hh⟩ := h
      subst e9
      have h := hh
      clear hh
      refine cq_putr (v := z14) (ci := 4) (k := 10) (f := 26) hX hC rfl in_X4 (by decide) wd_1080 (fun _ h9 => h9) tyX4 tyX4_ok nmX4 rfl rfl (fun _ _ => Nat.le_of_ble_eq_true rfl) (fun _ _ _ => rfl) dX2_remove_55 h.1 h.2 (fun S16 H locs hC h => ?_)
      exact cut58 x1 S16 _ _ _ h hC (lv_sub hl [1] rfl)
  have hl : lv_has ls 2 [(0, .ref t0), (1, .ref a0)] := hl
  unfold wp_X2_remove at h
  refine lv_aload_n hx hb dX2_remove_0 rfl (lv_at hl 1 rfl) ?_
  refine cq_getr (ci := 4) (k := 10) (f := 26) hX hC rfl in_X4 (by decide) wd_1080 (fun _ h9 => h9) (fun _ _ => rfl) dX2_remove_1 h (fun z1 h => ?_)
  rcases z1 with _ | q2
  · have h := h.1 rfl
    refine lv_ifnonnullN hx hb dX2_remove_4 ?_
    refine lv_aload_n hx hb dX2_remove_7 rfl (lv_at hl 0 rfl) ?_
    refine lv_aload_n hx hb dX2_remove_8 rfl (lv_at hl 1 rfl) ?_
    refine cq_getr (ci := 4) (k := 11) (f := 27) hX hC rfl in_X4 (by decide) wd_1082 (fun _ h9 => h9) (fun _ _ => rfl) dX2_remove_9 h (fun z3 h => ?_)
    refine cq_putr (v := z3) (ci := 2) (k := 0) (f := 12) hX hC rfl in_X2 (by decide) wd_208 (fun _ h9 => h9) tyX2 tyX2_ok nmX2 rfl rfl (fun _ _ => Nat.le_of_ble_eq_true rfl) (fun _ _ _ => rfl) dX2_remove_12 h.1 h.2 (fun S4 H locs hC h => ?_)
    refine lv_goto (tgt := 29) hx hb dX2_remove_15 (by decide) ?_
    exact cut29 t0 a0 S4 _ _ _ h hC (lv_sub hl [0, 1] rfl)
  · have h := h.2 q2 rfl
    refine lv_ifnonnull (tgt := 18) hx hb dX2_remove_4 (by decide) ?_
    refine lv_aload_n hx hb dX2_remove_18 rfl (lv_at hl 1 rfl) ?_
    refine cq_getr (ci := 4) (k := 10) (f := 26) hX hC rfl in_X4 (by decide) wd_1080 (fun _ h9 => h9) (fun _ _ => rfl) dX2_remove_19 h (fun z5 h => ?_)
    refine lv_aload_n hx hb dX2_remove_22 rfl (lv_at hl 1 rfl) ?_
    refine cq_getr (ci := 4) (k := 11) (f := 27) hX hC rfl in_X4 (by decide) wd_1082 (fun _ h9 => h9) (fun _ _ => rfl) dX2_remove_23 h (fun z6 h => ?_)
    obtain ⟨q7, e9, hh⟩ := h
    subst e9
    have h := hh
    clear hh
    refine cq_putr (v := z6) (ci := 4) (k := 11) (f := 27) hX hC rfl in_X4 (by decide) wd_1082 (fun _ h9 => h9) tyX4 tyX4_ok nmX4 rfl rfl (fun _ _ => Nat.le_of_ble_eq_true rfl) (fun _ _ _ => rfl) dX2_remove_26 h.1 h.2 (fun S8 H locs hC h => ?_)
    exact cut29 t0 a0 S8 _ _ _ h hC (lv_sub hl [0, 1] rfl)
def wp_X4_isAdrift_5 (K : kS → Int32 → Prop) (k5 : Option Nat × kS → Prop) (x1 : Option Nat) (S : kS) : Prop := ((x1 = none → K S 0) ∧ (∀ q2 : Nat, x1 = some q2 → hasO S q2 4 ∧ ∀ z3 : Int32, z3 = S.1 13 q2 → ((z3 = 0 → hasO S q2 4 ∧ ∀ z5 : Option Nat, z5 = S.2.1 23 q2 → k5 (z5, S)) ∧ (¬ z3 = 0 → K S 1))))
def ls_X4_isAdrift_5 (K : kS → Int32 → Prop) (k5 : Option Nat × kS → Prop) (u : Option Nat × kS) : Prop := wp_X4_isAdrift_5 K k5 u.1 u.2
def wp_X4_isAdrift (t0 : Nat) (S : kS) (K : kS → Int32 → Prop) : Prop := hasO S t0 4 ∧ ∀ z1 : Option Nat, z1 = S.2.1 23 t0 → (∃ n9, it (ls_X4_isAdrift_5 K) n9 (z1, S))
set_option maxHeartbeats 4000000 in
set_option maxRecDepth 100000 in
theorem kt_X4_isAdrift (l : Launch) (S : kS) (t0 : Nat) (K : kS → Int32 → Prop) (h : wp_X4_isAdrift t0 S K) : kMi l yX4_isAdrift cX4_isAdrift 2 (some .boolean) 0 0 [.ref t0] S K := by
  refine kv_ofz (own := RX4) (by decide) rfl (Nat.le_of_ble_eq_true rfl) ?_
  intro E p e R s m args below meth c A ls Q hRf hRl hX hC hl hret
  have hx := hX.1.1
  have hb := hX.1.2.1
  have hown := hX.1.2.2.2.1
  have hts := hX.1.2.2.2.2
  have cut5 : ∀ (n5 : Nat) (x1 : Option Nat) (S : kS) (H : Heap) (locs : List Loc) (ls : Array Slot), it (ls_X4_isAdrift_5 K) n5 (x1, S) → cM E A s.heap S H locs → lv_has ls 2 [(1, va_rf x1)] → W p l e R s m args below meth c H locs 0 0 Q (F0 m 5 ls []) := by
    intro n5
    induction n5 with
    | zero => intro x1 S H locs ls h hC hl; exact h.elim
    | succ n5 ih5 =>
      intro x1 S H locs ls h hC hl
      have h : wp_X4_isAdrift_5 K (it (ls_X4_isAdrift_5 K) n5) x1 S := h
      unfold wp_X4_isAdrift_5 at h
      refine lo_aload_n hx hb dX4_isAdrift_5 rfl (lv_at hl 0 rfl) ?_
      rcases x1 with _ | q2
      · have h := h.1 rfl
        refine lv_ifnullN (tgt := 26) hx hb dX4_isAdrift_6 (by decide) ?_
        refine lv_iconst (v := 0) hx hb dX4_isAdrift_26 (by decide) ?_
        exact hret _ _ _ _ _ _ hC (Or.inl rfl) h dX4_isAdrift_27
      · have h := h.2 q2 rfl
        refine lv_ifnull hx hb dX4_isAdrift_6 ?_
        refine lv_aload_n hx hb dX4_isAdrift_9 rfl (lv_at hl 0 rfl) ?_
        refine cq_geti (ci := 4) (k := 2) (f := 13) hX hC rfl in_X4 (by decide) wd_1061 (fun _ h9 => h9) (fun _ _ => rfl) dX4_isAdrift_10 h (fun z3 h => ?_)
        refine lv_if_eq (tgt := 18) hx hb dX4_isAdrift_13 (by decide) (fun c4 => ?_) (fun c4 => ?_)
        · have h := h.1 c4
          refine lv_aload_n hx hb dX4_isAdrift_18 rfl (lv_at hl 0 rfl) ?_
          refine cq_getr (ci := 4) (k := 7) (f := 23) hX hC rfl in_X4 (by decide) wd_1074 (fun _ h9 => h9) (fun _ _ => rfl) dX4_isAdrift_19 h (fun z5 h => ?_)
          refine lo_astore_n (lv' := [(1, va_rf z5)]) hx hb dX4_isAdrift_22 rfl hl (by decide) (by rcases z5 with _ | _ <;> rfl) (fun ls hl => ?_)
          refine lv_goto (tgt := 5) hx hb dX4_isAdrift_23 (by decide) ?_
          exact ih5 z5 S _ _ _ h hC (lv_sub hl [0] rfl)
        · have h := h.2 c4
          refine lv_iconst (v := 1) hx hb dX4_isAdrift_16 (by decide) ?_
          exact hret _ _ _ _ _ _ hC (Or.inr rfl) h dX4_isAdrift_17
  have hl : lv_has ls 2 [(0, .ref t0)] := hl
  unfold wp_X4_isAdrift at h
  refine lv_aload_n hx hb dX4_isAdrift_0 rfl (lv_at hl 0 rfl) ?_
  refine cq_getr (ci := 4) (k := 7) (f := 23) hX hC rfl in_X4 (by decide) wd_1074 (fun _ h9 => h9) (fun _ _ => rfl) dX4_isAdrift_1 h (fun z1 h => ?_)
  refine lo_astore_n (lv' := [(1, va_rf z1), (0, .ref t0)]) hx hb dX4_isAdrift_4 rfl hl (by decide) (by rcases z1 with _ | _ <;> rfl) (fun ls hl => ?_)
  obtain ⟨n9, h⟩ := h
  exact cut5 n9 z1 S _ _ _ h hC (lv_sub hl [0] rfl)
def wp_X1_drop_65 (K : kS → Prop) (k5 : Nat × Int32 × Option Nat × kS → Prop) (x0 : Nat) (x2 : Int32) (x3 : Nat) (S : kS) : Prop := hasO S x3 4 ∧ ∀ z20 : Option Nat, z20 = S.2.1 24 x3 → k5 (x0, x2, z20, S)
def wp_X1_drop_47 (K : kS → Prop) (k5 : Nat × Int32 × Option Nat × kS → Prop) (x0 : Nat) (x2 : Int32) (x3 : Nat) (S : kS) : Prop := hasO S x3 4 ∧ ∀ z14 : Option Nat, z14 = S.2.1 22 x3 → ((z14 = none → wp_X1_drop_65 K k5 x0 x2 x3 S) ∧ (∀ q15 : Nat, z14 = some q15 → hasO S x3 4 ∧ ∀ z16 : Option Nat, z16 = S.2.1 22 x3 → ∃ q17 : Nat, z16 = some q17 ∧ hasO S q17 9 ∧ ∀ z18 : Int32, z18 = S.1 28 q17 → hasO S x0 1 ∧ wp_X1_plan x0 z18 S (fun (S19 : kS) => wp_X1_drop_65 K k5 x0 x2 x3 S19)))
def wp_X1_drop_27 (K : kS → Prop) (k5 : Nat × Int32 × Option Nat × kS → Prop) (x0 : Nat) (x2 : Int32) (x3 : Nat) (S : kS) : Prop := hasO S x3 4 ∧ ∀ S8 : kS, S8 = cI S 13 x3 3 → hasO S8 x3 4 ∧ ∀ z9 : Option Nat, z9 = S8.2.1 25 x3 → ((z9 = none → wp_X1_drop_47 K k5 x0 x2 x3 S8) ∧ (∀ q10 : Nat, z9 = some q10 → hasO S8 x3 4 ∧ ∀ z11 : Option Nat, z11 = S8.2.1 25 x3 → ∃ q12 : Nat, z11 = some q12 ∧ hasO S8 q12 2 ∧ wp_X2_remove q12 x3 S8 (fun (S13 : kS) => wp_X1_drop_47 K k5 x0 x2 x3 S13)))
def wp_X1_drop_5 (K : kS → Prop) (k5 : Nat × Int32 × Option Nat × kS → Prop) (x0 : Nat) (x2 : Int32) (x3 : Option Nat) (S : kS) : Prop := ((x3 = none → K S) ∧ (∀ q2 : Nat, x3 = some q2 → hasO S q2 4 ∧ ∀ z3 : Int32, z3 = S.1 13 q2 → ((¬ z3 = 0 → wp_X1_drop_65 K k5 x0 x2 q2 S) ∧ (z3 = 0 → ((¬ x2 = 0 → wp_X1_drop_27 K k5 x0 x2 q2 S) ∧ (x2 = 0 → hasO S q2 4 ∧ wp_X4_isAdrift q2 S (fun (S6 : kS) (r6 : Int32) => ((r6 = 0 → wp_X1_drop_65 K k5 x0 x2 q2 S6) ∧ (¬ r6 = 0 → wp_X1_drop_27 K k5 x0 x2 q2 S6)))))))))
def ls_X1_drop_5 (K : kS → Prop) (k5 : Nat × Int32 × Option Nat × kS → Prop) (u : Nat × Int32 × Option Nat × kS) : Prop := wp_X1_drop_5 K k5 u.1 u.2.1 u.2.2.1 u.2.2.2
def wp_X1_drop (t0 : Nat) (a0 : Nat) (a1 : Int32) (S : kS) (K : kS → Prop) : Prop := hasO S a0 9 ∧ ∀ z1 : Option Nat, z1 = S.2.1 61 a0 → (∃ n9, it (ls_X1_drop_5 K) n9 (t0, a1, z1, S))
theorem cw_X1_228 {R : Room} {s : State} {args : Array Value} {fr lo : Nat} (hts : ∀ w ∈ tb, w.before args s = true) (h1 : fr + 1 ≤ R.frames) (h2 : 8 + (2 + 11) + lo ≤ R.locals) : CallW R s args RX1 RX4 228 yX4_isAdrift cX4_isAdrift 2 (some .boolean) (.code yX4_isAdrift cX4_isAdrift 2 (some .boolean) :: tb) (mRm fr lo) 0 0 0 := cwV 0 hts (gd_V wd_1164 wd_1165 wd_1166 wd_23 wd_1167) rfl rfl rfl (by decide +kernel) ⟨h1, h2⟩
theorem cw_X1_215 {R : Room} {s : State} {args : Array Value} {fr lo : Nat} (hts : ∀ w ∈ tb, w.before args s = true) (h1 : fr + 1 ≤ R.frames) (h2 : 8 + (2 + 11) + lo ≤ R.locals) : CallW R s args RX1 RX2 215 yX2_remove cX2_remove 2 none (.code yX2_remove cX2_remove 2 none :: tb) (mRm fr lo) 0 0 1 := cwV 1 hts (gd_V wd_1168 wd_1169 wd_1170 wd_10 wd_1171) rfl rfl rfl (by decide +kernel) ⟨h1, h2⟩
theorem cw_X1_198 {R : Room} {s : State} {args : Array Value} {fr lo : Nat} (hts : ∀ w ∈ tb, w.before args s = true) (h1 : fr + 1 ≤ R.frames) (h2 : 8 + (2 + 11) + lo ≤ R.locals) : CallW R s args RX1 RX1 198 yX1_plan cX1_plan 2 none (.code yX1_plan cX1_plan 2 none :: tb) (mRm fr lo) 0 0 1 := cwV 1 hts (gd_V wd_1152 wd_1154 sl_X1_plan wd_9 wd_1155) rfl rfl rfl (by decide +kernel) ⟨h1, h2⟩
set_option maxHeartbeats 4000000 in
set_option maxRecDepth 100000 in
theorem kt_X1_drop (l : Launch) (S : kS) (t0 : Nat) (a0 : Nat) (a1 : Int32) (K : kS → Prop) (h : wp_X1_drop t0 a0 a1 S K) : kMv l yX1_drop cX1_drop 4 none 1 21 [.ref t0, .ref a0, .int a1] S K := by
  refine kv_ofv (own := RX1) (by decide) rfl (Nat.le_of_ble_eq_true rfl) ?_
  intro E p e R s m args below meth c A ls Q hRf hRl hX hC hl hret
  have hx := hX.1.1
  have hb := hX.1.2.1
  have hown := hX.1.2.2.2.1
  have hts := hX.1.2.2.2.2
  have cut5 : ∀ (n5 : Nat) (x0 : Nat) (x2 : Int32) (x3 : Option Nat) (S : kS) (H : Heap) (locs : List Loc) (ls : Array Slot), it (ls_X1_drop_5 K) n5 (x0, x2, x3, S) → cM E A s.heap S H locs → lv_has ls 4 [(0, .ref x0), (2, .int x2), (3, va_rf x3)] → W p l e R s m args below meth c H locs 0 0 Q (F0 m 5 ls []) := by
    intro n5
    induction n5 with
    | zero => intro x0 x2 x3 S H locs ls h hC hl; exact h.elim
    | succ n5 ih5 =>
      have cut65 : ∀ (x0 : Nat) (x2 : Int32) (x3 : Nat) (S : kS) (H : Heap) (locs : List Loc) (ls : Array Slot), wp_X1_drop_65 K (it (ls_X1_drop_5 K) n5) x0 x2 x3 S → cM E A s.heap S H locs → lv_has ls 4 [(0, .ref x0), (2, .int x2), (3, .ref x3)] → W p l e R s m args below meth c H locs 0 0 Q (F0 m 65 ls []) := by
        intro x0 x2 x3 S H locs ls h hC hl
        unfold wp_X1_drop_65 at h
        refine lv_aload_n hx hb dX1_drop_65 rfl (lv_at hl 2 rfl) ?_
        refine cq_getr (ci := 4) (k := 8) (f := 24) hX hC rfl in_X4 (by decide) wd_1077 (fun _ h9 => h9) (fun _ _ => rfl) dX1_drop_66 h (fun z20 h => ?_)
        refine lo_astore_n (lv' := [(3, va_rf z20), (0, .ref x0), (2, .int x2)]) hx hb dX1_drop_69 rfl hl (by decide) (by rcases z20 with _ | _ <;> rfl) (fun ls hl => ?_)
        refine lv_goto (tgt := 5) hx hb dX1_drop_70 (by decide) ?_
        exact ih5 x0 x2 z20 S _ _ _ h hC (lv_sub hl [1, 2, 0] rfl)
      have cut47 : ∀ (x0 : Nat) (x2 : Int32) (x3 : Nat) (S : kS) (H : Heap) (locs : List Loc) (ls : Array Slot), wp_X1_drop_47 K (it (ls_X1_drop_5 K) n5) x0 x2 x3 S → cM E A s.heap S H locs → lv_has ls 4 [(0, .ref x0), (2, .int x2), (3, .ref x3)] → W p l e R s m args below meth c H locs 0 0 Q (F0 m 47 ls []) := by
        intro x0 x2 x3 S H locs ls h hC hl
        unfold wp_X1_drop_47 at h
        refine lv_aload_n hx hb dX1_drop_47 rfl (lv_at hl 2 rfl) ?_
        refine cq_getr (ci := 4) (k := 6) (f := 22) hX hC rfl in_X4 (by decide) wd_1072 (fun _ h9 => h9) (fun _ _ => rfl) dX1_drop_48 h (fun z14 h => ?_)
        rcases z14 with _ | q15
        · have h := h.1 rfl
          refine lv_ifnullN (tgt := 65) hx hb dX1_drop_51 (by decide) ?_
          exact cut65 x0 x2 x3 S _ _ _ h hC (lv_sub hl [0, 1, 2] rfl)
        · have h := h.2 q15 rfl
          refine lv_ifnull hx hb dX1_drop_51 ?_
          refine lv_aload_n hx hb dX1_drop_54 rfl (lv_at hl 0 rfl) ?_
          refine lv_aload_n hx hb dX1_drop_55 rfl (lv_at hl 2 rfl) ?_
          refine cq_getr (ci := 4) (k := 6) (f := 22) hX hC rfl in_X4 (by decide) wd_1072 (fun _ h9 => h9) (fun _ _ => rfl) dX1_drop_56 h (fun z16 h => ?_)
          obtain ⟨q17, e9, hh⟩ := h
          subst e9
          have h := hh
          clear hh
          refine cq_geti (ci := 9) (k := 0) (f := 28) hX hC rfl in_X9 (by decide) wd_864 (fun _ h9 => h9) (fun _ _ => rfl) dX1_drop_59 h (fun z18 h => ?_)
          refine kv_callv [.int z18] (rest := []) (ci := 1) rfl hX hC h.1 (kt_X1_plan l S x0 z18 _ h.2 E _) (cw_X1_198 hts (by omega) (by omega)) rfl hl.1 (Nat.le_of_ble_eq_true rfl) ⟨Nat.zero_le _, Nat.zero_le _⟩ dX1_drop_62 (fun S19 H locs hC h => ?_)
          exact cut65 x0 x2 x3 S19 _ _ _ h hC (lv_sub hl [0, 1, 2] rfl)
      have cut27 : ∀ (x0 : Nat) (x2 : Int32) (x3 : Nat) (S : kS) (H : Heap) (locs : List Loc) (ls : Array Slot), wp_X1_drop_27 K (it (ls_X1_drop_5 K) n5) x0 x2 x3 S → cM E A s.heap S H locs → lv_has ls 4 [(0, .ref x0), (2, .int x2), (3, .ref x3)] → W p l e R s m args below meth c H locs 0 0 Q (F0 m 27 ls []) := by
        intro x0 x2 x3 S H locs ls h hC hl
        unfold wp_X1_drop_27 at h
        refine lv_aload_n hx hb dX1_drop_27 rfl (lv_at hl 2 rfl) ?_
        refine lv_iconst (v := 3) hx hb dX1_drop_28 (by decide) ?_
        refine cq_puti (v := 3) (ci := 4) (k := 2) (f := 13) hX hC rfl in_X4 (by decide) wd_1062 (fun _ h9 => h9) tyX4 tyX4_ok nmX4 rfl rfl rfl (fun _ _ => Nat.le_of_ble_eq_true rfl) (fun _ _ _ => rfl) dX1_drop_29 h.1 h.2 (fun S8 H locs hC h => ?_)
        refine lv_aload_n hx hb dX1_drop_32 rfl (lv_at hl 2 rfl) ?_
        refine cq_getr (ci := 4) (k := 9) (f := 25) hX hC rfl in_X4 (by decide) wd_1079 (fun _ h9 => h9) (fun _ _ => rfl) dX1_drop_33 h (fun z9 h => ?_)
        rcases z9 with _ | q10
        · have h := h.1 rfl
          refine lv_ifnullN (tgt := 47) hx hb dX1_drop_36 (by decide) ?_
          exact cut47 x0 x2 x3 S8 _ _ _ h hC (lv_sub hl [0, 1, 2] rfl)
        · have h := h.2 q10 rfl
          refine lv_ifnull hx hb dX1_drop_36 ?_
          refine lv_aload_n hx hb dX1_drop_39 rfl (lv_at hl 2 rfl) ?_
          refine cq_getr (ci := 4) (k := 9) (f := 25) hX hC rfl in_X4 (by decide) wd_1079 (fun _ h9 => h9) (fun _ _ => rfl) dX1_drop_40 h (fun z11 h => ?_)
          refine lv_aload_n hx hb dX1_drop_43 rfl (lv_at hl 2 rfl) ?_
          obtain ⟨q12, e9, hh⟩ := h
          subst e9
          have h := hh
          clear hh
          refine kv_callv [.ref x3] (rest := []) (ci := 2) rfl hX hC h.1 (kt_X2_remove l S8 q12 x3 _ h.2 E _) (cw_X1_215 hts (by omega) (by omega)) rfl hl.1 (Nat.le_of_ble_eq_true rfl) ⟨Nat.zero_le _, Nat.zero_le _⟩ dX1_drop_44 (fun S13 H locs hC h => ?_)
          exact cut47 x0 x2 x3 S13 _ _ _ h hC (lv_sub hl [0, 1, 2] rfl)
      intro x0 x2 x3 S H locs ls h hC hl
      have h : wp_X1_drop_5 K (it (ls_X1_drop_5 K) n5) x0 x2 x3 S := h
      unfold wp_X1_drop_5 at h
      refine lo_aload_n hx hb dX1_drop_5 rfl (lv_at hl 2 rfl) ?_
      rcases x3 with _ | q2
      · have h := h.1 rfl
        refine lv_ifnullN (tgt := 73) hx hb dX1_drop_6 (by decide) ?_
        exact hret _ _ _ _ _ hC h dX1_drop_73
      · have h := h.2 q2 rfl
        refine lv_ifnull hx hb dX1_drop_6 ?_
        refine lv_aload_n hx hb dX1_drop_9 rfl (lv_at hl 2 rfl) ?_
        refine cq_geti (ci := 4) (k := 2) (f := 13) hX hC rfl in_X4 (by decide) wd_1062 (fun _ h9 => h9) (fun _ _ => rfl) dX1_drop_10 h (fun z3 h => ?_)
        refine lv_if_ne (tgt := 65) hx hb dX1_drop_13 (by decide) (fun c4 => ?_) (fun c4 => ?_)
        · have h := h.1 c4
          exact cut65 x0 x2 q2 S _ _ _ h hC (lv_sub hl [0, 1, 2] rfl)
        · have h := h.2 c4
          refine lv_iload_n hx hb dX1_drop_16 rfl (lv_at hl 1 rfl) ?_
          refine lv_if_ne (tgt := 27) hx hb dX1_drop_17 (by decide) (fun c5 => ?_) (fun c5 => ?_)
          · have h := h.1 c5
            exact cut27 x0 x2 q2 S _ _ _ h hC (lv_sub hl [0, 1, 2] rfl)
          · have h := h.2 c5
            refine lv_aload_n hx hb dX1_drop_20 rfl (lv_at hl 2 rfl) ?_
            refine kv_calli [] (rest := []) (ci := 4) rfl hX hC h.1 (kt_X4_isAdrift l S q2 _ h.2 E _) (cw_X1_228 hts (by omega) (by omega)) rfl hl.1 (Nat.le_of_ble_eq_true rfl) ⟨Nat.zero_le _, Nat.zero_le _⟩ dX1_drop_21 (fun r6 S6 H locs hC h => ?_)
            refine lv_if_eq (tgt := 65) hx hb dX1_drop_24 (by decide) (fun c7 => ?_) (fun c7 => ?_)
            · have h := h.1 c7
              exact cut65 x0 x2 q2 S6 _ _ _ h hC (lv_sub hl [0, 1, 2] rfl)
            · have h := h.2 c7
              exact cut27 x0 x2 q2 S6 _ _ _ h hC (lv_sub hl [0, 1, 2] rfl)
  have hl : lv_has ls 4 [(0, .ref t0), (1, .ref a0), (2, .int a1)] := hl
  unfold wp_X1_drop at h
  refine lv_aload_n hx hb dX1_drop_0 rfl (lv_at hl 1 rfl) ?_
  refine cq_getr (ci := 9) (k := 14) (f := 61) hX hC rfl in_X9 (by decide) wd_898 (fun _ h9 => h9) (fun _ _ => rfl) dX1_drop_1 h (fun z1 h => ?_)
  refine lo_astore_n (lv' := [(3, va_rf z1), (0, .ref t0), (1, .ref a0), (2, .int a1)]) hx hb dX1_drop_4 rfl hl (by decide) (by rcases z1 with _ | _ <;> rfl) (fun ls hl => ?_)
  obtain ⟨n9, h⟩ := h
  exact cut5 n9 t0 a1 z1 S _ _ _ h hC (lv_sub hl [1, 3, 0] rfl)
def wp_X1_turnRound_9 (K : kS → Prop) (k9 : Nat × Int32 × Int32 × kS → Prop) (x0 : Nat) (x2 : Int32) (x3 : Int32) (S : kS) : Prop := ((x3 ≤ x2 → K S) ∧ (¬ x3 ≤ x2 → hasO S x0 1 ∧ ∀ z4 : Option Nat, z4 = S.2.1 10 x0 → ∃ q5 : Nat, z4 = some q5 ∧ hasA S q5 416 0 ∧ inR x2 416 ∧ ∀ z6 : Int32, z6 = S.2.2.1 q5 (ix x2) → hasO S x0 1 ∧ ∀ z7 : Option Nat, z7 = S.2.1 10 x0 → hasO S x0 1 ∧ ∀ z8 : Option Nat, z8 = S.2.1 10 x0 → ∃ q9 : Nat, z8 = some q9 ∧ hasA S q9 416 0 ∧ inR x3 416 ∧ ∀ z10 : Int32, z10 = S.2.2.1 q9 (ix x3) → ∃ q11 : Nat, z7 = some q11 ∧ hasA S q11 416 0 ∧ inR x2 416 ∧ ∀ S12 : kS, S12 = cA S q11 (ix x2) z10 → hasO S12 x0 1 ∧ ∀ z13 : Option Nat, z13 = S12.2.1 10 x0 → ∃ q14 : Nat, z13 = some q14 ∧ hasA S12 q14 416 0 ∧ inR x3 416 ∧ ∀ S15 : kS, S15 = cA S12 q14 (ix x3) z6 → ∀ z16 : Int32, z16 = x2 + 1 → ∀ z17 : Int32, z17 = x3 + (-1) → k9 (x0, z16, z17, S15)))
def ls_X1_turnRound_9 (K : kS → Prop) (k9 : Nat × Int32 × Int32 × kS → Prop) (u : Nat × Int32 × Int32 × kS) : Prop := wp_X1_turnRound_9 K k9 u.1 u.2.1 u.2.2.1 u.2.2.2
def wp_X1_turnRound (t0 : Nat) (a0 : Int32) (S : kS) (K : kS → Prop) : Prop := hasO S t0 1 ∧ ∀ z1 : Int32, z1 = S.1 5 t0 → ∀ z2 : Int32, z2 = z1 - 1 → (∃ n9, it (ls_X1_turnRound_9 K) n9 (t0, a0, z2, S))
set_option maxHeartbeats 4000000 in
set_option maxRecDepth 100000 in
theorem kt_X1_turnRound (l : Launch) (S : kS) (t0 : Nat) (a0 : Int32) (K : kS → Prop) (h : wp_X1_turnRound t0 a0 S K) : kMv l yX1_turnRound cX1_turnRound 5 none 0 0 [.ref t0, .int a0] S K := by
  refine kv_ofv (own := RX1) (by decide) rfl (Nat.le_of_ble_eq_true rfl) ?_
  intro E p e R s m args below meth c A ls Q hRf hRl hX hC hl hret
  have hx := hX.1.1
  have hb := hX.1.2.1
  have hown := hX.1.2.2.2.1
  have hts := hX.1.2.2.2.2
  have cut9 : ∀ (n9 : Nat) (x0 : Nat) (x2 : Int32) (x3 : Int32) (S : kS) (H : Heap) (locs : List Loc) (ls : Array Slot), it (ls_X1_turnRound_9 K) n9 (x0, x2, x3, S) → cM E A s.heap S H locs → lv_has ls 5 [(0, .ref x0), (2, .int x2), (3, .int x3)] → W p l e R s m args below meth c H locs 0 0 Q (F0 m 9 ls []) := by
    intro n9
    induction n9 with
    | zero => intro x0 x2 x3 S H locs ls h hC hl; exact h.elim
    | succ n9 ih9 =>
      intro x0 x2 x3 S H locs ls h hC hl
      have h : wp_X1_turnRound_9 K (it (ls_X1_turnRound_9 K) n9) x0 x2 x3 S := h
      unfold wp_X1_turnRound_9 at h
      refine lv_iload_n hx hb dX1_turnRound_9 rfl (lv_at hl 1 rfl) ?_
      refine lv_iload_n hx hb dX1_turnRound_10 rfl (lv_at hl 2 rfl) ?_
      refine lv_icmp_ge (tgt := 51) hx hb dX1_turnRound_11 (by decide) (fun c3 => ?_) (fun c3 => ?_)
      · have h := h.1 c3
        exact hret _ _ _ _ _ hC h dX1_turnRound_51
      · have h := h.2 c3
        refine lv_aload_n hx hb dX1_turnRound_14 rfl (lv_at hl 0 rfl) ?_
        refine cq_getr (ci := 1) (k := 12) (f := 10) hX hC rfl in_X1 (by decide) wd_259 (fun _ h9 => h9) (fun _ _ => rfl) dX1_turnRound_15 h (fun z4 h => ?_)
        refine lv_iload_n hx hb dX1_turnRound_18 rfl (lv_at hl 1 rfl) ?_
        obtain ⟨q5, e9, hh⟩ := h
        subst e9
        have h := hh
        clear hh
        refine cq_ild hX hC dX1_turnRound_19 h (fun z6 h => ?_)
        refine lv_istore (lv' := [(4, .int z6), (0, .ref x0), (2, .int x2), (3, .int x3)]) hx hb dX1_turnRound_20 hl (by decide) rfl (fun ls hl => ?_)
        refine lv_aload_n hx hb dX1_turnRound_22 rfl (lv_at hl 1 rfl) ?_
        refine cq_getr (ci := 1) (k := 12) (f := 10) hX hC rfl in_X1 (by decide) wd_259 (fun _ h9 => h9) (fun _ _ => rfl) dX1_turnRound_23 h (fun z7 h => ?_)
        refine lv_iload_n hx hb dX1_turnRound_26 rfl (lv_at hl 2 rfl) ?_
        refine lv_aload_n hx hb dX1_turnRound_27 rfl (lv_at hl 1 rfl) ?_
        refine cq_getr (ci := 1) (k := 12) (f := 10) hX hC rfl in_X1 (by decide) wd_259 (fun _ h9 => h9) (fun _ _ => rfl) dX1_turnRound_28 h (fun z8 h => ?_)
        refine lv_iload_n hx hb dX1_turnRound_31 rfl (lv_at hl 3 rfl) ?_
        obtain ⟨q9, e9, hh⟩ := h
        subst e9
        have h := hh
        clear hh
        refine cq_ild hX hC dX1_turnRound_32 h (fun z10 h => ?_)
        obtain ⟨q11, e9, hh⟩ := h
        subst e9
        have h := hh
        clear hh
        refine cq_ist hX hC dX1_turnRound_33 h.1 h.2.1 h.2.2 (fun S12 H locs hC h => ?_)
        refine lv_aload_n hx hb dX1_turnRound_34 rfl (lv_at hl 1 rfl) ?_
        refine cq_getr (ci := 1) (k := 12) (f := 10) hX hC rfl in_X1 (by decide) wd_259 (fun _ h9 => h9) (fun _ _ => rfl) dX1_turnRound_35 h (fun z13 h => ?_)
        refine lv_iload_n hx hb dX1_turnRound_38 rfl (lv_at hl 3 rfl) ?_
        refine lv_iload hx hb dX1_turnRound_39 (lv_at hl 0 rfl) ?_
        obtain ⟨q14, e9, hh⟩ := h
        subst e9
        have h := hh
        clear hh
        refine cq_ist hX hC dX1_turnRound_41 h.1 h.2.1 h.2.2 (fun S15 H locs hC h => ?_)
        obtain ⟨z16, ez16⟩ : ∃ y : Int32, y = x2 + 1 := ⟨_, rfl⟩
        have h := h z16 ez16
        refine lv_iinc (v := z16) (lv' := [(2, .int z16), (4, .int z6), (0, .ref x0), (3, .int x3)]) hx hb dX1_turnRound_42 hl (k := 2) rfl (by rw [ez16]; rfl) (by decide) rfl (fun ls hl => ?_)
        obtain ⟨z17, ez17⟩ : ∃ y : Int32, y = x3 + (-1) := ⟨_, rfl⟩
        have h := h z17 ez17
        refine lv_iinc (v := z17) (lv' := [(3, .int z17), (2, .int z16), (4, .int z6), (0, .ref x0)]) hx hb dX1_turnRound_45 hl (k := 3) rfl (by rw [ez17]; rfl) (by decide) rfl (fun ls hl => ?_)
        refine lv_goto (tgt := 9) hx hb dX1_turnRound_48 (by decide) ?_
        exact ih9 x0 z16 z17 S15 _ _ _ h hC (lv_sub hl [3, 1, 0] rfl)
  have hl : lv_has ls 5 [(0, .ref t0), (1, .int a0)] := hl
  unfold wp_X1_turnRound at h
  refine lv_iload_n hx hb dX1_turnRound_0 rfl (lv_at hl 1 rfl) ?_
  refine lv_istore_n (lv' := [(2, .int a0), (0, .ref t0), (1, .int a0)]) hx hb dX1_turnRound_1 rfl hl (by decide) rfl (fun ls hl => ?_)
  refine lv_aload_n hx hb dX1_turnRound_2 rfl (lv_at hl 1 rfl) ?_
  refine cq_geti (ci := 1) (k := 13) (f := 5) hX hC rfl in_X1 (by decide) wd_260 (fun _ h9 => h9) (fun _ _ => rfl) dX1_turnRound_3 h (fun z1 h => ?_)
  refine lv_iconst (v := 1) hx hb dX1_turnRound_6 (by decide) ?_
  refine lq_isub hx hb dX1_turnRound_7 h (fun z2 h => ?_)
  refine lv_istore_n (lv' := [(3, .int z2), (2, .int a0), (0, .ref t0), (1, .int a0)]) hx hb dX1_turnRound_8 rfl hl (by decide) rfl (fun ls hl => ?_)
  obtain ⟨n9, h⟩ := h
  exact cut9 n9 t0 a0 z2 S _ _ _ h hC (lv_sub hl [2, 1, 0] rfl)
def wp_X4_hears_50 (K : kS → Int32 → Prop) (x0 : Nat) (x1 : Int32) (x2 : Int32) (S : kS) : Prop := hasO S x0 4 ∧ ∀ S13 : kS, S13 = cI S 13 x0 x1 → hasO S13 x0 4 ∧ ∀ S14 : kS, S14 = cI S13 14 x0 x2 → K S14 1
def wp_X4_hears (t0 : Nat) (a0 : Int32) (a1 : Int32) (S : kS) (K : kS → Int32 → Prop) : Prop := hasO S t0 4 ∧ ∀ z1 : Int32, z1 = S.1 12 t0 → ((¬ z1 = 4 → wp_X4_hears_50 K t0 a0 a1 S) ∧ (z1 = 4 → ((¬ a0 = 1 → wp_X4_hears_50 K t0 a0 a1 S) ∧ (a0 = 1 → hasO S t0 4 ∧ ∀ z4 : Int32, z4 = S.1 14 t0 → ∀ z5 : Int32, z5 = z4 + a1 → hasO S t0 4 ∧ ∀ S6 : kS, S6 = cI S 14 t0 z5 → hasO S6 t0 4 ∧ ∀ z7 : Int32, z7 = S6.1 15 t0 → ∀ z8 : Int32, z8 = z7 - 1 → hasO S6 t0 4 ∧ ∀ S9 : kS, S9 = cI S6 15 t0 z8 → hasO S9 t0 4 ∧ ∀ z10 : Int32, z10 = S9.1 15 t0 → ((z10 ≤ 0 → hasO S9 t0 4 ∧ ∀ S12 : kS, S12 = cI S9 13 t0 1 → K S12 1) ∧ (¬ z10 ≤ 0 → K S9 0))))))
set_option maxHeartbeats 4000000 in
set_option maxRecDepth 100000 in
theorem kt_X4_hears (l : Launch) (S : kS) (t0 : Nat) (a0 : Int32) (a1 : Int32) (K : kS → Int32 → Prop) (h : wp_X4_hears t0 a0 a1 S K) : kMi l yX4_hears cX4_hears 3 (some .boolean) 0 0 [.ref t0, .int a0, .int a1] S K := by
  refine kv_ofz (own := RX4) (by decide) rfl (Nat.le_of_ble_eq_true rfl) ?_
  intro E p e R s m args below meth c A ls Q hRf hRl hX hC hl hret
  have hx := hX.1.1
  have hb := hX.1.2.1
  have hown := hX.1.2.2.2.1
  have hts := hX.1.2.2.2.2
  have cut50 : ∀ (x0 : Nat) (x1 : Int32) (x2 : Int32) (S : kS) (H : Heap) (locs : List Loc) (ls : Array Slot), wp_X4_hears_50 K x0 x1 x2 S → cM E A s.heap S H locs → lv_has ls 3 [(0, .ref x0), (1, .int x1), (2, .int x2)] → W p l e R s m args below meth c H locs 0 0 Q (F0 m 50 ls []) := by
    intro x0 x1 x2 S H locs ls h hC hl
    unfold wp_X4_hears_50 at h
    refine lv_aload_n hx hb dX4_hears_50 rfl (lv_at hl 0 rfl) ?_
    refine lv_iload_n hx hb dX4_hears_51 rfl (lv_at hl 1 rfl) ?_
    refine cq_puti (v := x1) (ci := 4) (k := 2) (f := 13) hX hC rfl in_X4 (by decide) wd_1061 (fun _ h9 => h9) tyX4 tyX4_ok nmX4 rfl rfl rfl (fun _ _ => Nat.le_of_ble_eq_true rfl) (fun _ _ _ => rfl) dX4_hears_52 h.1 h.2 (fun S13 H locs hC h => ?_)
    refine lv_aload_n hx hb dX4_hears_55 rfl (lv_at hl 0 rfl) ?_
    refine lv_iload_n hx hb dX4_hears_56 rfl (lv_at hl 2 rfl) ?_
    refine cq_puti (v := x2) (ci := 4) (k := 3) (f := 14) hX hC rfl in_X4 (by decide) wd_1064 (fun _ h9 => h9) tyX4 tyX4_ok nmX4 rfl rfl rfl (fun _ _ => Nat.le_of_ble_eq_true rfl) (fun _ _ _ => rfl) dX4_hears_57 h.1 h.2 (fun S14 H locs hC h => ?_)
    refine lv_iconst (v := 1) hx hb dX4_hears_60 (by decide) ?_
    exact hret _ _ _ _ _ _ hC (Or.inr rfl) h dX4_hears_61
  have hl : lv_has ls 3 [(0, .ref t0), (1, .int a0), (2, .int a1)] := hl
  unfold wp_X4_hears at h
  refine lv_aload_n hx hb dX4_hears_0 rfl (lv_at hl 0 rfl) ?_
  refine cq_geti (ci := 4) (k := 1) (f := 12) hX hC rfl in_X4 (by decide) wd_1058 (fun _ h9 => h9) (fun _ _ => rfl) dX4_hears_1 h (fun z1 h => ?_)
  refine lv_iconst (v := 4) hx hb dX4_hears_4 (by decide) ?_
  refine lv_icmp_ne (tgt := 50) hx hb dX4_hears_5 (by decide) (fun c2 => ?_) (fun c2 => ?_)
  · have h := h.1 c2
    exact cut50 t0 a0 a1 S _ _ _ h hC (lv_sub hl [0, 1, 2] rfl)
  · have h := h.2 c2
    refine lv_iload_n hx hb dX4_hears_8 rfl (lv_at hl 1 rfl) ?_
    refine lv_iconst (v := 1) hx hb dX4_hears_9 (by decide) ?_
    refine lv_icmp_ne (tgt := 50) hx hb dX4_hears_10 (by decide) (fun c3 => ?_) (fun c3 => ?_)
    · have h := h.1 c3
      exact cut50 t0 a0 a1 S _ _ _ h hC (lv_sub hl [0, 1, 2] rfl)
    · have h := h.2 c3
      refine lv_aload_n hx hb dX4_hears_13 rfl (lv_at hl 0 rfl) ?_
      refine lv_dup hx hb dX4_hears_14 rfl ?_
      refine cq_geti (ci := 4) (k := 3) (f := 14) hX hC rfl in_X4 (by decide) wd_1064 (fun _ h9 => h9) (fun _ _ => rfl) dX4_hears_15 h (fun z4 h => ?_)
      refine lv_iload_n hx hb dX4_hears_18 rfl (lv_at hl 2 rfl) ?_
      refine lq_iadd hx hb dX4_hears_19 h (fun z5 h => ?_)
      refine cq_puti (v := z5) (ci := 4) (k := 3) (f := 14) hX hC rfl in_X4 (by decide) wd_1064 (fun _ h9 => h9) tyX4 tyX4_ok nmX4 rfl rfl rfl (fun _ _ => Nat.le_of_ble_eq_true rfl) (fun _ _ _ => rfl) dX4_hears_20 h.1 h.2 (fun S6 H locs hC h => ?_)
      refine lv_aload_n hx hb dX4_hears_23 rfl (lv_at hl 0 rfl) ?_
      refine lv_dup hx hb dX4_hears_24 rfl ?_
      refine cq_geti (ci := 4) (k := 4) (f := 15) hX hC rfl in_X4 (by decide) wd_1067 (fun _ h9 => h9) (fun _ _ => rfl) dX4_hears_25 h (fun z7 h => ?_)
      refine lv_iconst (v := 1) hx hb dX4_hears_28 (by decide) ?_
      refine lq_isub hx hb dX4_hears_29 h (fun z8 h => ?_)
      refine cq_puti (v := z8) (ci := 4) (k := 4) (f := 15) hX hC rfl in_X4 (by decide) wd_1067 (fun _ h9 => h9) tyX4 tyX4_ok nmX4 rfl rfl rfl (fun _ _ => Nat.le_of_ble_eq_true rfl) (fun _ _ _ => rfl) dX4_hears_30 h.1 h.2 (fun S9 H locs hC h => ?_)
      refine lv_aload_n hx hb dX4_hears_33 rfl (lv_at hl 0 rfl) ?_
      refine cq_geti (ci := 4) (k := 4) (f := 15) hX hC rfl in_X4 (by decide) wd_1067 (fun _ h9 => h9) (fun _ _ => rfl) dX4_hears_34 h (fun z10 h => ?_)
      refine lv_if_le (tgt := 42) hx hb dX4_hears_37 (by decide) (fun c11 => ?_) (fun c11 => ?_)
      · have h := h.1 c11
        refine lv_aload_n hx hb dX4_hears_42 rfl (lv_at hl 0 rfl) ?_
        refine lv_iconst (v := 1) hx hb dX4_hears_43 (by decide) ?_
        refine cq_puti (v := 1) (ci := 4) (k := 2) (f := 13) hX hC rfl in_X4 (by decide) wd_1061 (fun _ h9 => h9) tyX4 tyX4_ok nmX4 rfl rfl rfl (fun _ _ => Nat.le_of_ble_eq_true rfl) (fun _ _ _ => rfl) dX4_hears_44 h.1 h.2 (fun S12 H locs hC h => ?_)
        refine lv_goto (tgt := 60) hx hb dX4_hears_47 (by decide) ?_
        refine lv_iconst (v := 1) hx hb dX4_hears_60 (by decide) ?_
        exact hret _ _ _ _ _ _ hC (Or.inr rfl) h dX4_hears_61
      · have h := h.2 c11
        refine lv_iconst (v := 0) hx hb dX4_hears_40 (by decide) ?_
        exact hret _ _ _ _ _ _ hC (Or.inl rfl) h dX4_hears_41
def wp_X1_report_145 (K : kS → Prop) (x0 : Nat) (x5 : Int32) (S : kS) : Prop := hasO S x0 1 ∧ wp_X1_turnRound x0 x5 S (fun (S31 : kS) => K S31)
def wp_X1_report_137 (K : kS → Prop) (k39 : Nat × Nat × Int32 × Option Nat × Int32 × kS → Prop) (x0 : Nat) (x4 : Nat) (x5 : Int32) (x7 : Int32) (y0 : Option Nat) (S : kS) : Prop := ∀ z30 : Int32, z30 = x7 + 1 → k39 (x0, x4, x5, y0, z30, S)
def wp_X1_report_69 (K : kS → Prop) (k39 : Nat × Nat × Int32 × Option Nat × Int32 × kS → Prop) (x0 : Nat) (x4 : Nat) (x5 : Int32) (x6 : Nat) (x7 : Int32) (S : kS) : Prop := hasO S x0 1 ∧ wp_X1_drop x0 x4 0 S (fun (S16 : kS) => hasO S16 x6 4 ∧ ∀ z17 : Option Nat, z17 = S16.2.1 23 x6 → ((z17 = none → hasO S16 x6 4 ∧ ∀ z19 : Int32, z19 = S16.1 13 x6 → hasO S16 x4 9 ∧ ∀ S20 : kS, S20 = cI S16 38 x4 z19 → hasO S20 x6 4 ∧ ∀ z21 : Int32, z21 = S20.1 14 x6 → hasO S20 x4 9 ∧ ∀ S22 : kS, S22 = cI S20 39 x4 z21 → wp_X1_report_145 K x0 x5 S22) ∧ (∀ q18 : Nat, z17 = some q18 → hasO S16 x6 4 ∧ ∀ z23 : Option Nat, z23 = S16.2.1 23 x6 → hasO S16 x6 4 ∧ ∀ z24 : Int32, z24 = S16.1 13 x6 → hasO S16 x6 4 ∧ ∀ z25 : Int32, z25 = S16.1 14 x6 → ∃ q26 : Nat, z23 = some q26 ∧ hasO S16 q26 4 ∧ wp_X4_hears q26 z24 z25 S16 (fun (S27 : kS) (r27 : Int32) => ((r27 = 0 → wp_X1_report_137 K k39 x0 x4 x5 x7 none S27) ∧ (¬ r27 = 0 → hasO S27 x6 4 ∧ ∀ z29 : Option Nat, z29 = S27.2.1 23 x6 → wp_X1_report_137 K k39 x0 x4 x5 x7 z29 S27))))))
def wp_X1_report_39 (K : kS → Prop) (k39 : Nat × Nat × Int32 × Option Nat × Int32 × kS → Prop) (x0 : Nat) (x4 : Nat) (x5 : Int32) (x6 : Option Nat) (x7 : Int32) (S : kS) : Prop := ((10 < x7 → wp_X1_report_145 K x0 x5 S) ∧ (¬ 10 < x7 → ((x6 = none → wp_X1_report_145 K x0 x5 S) ∧ (∀ q10 : Nat, x6 = some q10 → hasO S q10 4 ∧ ∀ z11 : Option Nat, z11 = S.2.1 25 q10 → ((z11 = none → wp_X1_report_69 K k39 x0 x4 x5 q10 x7 S) ∧ (∀ q12 : Nat, z11 = some q12 → hasO S q10 4 ∧ ∀ z13 : Option Nat, z13 = S.2.1 25 q10 → ∃ q14 : Nat, z13 = some q14 ∧ hasO S q14 2 ∧ wp_X2_remove q14 q10 S (fun (S15 : kS) => wp_X1_report_69 K k39 x0 x4 x5 q10 x7 S15)))))))
def ls_X1_report_39 (K : kS → Prop) (k39 : Nat × Nat × Int32 × Option Nat × Int32 × kS → Prop) (u : Nat × Nat × Int32 × Option Nat × Int32 × kS) : Prop := wp_X1_report_39 K k39 u.1 u.2.1 u.2.2.1 u.2.2.2.1 u.2.2.2.2.1 u.2.2.2.2.2
def wp_X1_report (t0 : Nat) (a0 : Nat) (a1 : Int32) (a2 : Int32) (S : kS) (K : kS → Prop) : Prop := hasO S a0 4 ∧ ∀ z1 : Option Nat, z1 = S.2.1 21 a0 → ∃ q2 : Nat, z1 = some q2 ∧ hasO S q2 9 ∧ ∀ z3 : Int32, z3 = S.1 28 q2 → ∀ z4 : Int32, z4 = z3 ^^^ (-1) → hasO S t0 1 ∧ wp_X1_plan t0 z4 S (fun (S5 : kS) => hasO S5 t0 1 ∧ ∀ z6 : Int32, z6 = S5.1 5 t0 → hasO S5 a0 4 ∧ ∀ S7 : kS, S7 = cI S5 13 a0 a1 → hasO S7 a0 4 ∧ ∀ S8 : kS, S8 = cI S7 14 a0 a2 → (∃ n9, it (ls_X1_report_39 K) n9 (t0, q2, z6, some a0, 0, S8)))
theorem cw_X1_218 {R : Room} {s : State} {args : Array Value} {fr lo : Nat} (hts : ∀ w ∈ tb, w.before args s = true) (h1 : fr + 1 ≤ R.frames) (h2 : 8 + (4 + 11) + lo ≤ R.locals) : CallW R s args RX1 RX1 218 yX1_drop cX1_drop 4 none (.code yX1_drop cX1_drop 4 none :: tb) (mRm fr lo) 0 0 2 := cwV 2 hts (gd_V wd_1160 wd_1162 sl_X1_drop wd_9 wd_1163) rfl rfl rfl (by decide +kernel) ⟨h1, h2⟩
theorem cw_X1_221 {R : Room} {s : State} {args : Array Value} {fr lo : Nat} (hts : ∀ w ∈ tb, w.before args s = true) (h1 : fr + 1 ≤ R.frames) (h2 : 8 + (3 + 11) + lo ≤ R.locals) : CallW R s args RX1 RX4 221 yX4_hears cX4_hears 3 (some .boolean) (.code yX4_hears cX4_hears 3 (some .boolean) :: tb) (mRm fr lo) 0 0 2 := cwV 2 hts (gd_V wd_1211 wd_1122 wd_1123 wd_23 wd_1124) rfl rfl rfl (by decide +kernel) ⟨h1, h2⟩
theorem cw_X1_225 {R : Room} {s : State} {args : Array Value} {fr lo : Nat} (hts : ∀ w ∈ tb, w.before args s = true) (h1 : fr + 1 ≤ R.frames) (h2 : 8 + (5 + 11) + lo ≤ R.locals) : CallW R s args RX1 RX1 225 yX1_turnRound cX1_turnRound 5 none (.code yX1_turnRound cX1_turnRound 5 none :: tb) (mRm fr lo) 0 0 1 := cwV 1 hts (gd_V wd_1172 wd_1174 sl_X1_turnRound wd_9 wd_1175) rfl rfl rfl (by decide +kernel) ⟨h1, h2⟩
set_option maxHeartbeats 4000000 in
set_option maxRecDepth 100000 in
theorem kt_X1_report (l : Launch) (S : kS) (t0 : Nat) (a0 : Nat) (a1 : Int32) (a2 : Int32) (K : kS → Prop) (h : wp_X1_report t0 a0 a1 a2 S K) : kMv l yX1_report cX1_report 8 none 2 44 [.ref t0, .ref a0, .int a1, .int a2] S K := by
  refine kv_ofv (own := RX1) (by decide) rfl (Nat.le_of_ble_eq_true rfl) ?_
  intro E p e R s m args below meth c A ls Q hRf hRl hX hC hl hret
  have hx := hX.1.1
  have hb := hX.1.2.1
  have hown := hX.1.2.2.2.1
  have hts := hX.1.2.2.2.2
  have cut145 : ∀ (x0 : Nat) (x5 : Int32) (S : kS) (H : Heap) (locs : List Loc) (ls : Array Slot), wp_X1_report_145 K x0 x5 S → cM E A s.heap S H locs → lv_has ls 8 [(0, .ref x0), (5, .int x5)] → W p l e R s m args below meth c H locs 0 0 Q (F0 m 145 ls []) := by
    intro x0 x5 S H locs ls h hC hl
    unfold wp_X1_report_145 at h
    refine lv_aload_n hx hb dX1_report_145 rfl (lv_at hl 0 rfl) ?_
    refine lv_iload hx hb dX1_report_146 (lv_at hl 1 rfl) ?_
    refine kv_callv [.int x5] (rest := []) (ci := 1) rfl hX hC h.1 (kt_X1_turnRound l S x0 x5 _ h.2 E _) (cw_X1_225 hts (by omega) (by omega)) rfl hl.1 (Nat.le_of_ble_eq_true rfl) ⟨Nat.zero_le _, Nat.zero_le _⟩ dX1_report_148 (fun S31 H locs hC h => ?_)
    exact hret _ _ _ _ _ hC h dX1_report_151
  have cut39 : ∀ (n39 : Nat) (x0 : Nat) (x4 : Nat) (x5 : Int32) (x6 : Option Nat) (x7 : Int32) (S : kS) (H : Heap) (locs : List Loc) (ls : Array Slot), it (ls_X1_report_39 K) n39 (x0, x4, x5, x6, x7, S) → cM E A s.heap S H locs → lv_has ls 8 [(0, .ref x0), (4, .ref x4), (5, .int x5), (6, va_rf x6), (7, .int x7)] → W p l e R s m args below meth c H locs 0 0 Q (F0 m 39 ls []) := by
    intro n39
    induction n39 with
    | zero => intro x0 x4 x5 x6 x7 S H locs ls h hC hl; exact h.elim
    | succ n39 ih39 =>
      have cut137 : ∀ (x0 : Nat) (x4 : Nat) (x5 : Int32) (x7 : Int32) (y0 : Option Nat) (S : kS) (H : Heap) (locs : List Loc) (ls : Array Slot), wp_X1_report_137 K (it (ls_X1_report_39 K) n39) x0 x4 x5 x7 y0 S → cM E A s.heap S H locs → lv_has ls 8 [(0, .ref x0), (4, .ref x4), (5, .int x5), (7, .int x7)] → W p l e R s m args below meth c H locs 0 0 Q (F0 m 137 ls [va_rf y0]) := by
        intro x0 x4 x5 x7 y0 S H locs ls h hC hl
        unfold wp_X1_report_137 at h
        refine lo_astore (lv' := [(6, va_rf y0), (0, .ref x0), (4, .ref x4), (5, .int x5), (7, .int x7)]) hx hb dX1_report_137 hl (by decide) (by rcases y0 with _ | _ <;> rfl) (fun ls hl => ?_)
        obtain ⟨z30, ez30⟩ : ∃ y : Int32, y = x7 + 1 := ⟨_, rfl⟩
        have h := h z30 ez30
        refine lv_iinc (v := z30) (lv' := [(7, .int z30), (6, va_rf y0), (0, .ref x0), (4, .ref x4), (5, .int x5)]) hx hb dX1_report_139 hl (k := 4) rfl (by rw [ez30]; rfl) (by decide) (by rcases y0 with _ | _ <;> rfl) (fun ls hl => ?_)
        refine lv_goto (tgt := 39) hx hb dX1_report_142 (by decide) ?_
        exact ih39 x0 x4 x5 y0 z30 S _ _ _ h hC (lv_sub hl [2, 3, 4, 1, 0] rfl)
      have cut69 : ∀ (x0 : Nat) (x4 : Nat) (x5 : Int32) (x6 : Nat) (x7 : Int32) (S : kS) (H : Heap) (locs : List Loc) (ls : Array Slot), wp_X1_report_69 K (it (ls_X1_report_39 K) n39) x0 x4 x5 x6 x7 S → cM E A s.heap S H locs → lv_has ls 8 [(0, .ref x0), (4, .ref x4), (5, .int x5), (6, .ref x6), (7, .int x7)] → W p l e R s m args below meth c H locs 0 0 Q (F0 m 69 ls []) := by
        intro x0 x4 x5 x6 x7 S H locs ls h hC hl
        unfold wp_X1_report_69 at h
        refine lv_aload_n hx hb dX1_report_69 rfl (lv_at hl 0 rfl) ?_
        refine lv_aload hx hb dX1_report_70 (lv_at hl 1 rfl) ?_
        refine lv_iconst (v := 0) hx hb dX1_report_72 (by decide) ?_
        refine kv_callv [.ref x4, .int 0] (rest := []) (ci := 1) rfl hX hC h.1 (kt_X1_drop l S x0 x4 0 _ h.2 E _) (cw_X1_218 hts (by omega) (by omega)) rfl hl.1 (Nat.le_of_ble_eq_true rfl) ⟨Nat.zero_le _, Nat.zero_le _⟩ dX1_report_73 (fun S16 H locs hC h => ?_)
        refine lv_aload hx hb dX1_report_76 (lv_at hl 3 rfl) ?_
        refine cq_getr (ci := 4) (k := 7) (f := 23) hX hC rfl in_X4 (by decide) wd_1075 (fun _ h9 => h9) (fun _ _ => rfl) dX1_report_78 h (fun z17 h => ?_)
        rcases z17 with _ | q18
        · have h := h.1 rfl
          refine lv_ifnonnullN hx hb dX1_report_81 ?_
          refine lv_aload hx hb dX1_report_84 (lv_at hl 1 rfl) ?_
          refine lv_aload hx hb dX1_report_86 (lv_at hl 3 rfl) ?_
          refine cq_geti (ci := 4) (k := 2) (f := 13) hX hC rfl in_X4 (by decide) wd_1062 (fun _ h9 => h9) (fun _ _ => rfl) dX1_report_88 h (fun z19 h => ?_)
          refine cq_puti (v := z19) (ci := 9) (k := 18) (f := 38) hX hC rfl in_X9 (by decide) wd_905 (fun _ h9 => h9) tyX9 tyX9_ok nmX9 rfl rfl rfl (fun _ _ => Nat.le_of_ble_eq_true rfl) (fun _ _ _ => rfl) dX1_report_91 h.1 h.2 (fun S20 H locs hC h => ?_)
          refine lv_aload hx hb dX1_report_94 (lv_at hl 1 rfl) ?_
          refine lv_aload hx hb dX1_report_96 (lv_at hl 3 rfl) ?_
          refine cq_geti (ci := 4) (k := 3) (f := 14) hX hC rfl in_X4 (by decide) wd_1065 (fun _ h9 => h9) (fun _ _ => rfl) dX1_report_98 h (fun z21 h => ?_)
          refine cq_puti (v := z21) (ci := 9) (k := 19) (f := 39) hX hC rfl in_X9 (by decide) wd_907 (fun _ h9 => h9) tyX9 tyX9_ok nmX9 rfl rfl rfl (fun _ _ => Nat.le_of_ble_eq_true rfl) (fun _ _ _ => rfl) dX1_report_101 h.1 h.2 (fun S22 H locs hC h => ?_)
          refine lv_goto (tgt := 145) hx hb dX1_report_104 (by decide) ?_
          exact cut145 x0 x5 S22 _ _ _ h hC (lv_sub hl [0, 2] rfl)
        · have h := h.2 q18 rfl
          refine lv_ifnonnull (tgt := 107) hx hb dX1_report_81 (by decide) ?_
          refine lv_aload hx hb dX1_report_107 (lv_at hl 3 rfl) ?_
          refine cq_getr (ci := 4) (k := 7) (f := 23) hX hC rfl in_X4 (by decide) wd_1075 (fun _ h9 => h9) (fun _ _ => rfl) dX1_report_109 h (fun z23 h => ?_)
          refine lv_aload hx hb dX1_report_112 (lv_at hl 3 rfl) ?_
          refine cq_geti (ci := 4) (k := 2) (f := 13) hX hC rfl in_X4 (by decide) wd_1062 (fun _ h9 => h9) (fun _ _ => rfl) dX1_report_114 h (fun z24 h => ?_)
          refine lv_aload hx hb dX1_report_117 (lv_at hl 3 rfl) ?_
          refine cq_geti (ci := 4) (k := 3) (f := 14) hX hC rfl in_X4 (by decide) wd_1065 (fun _ h9 => h9) (fun _ _ => rfl) dX1_report_119 h (fun z25 h => ?_)
          obtain ⟨q26, e9, hh⟩ := h
          subst e9
          have h := hh
          clear hh
          refine kv_calli [.int z24, .int z25] (rest := []) (ci := 4) rfl hX hC h.1 (kt_X4_hears l S16 q26 z24 z25 _ h.2 E _) (cw_X1_221 hts (by omega) (by omega)) rfl hl.1 (Nat.le_of_ble_eq_true rfl) ⟨Nat.zero_le _, Nat.zero_le _⟩ dX1_report_122 (fun r27 S27 H locs hC h => ?_)
          refine lv_if_eq (tgt := 136) hx hb dX1_report_125 (by decide) (fun c28 => ?_) (fun c28 => ?_)
          · have h := h.1 c28
            refine lv_null hx hb dX1_report_136 ?_
            exact cut137 x0 x4 x5 x7 none S27 _ _ _ h hC (lv_sub hl [0, 1, 2, 4] rfl)
          · have h := h.2 c28
            refine lv_aload hx hb dX1_report_128 (lv_at hl 3 rfl) ?_
            refine cq_getr (ci := 4) (k := 7) (f := 23) hX hC rfl in_X4 (by decide) wd_1075 (fun _ h9 => h9) (fun _ _ => rfl) dX1_report_130 h (fun z29 h => ?_)
            refine lv_goto (tgt := 137) hx hb dX1_report_133 (by decide) ?_
            exact cut137 x0 x4 x5 x7 z29 S27 _ _ _ h hC (lv_sub hl [0, 1, 2, 4] rfl)
      intro x0 x4 x5 x6 x7 S H locs ls h hC hl
      have h : wp_X1_report_39 K (it (ls_X1_report_39 K) n39) x0 x4 x5 x6 x7 S := h
      unfold wp_X1_report_39 at h
      refine lv_iload hx hb dX1_report_39 (lv_at hl 4 rfl) ?_
      refine lv_bipush (v := 10) hx hb dX1_report_41 (by decide) ?_
      refine lv_icmp_gt (tgt := 145) hx hb dX1_report_43 (by decide) (fun c9 => ?_) (fun c9 => ?_)
      · have h := h.1 c9
        exact cut145 x0 x5 S _ _ _ h hC (lv_sub hl [0, 2] rfl)
      · have h := h.2 c9
        refine lo_aload hx hb dX1_report_46 (lv_at hl 3 rfl) ?_
        rcases x6 with _ | q10
        · have h := h.1 rfl
          refine lv_ifnullN (tgt := 145) hx hb dX1_report_48 (by decide) ?_
          exact cut145 x0 x5 S _ _ _ h hC (lv_sub hl [0, 2] rfl)
        · have h := h.2 q10 rfl
          refine lv_ifnull hx hb dX1_report_48 ?_
          refine lv_aload hx hb dX1_report_51 (lv_at hl 3 rfl) ?_
          refine cq_getr (ci := 4) (k := 9) (f := 25) hX hC rfl in_X4 (by decide) wd_1079 (fun _ h9 => h9) (fun _ _ => rfl) dX1_report_53 h (fun z11 h => ?_)
          rcases z11 with _ | q12
          · have h := h.1 rfl
            refine lv_ifnullN (tgt := 69) hx hb dX1_report_56 (by decide) ?_
            exact cut69 x0 x4 x5 q10 x7 S _ _ _ h hC (lv_sub hl [0, 1, 2, 3, 4] rfl)
          · have h := h.2 q12 rfl
            refine lv_ifnull hx hb dX1_report_56 ?_
            refine lv_aload hx hb dX1_report_59 (lv_at hl 3 rfl) ?_
            refine cq_getr (ci := 4) (k := 9) (f := 25) hX hC rfl in_X4 (by decide) wd_1079 (fun _ h9 => h9) (fun _ _ => rfl) dX1_report_61 h (fun z13 h => ?_)
            refine lv_aload hx hb dX1_report_64 (lv_at hl 3 rfl) ?_
            obtain ⟨q14, e9, hh⟩ := h
            subst e9
            have h := hh
            clear hh
            refine kv_callv [.ref q10] (rest := []) (ci := 2) rfl hX hC h.1 (kt_X2_remove l S q14 q10 _ h.2 E _) (cw_X1_215 hts (by omega) (by omega)) rfl hl.1 (Nat.le_of_ble_eq_true rfl) ⟨Nat.zero_le _, Nat.zero_le _⟩ dX1_report_66 (fun S15 H locs hC h => ?_)
            exact cut69 x0 x4 x5 q10 x7 S15 _ _ _ h hC (lv_sub hl [0, 1, 2, 3, 4] rfl)
  have hl : lv_has ls 8 [(0, .ref t0), (1, .ref a0), (2, .int a1), (3, .int a2)] := hl
  unfold wp_X1_report at h
  refine lv_aload_n hx hb dX1_report_0 rfl (lv_at hl 1 rfl) ?_
  refine cq_getr (ci := 4) (k := 0) (f := 21) hX hC rfl in_X4 (by decide) wd_1057 (fun _ h9 => h9) (fun _ _ => rfl) dX1_report_1 h (fun z1 h => ?_)
  refine lo_astore (lv' := [(4, va_rf z1), (0, .ref t0), (1, .ref a0), (2, .int a1), (3, .int a2)]) hx hb dX1_report_4 hl (by decide) (by rcases z1 with _ | _ <;> rfl) (fun ls hl => ?_)
  refine lv_aload_n hx hb dX1_report_6 rfl (lv_at hl 1 rfl) ?_
  refine lo_aload hx hb dX1_report_7 (lv_at hl 0 rfl) ?_
  obtain ⟨q2, e9, hh⟩ := h
  subst e9
  have h := hh
  clear hh
  refine cq_geti (ci := 9) (k := 0) (f := 28) hX hC rfl in_X9 (by decide) wd_864 (fun _ h9 => h9) (fun _ _ => rfl) dX1_report_9 h (fun z3 h => ?_)
  refine lv_iconst (v := -1) hx hb dX1_report_12 (by decide) ?_
  refine lq_ixor hx hb dX1_report_13 h (fun z4 h => ?_)
  refine kv_callv [.int z4] (rest := []) (ci := 1) rfl hX hC h.1 (kt_X1_plan l S t0 z4 _ h.2 E _) (cw_X1_198 hts (by omega) (by omega)) rfl hl.1 (Nat.le_of_ble_eq_true rfl) ⟨Nat.zero_le _, Nat.zero_le _⟩ dX1_report_14 (fun S5 H locs hC h => ?_)
  refine lv_aload_n hx hb dX1_report_17 rfl (lv_at hl 1 rfl) ?_
  refine cq_geti (ci := 1) (k := 13) (f := 5) hX hC rfl in_X1 (by decide) wd_260 (fun _ h9 => h9) (fun _ _ => rfl) dX1_report_18 h (fun z6 h => ?_)
  refine lv_istore (lv' := [(5, .int z6), (4, .ref q2), (0, .ref t0), (1, .ref a0), (2, .int a1), (3, .int a2)]) hx hb dX1_report_21 hl (by decide) rfl (fun ls hl => ?_)
  refine lv_aload_n hx hb dX1_report_23 rfl (lv_at hl 3 rfl) ?_
  refine lv_iload_n hx hb dX1_report_24 rfl (lv_at hl 4 rfl) ?_
  refine cq_puti (v := a1) (ci := 4) (k := 2) (f := 13) hX hC rfl in_X4 (by decide) wd_1062 (fun _ h9 => h9) tyX4 tyX4_ok nmX4 rfl rfl rfl (fun _ _ => Nat.le_of_ble_eq_true rfl) (fun _ _ _ => rfl) dX1_report_25 h.1 h.2 (fun S7 H locs hC h => ?_)
  refine lv_aload_n hx hb dX1_report_28 rfl (lv_at hl 3 rfl) ?_
  refine lv_iload_n hx hb dX1_report_29 rfl (lv_at hl 5 rfl) ?_
  refine cq_puti (v := a2) (ci := 4) (k := 3) (f := 14) hX hC rfl in_X4 (by decide) wd_1065 (fun _ h9 => h9) tyX4 tyX4_ok nmX4 rfl rfl rfl (fun _ _ => Nat.le_of_ble_eq_true rfl) (fun _ _ _ => rfl) dX1_report_30 h.1 h.2 (fun S8 H locs hC h => ?_)
  refine lv_aload_n hx hb dX1_report_33 rfl (lv_at hl 3 rfl) ?_
  refine lv_astore (lv' := [(6, .ref a0), (5, .int z6), (4, .ref q2), (0, .ref t0), (1, .ref a0), (2, .int a1), (3, .int a2)]) hx hb dX1_report_34 hl (by decide) rfl (fun ls hl => ?_)
  refine lv_iconst (v := 0) hx hb dX1_report_36 (by decide) ?_
  refine lv_istore (lv' := [(7, .int 0), (6, .ref a0), (5, .int z6), (4, .ref q2), (0, .ref t0), (1, .ref a0), (2, .int a1), (3, .int a2)]) hx hb dX1_report_37 hl (by decide) rfl (fun ls hl => ?_)
  obtain ⟨n9, h⟩ := h
  exact cut39 n9 t0 q2 z6 (some a0) 0 S8 _ _ _ h hC (lv_sub hl [4, 3, 2, 1, 0] rfl)
