theorem wd_870 : (Jvm.Cond.fieldLink "Sleepers$Hall" (79 : Nat) "Sleepers$Task" "parent" "LSleepers$Task;") ∈ tb := tb_at 870 (by decide +kernel) (by decide +kernel)
theorem wd_871 : (Jvm.Cond.fieldLink "Sleepers$Hall" (83 : Nat) "Sleepers$Task" "asPart" "LSleepers$Part;") ∈ tb := tb_at 871 (by decide +kernel) (by decide +kernel)
theorem wd_875 : (Jvm.Cond.fieldLink "Sleepers$Hall" (128 : Nat) "Sleepers$Task" "state" "I") ∈ tb := tb_at 875 (by decide +kernel) (by decide +kernel)
theorem wd_877 : (Jvm.Cond.fieldLink "Sleepers$Hall" (87 : Nat) "Sleepers$Task" "how" "I") ∈ tb := tb_at 877 (by decide +kernel) (by decide +kernel)
theorem wd_880 : (Jvm.Cond.fieldLink "Sleepers$Hall" (90 : Nat) "Sleepers$Task" "result" "I") ∈ tb := tb_at 880 (by decide +kernel) (by decide +kernel)
theorem wd_887 : (Jvm.Cond.fieldLink "Sleepers$Hall" (96 : Nat) "Sleepers$Task" "turns" "I") ∈ tb := tb_at 887 (by decide +kernel) (by decide +kernel)
theorem wd_889 : (Jvm.Cond.fieldLink "Sleepers$Hall" (99 : Nat) "Sleepers$Task" "cancelled" "Z") ∈ tb := tb_at 889 (by decide +kernel) (by decide +kernel)
theorem wd_902 : (Jvm.Cond.fieldLink "Sleepers$Hall" (114 : Nat) "Sleepers$Task" "children" "I") ∈ tb := tb_at 902 (by decide +kernel) (by decide +kernel)
theorem wd_949 : (Jvm.Cond.methodLink "Sleepers$Hall" (122 : Nat) ({ cls := "Sleepers$Hall", name := "enterRow", desc := "(LSleepers$Task;)V" } : Jvm.MethodName)) ∈ tb := tb_at 949 (by decide +kernel) (by decide +kernel)
theorem wd_951 : (Jvm.Cond.instanceMethod ({ cls := "Sleepers$Hall", name := "enterRow", desc := "(LSleepers$Task;)V" } : Jvm.MethodName)) ∈ tb := tb_at 951 (by decide +kernel) (by decide +kernel)
theorem wd_952 : (Jvm.Cond.code ({ cls := "Sleepers$Hall", name := "enterRow", desc := "(LSleepers$Task;)V" } : Jvm.MethodName) prog_3_method_6_code (2 : Nat) (Option.none : Option Jvm.ClassFile.FieldType)) ∈ tb := tb_at 952 (by decide +kernel) (by decide +kernel)
theorem wd_966 : (Jvm.Cond.instanceMethod ({ cls := "Sleepers$Hall", name := "leaveRow", desc := "(I)LSleepers$Task;" } : Jvm.MethodName)) ∈ tb := tb_at 966 (by decide +kernel) (by decide +kernel)
theorem wd_967 : (Jvm.Cond.selects "Sleepers$Hall" ({ cls := "Sleepers$Hall", name := "leaveRow", desc := "(I)LSleepers$Task;" } : Jvm.MethodName) ({ cls := "Sleepers$Hall", name := "leaveRow", desc := "(I)LSleepers$Task;" } : Jvm.MethodName)) ∈ tb := tb_at 967 (by decide +kernel) (by decide +kernel)
theorem wd_968 : (Jvm.Cond.code ({ cls := "Sleepers$Hall", name := "leaveRow", desc := "(I)LSleepers$Task;" } : Jvm.MethodName) prog_3_method_7_code (4 : Nat) (Option.some (Jvm.ClassFile.FieldType.object "Sleepers$Task"))) ∈ tb := tb_at 968 (by decide +kernel) (by decide +kernel)
theorem wd_1031 : (Jvm.Cond.instanceMethod ({ cls := "Sleepers$Book", name := "note", desc := "(II)V" } : Jvm.MethodName)) ∈ tb := tb_at 1031 (by decide +kernel) (by decide +kernel)
theorem wd_1032 : (Jvm.Cond.selects "Sleepers$Book" ({ cls := "Sleepers$Book", name := "note", desc := "(II)V" } : Jvm.MethodName) ({ cls := "Sleepers$Book", name := "note", desc := "(II)V" } : Jvm.MethodName)) ∈ tb := tb_at 1032 (by decide +kernel) (by decide +kernel)
theorem wd_1033 : (Jvm.Cond.code ({ cls := "Sleepers$Book", name := "note", desc := "(II)V" } : Jvm.MethodName) prog_2_method_2_code (3 : Nat) (Option.none : Option Jvm.ClassFile.FieldType)) ∈ tb := tb_at 1033 (by decide +kernel) (by decide +kernel)
theorem wd_1156 : (Jvm.Cond.methodLink "Sleepers$Hall" (204 : Nat) ({ cls := "Sleepers$Hall", name := "letGo", desc := "(LSleepers$Task;Z)V" } : Jvm.MethodName)) ∈ tb := tb_at 1156 (by decide +kernel) (by decide +kernel)
theorem wd_1158 : (Jvm.Cond.instanceMethod ({ cls := "Sleepers$Hall", name := "letGo", desc := "(LSleepers$Task;Z)V" } : Jvm.MethodName)) ∈ tb := tb_at 1158 (by decide +kernel) (by decide +kernel)
theorem wd_1159 : (Jvm.Cond.code ({ cls := "Sleepers$Hall", name := "letGo", desc := "(LSleepers$Task;Z)V" } : Jvm.MethodName) prog_3_method_20_code (4 : Nat) (Option.none : Option Jvm.ClassFile.FieldType)) ∈ tb := tb_at 1159 (by decide +kernel) (by decide +kernel)
theorem wd_1176 : (Jvm.Cond.methodLink "Sleepers$Hall" (190 : Nat) ({ cls := "Sleepers$Hall", name := "work", desc := "()V" } : Jvm.MethodName)) ∈ tb := tb_at 1176 (by decide +kernel) (by decide +kernel)
theorem wd_1178 : (Jvm.Cond.instanceMethod ({ cls := "Sleepers$Hall", name := "work", desc := "()V" } : Jvm.MethodName)) ∈ tb := tb_at 1178 (by decide +kernel) (by decide +kernel)
theorem wd_1179 : (Jvm.Cond.code ({ cls := "Sleepers$Hall", name := "work", desc := "()V" } : Jvm.MethodName) prog_3_method_24_code (3 : Nat) (Option.none : Option Jvm.ClassFile.FieldType)) ∈ tb := tb_at 1179 (by decide +kernel) (by decide +kernel)
theorem wd_1180 : (Jvm.Cond.constant "Sleepers$Hall" (193 : Nat) (1000000 : Int32)) ∈ tb := tb_at 1180 (by decide +kernel) (by decide +kernel)
theorem wd_1181 : (Jvm.Cond.methodLink "Sleepers$Hall" (232 : Nat) ({ cls := "Sleepers$Hall", name := "settle", desc := "(LSleepers$Task;)V" } : Jvm.MethodName)) ∈ tb := tb_at 1181 (by decide +kernel) (by decide +kernel)
theorem wd_1183 : (Jvm.Cond.instanceMethod ({ cls := "Sleepers$Hall", name := "settle", desc := "(LSleepers$Task;)V" } : Jvm.MethodName)) ∈ tb := tb_at 1183 (by decide +kernel) (by decide +kernel)
theorem wd_1184 : (Jvm.Cond.code ({ cls := "Sleepers$Hall", name := "settle", desc := "(LSleepers$Task;)V" } : Jvm.MethodName) prog_3_method_25_code (2 : Nat) (Option.none : Option Jvm.ClassFile.FieldType)) ∈ tb := tb_at 1184 (by decide +kernel) (by decide +kernel)
theorem wd_1185 : (Jvm.Cond.methodLink "Sleepers$Hall" (235 : Nat) ({ cls := "Sleepers$Hall", name := "stop", desc := "(LSleepers$Task;)V" } : Jvm.MethodName)) ∈ tb := tb_at 1185 (by decide +kernel) (by decide +kernel)
theorem wd_1187 : (Jvm.Cond.instanceMethod ({ cls := "Sleepers$Hall", name := "stop", desc := "(LSleepers$Task;)V" } : Jvm.MethodName)) ∈ tb := tb_at 1187 (by decide +kernel) (by decide +kernel)
theorem wd_1188 : (Jvm.Cond.code ({ cls := "Sleepers$Hall", name := "stop", desc := "(LSleepers$Task;)V" } : Jvm.MethodName) prog_3_method_26_code (2 : Nat) (Option.none : Option Jvm.ClassFile.FieldType)) ∈ tb := tb_at 1188 (by decide +kernel) (by decide +kernel)
theorem wd_1189 : (Jvm.Cond.methodLink "Sleepers$Hall" (209 : Nat) ({ cls := "Sleepers$Hall", name := "close", desc := "(LSleepers$Task;)V" } : Jvm.MethodName)) ∈ tb := tb_at 1189 (by decide +kernel) (by decide +kernel)
theorem wd_1191 : (Jvm.Cond.instanceMethod ({ cls := "Sleepers$Hall", name := "close", desc := "(LSleepers$Task;)V" } : Jvm.MethodName)) ∈ tb := tb_at 1191 (by decide +kernel) (by decide +kernel)
theorem wd_1192 : (Jvm.Cond.code ({ cls := "Sleepers$Hall", name := "close", desc := "(LSleepers$Task;)V" } : Jvm.MethodName) prog_3_method_27_code (3 : Nat) (Option.none : Option Jvm.ClassFile.FieldType)) ∈ tb := tb_at 1192 (by decide +kernel) (by decide +kernel)
theorem wd_1193 : (Jvm.Cond.methodLink "Sleepers$Hall" (242 : Nat) ({ cls := "Sleepers$Hall", name := "leaveRow", desc := "(I)LSleepers$Task;" } : Jvm.MethodName)) ∈ tb := tb_at 1193 (by decide +kernel) (by decide +kernel)
theorem wd_1194 : (Jvm.Cond.methodLink "Sleepers$Hall" (238 : Nat) ({ cls := "Sleepers$Book", name := "note", desc := "(II)V" } : Jvm.MethodName)) ∈ tb := tb_at 1194 (by decide +kernel) (by decide +kernel)
theorem wd_1203 : (Jvm.Cond.methodLink "Sleepers$Hall" (201 : Nat) ({ cls := "Sleepers$Hall", name := "tellParent", desc := "(LSleepers$Task;)V" } : Jvm.MethodName)) ∈ tb := tb_at 1203 (by decide +kernel) (by decide +kernel)
theorem wd_1205 : (Jvm.Cond.instanceMethod ({ cls := "Sleepers$Hall", name := "tellParent", desc := "(LSleepers$Task;)V" } : Jvm.MethodName)) ∈ tb := tb_at 1205 (by decide +kernel) (by decide +kernel)
theorem wd_1206 : (Jvm.Cond.code ({ cls := "Sleepers$Hall", name := "tellParent", desc := "(LSleepers$Task;)V" } : Jvm.MethodName) prog_3_method_18_code (3 : Nat) (Option.none : Option Jvm.ClassFile.FieldType)) ∈ tb := tb_at 1206 (by decide +kernel) (by decide +kernel)
theorem wd_1207 : (Jvm.Cond.methodLink "Sleepers$Hall" (186 : Nat) ({ cls := "Sleepers$Hall", name := "report", desc := "(LSleepers$Part;II)V" } : Jvm.MethodName)) ∈ tb := tb_at 1207 (by decide +kernel) (by decide +kernel)
theorem wd_1209 : (Jvm.Cond.instanceMethod ({ cls := "Sleepers$Hall", name := "report", desc := "(LSleepers$Part;II)V" } : Jvm.MethodName)) ∈ tb := tb_at 1209 (by decide +kernel) (by decide +kernel)
theorem wd_1210 : (Jvm.Cond.code ({ cls := "Sleepers$Hall", name := "report", desc := "(LSleepers$Part;II)V" } : Jvm.MethodName) prog_3_method_19_code (8 : Nat) (Option.none : Option Jvm.ClassFile.FieldType)) ∈ tb := tb_at 1210 (by decide +kernel) (by decide +kernel)
theorem wd_1240 : (Jvm.Cond.methodLink "Sleepers$Hall" (194 : Nat) ({ cls := "Sleepers$Hall", name := "has", desc := "(I)Z" } : Jvm.MethodName)) ∈ tb := tb_at 1240 (by decide +kernel) (by decide +kernel)
theorem wd_1241 : (Jvm.Cond.instanceMethod ({ cls := "Sleepers$Hall", name := "has", desc := "(I)Z" } : Jvm.MethodName)) ∈ tb := tb_at 1241 (by decide +kernel) (by decide +kernel)
theorem wd_1242 : (Jvm.Cond.selects "Sleepers$Hall" ({ cls := "Sleepers$Hall", name := "has", desc := "(I)Z" } : Jvm.MethodName) ({ cls := "Sleepers$Hall", name := "has", desc := "(I)Z" } : Jvm.MethodName)) ∈ tb := tb_at 1242 (by decide +kernel) (by decide +kernel)
theorem wd_1243 : (Jvm.Cond.code ({ cls := "Sleepers$Hall", name := "has", desc := "(I)Z" } : Jvm.MethodName) prog_3_method_3_code (2 : Nat) (Option.some Jvm.ClassFile.FieldType.boolean)) ∈ tb := tb_at 1243 (by decide +kernel) (by decide +kernel)
theorem sl_X1_close : Cond.selects RX1 yX1_close yX1_close ∈ tb := sl_of (y := ⟨"Sleepers$Hall", "close", "(LSleepers$Task;)V"⟩) (n := 15) (by decide +kernel) (by decide +kernel)
theorem sl_X1_enterRow : Cond.selects RX1 yX1_enterRow yX1_enterRow ∈ tb := sl_of (y := ⟨"Sleepers$Hall", "enterRow", "(LSleepers$Task;)V"⟩) (n := 15) (by decide +kernel) (by decide +kernel)
theorem sl_X1_letGo : Cond.selects RX1 yX1_letGo yX1_letGo ∈ tb := sl_of (y := ⟨"Sleepers$Hall", "letGo", "(LSleepers$Task;Z)V"⟩) (n := 15) (by decide +kernel) (by decide +kernel)
theorem sl_X1_report : Cond.selects RX1 yX1_report yX1_report ∈ tb := sl_of (y := ⟨"Sleepers$Hall", "report", "(LSleepers$Part;II)V"⟩) (n := 15) (by decide +kernel) (by decide +kernel)
theorem sl_X1_settle : Cond.selects RX1 yX1_settle yX1_settle ∈ tb := sl_of (y := ⟨"Sleepers$Hall", "settle", "(LSleepers$Task;)V"⟩) (n := 15) (by decide +kernel) (by decide +kernel)
theorem sl_X1_stop : Cond.selects RX1 yX1_stop yX1_stop ∈ tb := sl_of (y := ⟨"Sleepers$Hall", "stop", "(LSleepers$Task;)V"⟩) (n := 15) (by decide +kernel) (by decide +kernel)
theorem sl_X1_tellParent : Cond.selects RX1 yX1_tellParent yX1_tellParent ∈ tb := sl_of (y := ⟨"Sleepers$Hall", "tellParent", "(LSleepers$Task;)V"⟩) (n := 15) (by decide +kernel) (by decide +kernel)
theorem sl_X1_work : Cond.selects RX1 yX1_work yX1_work ∈ tb := sl_of (y := ⟨"Sleepers$Hall", "work", "()V"⟩) (n := 15) (by decide +kernel) (by decide +kernel)
theorem dX1_callOff_0 : decode cX1_callOff 0 = .ok (.aload_n 0, 1) := by decide +kernel
theorem dX1_callOff_1 : decode cX1_callOff 1 = .ok (.iload_n 1, 1) := by decide +kernel
theorem dX1_callOff_2 : decode cX1_callOff 2 = .ok (.invokevirtual 194, 3) := by decide +kernel
theorem dX1_callOff_5 : decode cX1_callOff 5 = .ok (.ifCond .eq 28, 3) := by decide +kernel
theorem dX1_callOff_8 : decode cX1_callOff 8 = .ok (.aload_n 0, 1) := by decide +kernel
theorem dX1_callOff_9 : decode cX1_callOff 9 = .ok (.getfield 11, 3) := by decide +kernel
theorem dX1_callOff_12 : decode cX1_callOff 12 = .ok (.iload_n 1, 1) := by decide +kernel
theorem dX1_callOff_13 : decode cX1_callOff 13 = .ok (.aaload, 1) := by decide +kernel
theorem dX1_callOff_14 : decode cX1_callOff 14 = .ok (.getfield 128, 3) := by decide +kernel
theorem dX1_callOff_17 : decode cX1_callOff 17 = .ok (.iconst 3, 1) := by decide +kernel
theorem dX1_callOff_18 : decode cX1_callOff 18 = .ok (.if_icmp .eq 15, 3) := by decide +kernel
theorem dX1_callOff_21 : decode cX1_callOff 21 = .ok (.aload_n 0, 1) := by decide +kernel
theorem dX1_callOff_22 : decode cX1_callOff 22 = .ok (.getfield 11, 3) := by decide +kernel
theorem dX1_callOff_25 : decode cX1_callOff 25 = .ok (.iload_n 1, 1) := by decide +kernel
theorem dX1_callOff_26 : decode cX1_callOff 26 = .ok (.aaload, 1) := by decide +kernel
theorem dX1_callOff_27 : decode cX1_callOff 27 = .ok (.getfield 99, 3) := by decide +kernel
theorem dX1_callOff_30 : decode cX1_callOff 30 = .ok (.ifCond .eq 5, 3) := by decide +kernel
theorem dX1_callOff_33 : decode cX1_callOff 33 = .ok (.iconst 0, 1) := by decide +kernel
theorem dX1_callOff_34 : decode cX1_callOff 34 = .ok (.ireturn, 1) := by decide +kernel
theorem dX1_callOff_35 : decode cX1_callOff 35 = .ok (.aload_n 0, 1) := by decide +kernel
theorem dX1_callOff_36 : decode cX1_callOff 36 = .ok (.getfield 11, 3) := by decide +kernel
theorem dX1_callOff_39 : decode cX1_callOff 39 = .ok (.iload_n 1, 1) := by decide +kernel
theorem dX1_callOff_40 : decode cX1_callOff 40 = .ok (.aaload, 1) := by decide +kernel
theorem dX1_callOff_41 : decode cX1_callOff 41 = .ok (.astore_n 2, 1) := by decide +kernel
theorem dX1_callOff_42 : decode cX1_callOff 42 = .ok (.aload_n 0, 1) := by decide +kernel
theorem dX1_callOff_43 : decode cX1_callOff 43 = .ok (.iload_n 1, 1) := by decide +kernel
theorem dX1_callOff_44 : decode cX1_callOff 44 = .ok (.invokevirtual 198, 3) := by decide +kernel
theorem dX1_callOff_47 : decode cX1_callOff 47 = .ok (.aload_n 0, 1) := by decide +kernel
theorem dX1_callOff_48 : decode cX1_callOff 48 = .ok (.invokevirtual 190, 3) := by decide +kernel
theorem dX1_callOff_51 : decode cX1_callOff 51 = .ok (.aload_n 2, 1) := by decide +kernel
theorem dX1_callOff_52 : decode cX1_callOff 52 = .ok (.getfield 128, 3) := by decide +kernel
theorem dX1_callOff_55 : decode cX1_callOff 55 = .ok (.iconst 3, 1) := by decide +kernel
theorem dX1_callOff_56 : decode cX1_callOff 56 = .ok (.if_icmp .ne 12, 3) := by decide +kernel
theorem dX1_callOff_59 : decode cX1_callOff 59 = .ok (.aload_n 0, 1) := by decide +kernel
theorem dX1_callOff_60 : decode cX1_callOff 60 = .ok (.aload_n 2, 1) := by decide +kernel
theorem dX1_callOff_61 : decode cX1_callOff 61 = .ok (.invokevirtual 201, 3) := by decide +kernel
theorem dX1_callOff_64 : decode cX1_callOff 64 = .ok (.aload_n 0, 1) := by decide +kernel
theorem dX1_callOff_65 : decode cX1_callOff 65 = .ok (.invokevirtual 190, 3) := by decide +kernel
theorem dX1_callOff_68 : decode cX1_callOff 68 = .ok (.iconst 1, 1) := by decide +kernel
theorem dX1_callOff_69 : decode cX1_callOff 69 = .ok (.ireturn, 1) := by decide +kernel
theorem dX1_close_0 : decode cX1_close 0 = .ok (.aload_n 1, 1) := by decide +kernel
theorem dX1_close_1 : decode cX1_close 1 = .ok (.getfield 128, 3) := by decide +kernel
theorem dX1_close_4 : decode cX1_close 4 = .ok (.ifCond .ne 38, 3) := by decide +kernel
theorem dX1_close_7 : decode cX1_close 7 = .ok (.iconst 0, 1) := by decide +kernel
theorem dX1_close_8 : decode cX1_close 8 = .ok (.istore_n 2, 1) := by decide +kernel
theorem dX1_close_9 : decode cX1_close 9 = .ok (.iload_n 2, 1) := by decide +kernel
theorem dX1_close_10 : decode cX1_close 10 = .ok (.aload_n 0, 1) := by decide +kernel
theorem dX1_close_11 : decode cX1_close 11 = .ok (.getfield 63, 3) := by decide +kernel
theorem dX1_close_14 : decode cX1_close 14 = .ok (.if_icmp .ge 22, 3) := by decide +kernel
theorem dX1_close_17 : decode cX1_close 17 = .ok (.aload_n 0, 1) := by decide +kernel
theorem dX1_close_18 : decode cX1_close 18 = .ok (.getfield 17, 3) := by decide +kernel
theorem dX1_close_21 : decode cX1_close 21 = .ok (.iload_n 2, 1) := by decide +kernel
theorem dX1_close_22 : decode cX1_close 22 = .ok (.iaload, 1) := by decide +kernel
theorem dX1_close_23 : decode cX1_close 23 = .ok (.aload_n 1, 1) := by decide +kernel
theorem dX1_close_24 : decode cX1_close 24 = .ok (.getfield 125, 3) := by decide +kernel
theorem dX1_close_27 : decode cX1_close 27 = .ok (.if_icmp .eq 9, 3) := by decide +kernel
theorem dX1_close_30 : decode cX1_close 30 = .ok (.iinc 2 1, 3) := by decide +kernel
theorem dX1_close_33 : decode cX1_close 33 = .ok (.goto (-24), 3) := by decide +kernel
theorem dX1_close_36 : decode cX1_close 36 = .ok (.aload_n 0, 1) := by decide +kernel
theorem dX1_close_37 : decode cX1_close 37 = .ok (.iload_n 2, 1) := by decide +kernel
theorem dX1_close_38 : decode cX1_close 38 = .ok (.invokevirtual 242, 3) := by decide +kernel
theorem dX1_close_41 : decode cX1_close 41 = .ok (.pop, 1) := by decide +kernel
theorem dX1_close_42 : decode cX1_close 42 = .ok (.aload_n 1, 1) := by decide +kernel
theorem dX1_close_43 : decode cX1_close 43 = .ok (.iconst 3, 1) := by decide +kernel
theorem dX1_close_44 : decode cX1_close 44 = .ok (.putfield 128, 3) := by decide +kernel
theorem dX1_close_47 : decode cX1_close 47 = .ok (.aload_n 0, 1) := by decide +kernel
theorem dX1_close_48 : decode cX1_close 48 = .ok (.dup, 1) := by decide +kernel
theorem dX1_close_49 : decode cX1_close 49 = .ok (.getfield 60, 3) := by decide +kernel
theorem dX1_close_52 : decode cX1_close 52 = .ok (.iconst 1, 1) := by decide +kernel
theorem dX1_close_53 : decode cX1_close 53 = .ok (.iadd, 1) := by decide +kernel
theorem dX1_close_54 : decode cX1_close 54 = .ok (.putfield 60, 3) := by decide +kernel
theorem dX1_close_57 : decode cX1_close 57 = .ok (.aload_n 1, 1) := by decide +kernel
theorem dX1_close_58 : decode cX1_close 58 = .ok (.getfield 79, 3) := by decide +kernel
theorem dX1_close_61 : decode cX1_close 61 = .ok (.astore_n 2, 1) := by decide +kernel
theorem dX1_close_62 : decode cX1_close 62 = .ok (.aload_n 2, 1) := by decide +kernel
theorem dX1_close_63 : decode cX1_close 63 = .ok (.ifnull 33, 3) := by decide +kernel
theorem dX1_close_66 : decode cX1_close 66 = .ok (.aload_n 2, 1) := by decide +kernel
theorem dX1_close_67 : decode cX1_close 67 = .ok (.dup, 1) := by decide +kernel
theorem dX1_close_68 : decode cX1_close 68 = .ok (.getfield 114, 3) := by decide +kernel
theorem dX1_close_71 : decode cX1_close 71 = .ok (.iconst 1, 1) := by decide +kernel
theorem dX1_close_72 : decode cX1_close 72 = .ok (.isub, 1) := by decide +kernel
theorem dX1_close_73 : decode cX1_close 73 = .ok (.putfield 114, 3) := by decide +kernel
theorem dX1_close_76 : decode cX1_close 76 = .ok (.aload_n 2, 1) := by decide +kernel
theorem dX1_close_77 : decode cX1_close 77 = .ok (.getfield 128, 3) := by decide +kernel
theorem dX1_close_80 : decode cX1_close 80 = .ok (.iconst 2, 1) := by decide +kernel
theorem dX1_close_81 : decode cX1_close 81 = .ok (.if_icmp .ne 15, 3) := by decide +kernel
theorem dX1_close_84 : decode cX1_close 84 = .ok (.aload_n 2, 1) := by decide +kernel
theorem dX1_close_85 : decode cX1_close 85 = .ok (.getfield 114, 3) := by decide +kernel
theorem dX1_close_88 : decode cX1_close 88 = .ok (.ifCond .ne 8, 3) := by decide +kernel
theorem dX1_close_91 : decode cX1_close 91 = .ok (.aload_n 0, 1) := by decide +kernel
theorem dX1_close_92 : decode cX1_close 92 = .ok (.aload_n 2, 1) := by decide +kernel
theorem dX1_close_93 : decode cX1_close 93 = .ok (.invokevirtual 122, 3) := by decide +kernel
theorem dX1_close_96 : decode cX1_close 96 = .ok (.return_, 1) := by decide +kernel
theorem dX1_enterRow_0 : decode cX1_enterRow 0 = .ok (.aload_n 0, 1) := by decide +kernel
theorem dX1_enterRow_1 : decode cX1_enterRow 1 = .ok (.getfield 63, 3) := by decide +kernel
theorem dX1_enterRow_4 : decode cX1_enterRow 4 = .ok (.sipush 200, 3) := by decide +kernel
theorem dX1_enterRow_7 : decode cX1_enterRow 7 = .ok (.if_icmp .ge 26, 3) := by decide +kernel
theorem dX1_enterRow_10 : decode cX1_enterRow 10 = .ok (.aload_n 0, 1) := by decide +kernel
theorem dX1_enterRow_11 : decode cX1_enterRow 11 = .ok (.getfield 17, 3) := by decide +kernel
theorem dX1_enterRow_14 : decode cX1_enterRow 14 = .ok (.aload_n 0, 1) := by decide +kernel
theorem dX1_enterRow_15 : decode cX1_enterRow 15 = .ok (.getfield 63, 3) := by decide +kernel
theorem dX1_enterRow_18 : decode cX1_enterRow 18 = .ok (.aload_n 1, 1) := by decide +kernel
theorem dX1_enterRow_19 : decode cX1_enterRow 19 = .ok (.getfield 125, 3) := by decide +kernel
theorem dX1_enterRow_22 : decode cX1_enterRow 22 = .ok (.iastore, 1) := by decide +kernel
theorem dX1_enterRow_23 : decode cX1_enterRow 23 = .ok (.aload_n 0, 1) := by decide +kernel
theorem dX1_enterRow_24 : decode cX1_enterRow 24 = .ok (.dup, 1) := by decide +kernel
theorem dX1_enterRow_25 : decode cX1_enterRow 25 = .ok (.getfield 63, 3) := by decide +kernel
theorem dX1_enterRow_28 : decode cX1_enterRow 28 = .ok (.iconst 1, 1) := by decide +kernel
theorem dX1_enterRow_29 : decode cX1_enterRow 29 = .ok (.iadd, 1) := by decide +kernel
theorem dX1_enterRow_30 : decode cX1_enterRow 30 = .ok (.putfield 63, 3) := by decide +kernel
theorem dX1_enterRow_33 : decode cX1_enterRow 33 = .ok (.aload_n 1, 1) := by decide +kernel
theorem dX1_enterRow_34 : decode cX1_enterRow 34 = .ok (.iconst 0, 1) := by decide +kernel
theorem dX1_enterRow_35 : decode cX1_enterRow 35 = .ok (.putfield 128, 3) := by decide +kernel
theorem dX1_enterRow_38 : decode cX1_enterRow 38 = .ok (.return_, 1) := by decide +kernel
theorem dX1_leaveRow_0 : decode cX1_leaveRow 0 = .ok (.iload_n 1, 1) := by decide +kernel
theorem dX1_leaveRow_1 : decode cX1_leaveRow 1 = .ok (.ifCond .lt 11, 3) := by decide +kernel
theorem dX1_leaveRow_4 : decode cX1_leaveRow 4 = .ok (.iload_n 1, 1) := by decide +kernel
theorem dX1_leaveRow_5 : decode cX1_leaveRow 5 = .ok (.aload_n 0, 1) := by decide +kernel
theorem dX1_leaveRow_6 : decode cX1_leaveRow 6 = .ok (.getfield 63, 3) := by decide +kernel
theorem dX1_leaveRow_9 : decode cX1_leaveRow 9 = .ok (.if_icmp .lt 5, 3) := by decide +kernel
theorem dX1_leaveRow_12 : decode cX1_leaveRow 12 = .ok (.aconst_null, 1) := by decide +kernel
theorem dX1_leaveRow_13 : decode cX1_leaveRow 13 = .ok (.areturn, 1) := by decide +kernel
theorem dX1_leaveRow_14 : decode cX1_leaveRow 14 = .ok (.aload_n 0, 1) := by decide +kernel
theorem dX1_leaveRow_15 : decode cX1_leaveRow 15 = .ok (.getfield 11, 3) := by decide +kernel
theorem dX1_leaveRow_18 : decode cX1_leaveRow 18 = .ok (.aload_n 0, 1) := by decide +kernel
theorem dX1_leaveRow_19 : decode cX1_leaveRow 19 = .ok (.getfield 17, 3) := by decide +kernel
theorem dX1_leaveRow_22 : decode cX1_leaveRow 22 = .ok (.iload_n 1, 1) := by decide +kernel
theorem dX1_leaveRow_23 : decode cX1_leaveRow 23 = .ok (.iaload, 1) := by decide +kernel
theorem dX1_leaveRow_24 : decode cX1_leaveRow 24 = .ok (.aaload, 1) := by decide +kernel
theorem dX1_leaveRow_25 : decode cX1_leaveRow 25 = .ok (.astore_n 2, 1) := by decide +kernel
theorem dX1_leaveRow_26 : decode cX1_leaveRow 26 = .ok (.aload_n 0, 1) := by decide +kernel
theorem dX1_leaveRow_27 : decode cX1_leaveRow 27 = .ok (.dup, 1) := by decide +kernel
theorem dX1_leaveRow_28 : decode cX1_leaveRow 28 = .ok (.getfield 63, 3) := by decide +kernel
theorem dX1_leaveRow_31 : decode cX1_leaveRow 31 = .ok (.iconst 1, 1) := by decide +kernel
theorem dX1_leaveRow_32 : decode cX1_leaveRow 32 = .ok (.isub, 1) := by decide +kernel
theorem dX1_leaveRow_33 : decode cX1_leaveRow 33 = .ok (.putfield 63, 3) := by decide +kernel
theorem dX1_leaveRow_36 : decode cX1_leaveRow 36 = .ok (.iload_n 1, 1) := by decide +kernel
theorem dX1_leaveRow_37 : decode cX1_leaveRow 37 = .ok (.istore_n 3, 1) := by decide +kernel
theorem dX1_leaveRow_38 : decode cX1_leaveRow 38 = .ok (.iload_n 3, 1) := by decide +kernel
theorem dX1_leaveRow_39 : decode cX1_leaveRow 39 = .ok (.aload_n 0, 1) := by decide +kernel
theorem dX1_leaveRow_40 : decode cX1_leaveRow 40 = .ok (.getfield 63, 3) := by decide +kernel
theorem dX1_leaveRow_43 : decode cX1_leaveRow 43 = .ok (.if_icmp .ge 23, 3) := by decide +kernel
theorem dX1_leaveRow_46 : decode cX1_leaveRow 46 = .ok (.aload_n 0, 1) := by decide +kernel
theorem dX1_leaveRow_47 : decode cX1_leaveRow 47 = .ok (.getfield 17, 3) := by decide +kernel
theorem dX1_leaveRow_50 : decode cX1_leaveRow 50 = .ok (.iload_n 3, 1) := by decide +kernel
theorem dX1_leaveRow_51 : decode cX1_leaveRow 51 = .ok (.aload_n 0, 1) := by decide +kernel
theorem dX1_leaveRow_52 : decode cX1_leaveRow 52 = .ok (.getfield 17, 3) := by decide +kernel
theorem dX1_leaveRow_55 : decode cX1_leaveRow 55 = .ok (.iload_n 3, 1) := by decide +kernel
theorem dX1_leaveRow_56 : decode cX1_leaveRow 56 = .ok (.iconst 1, 1) := by decide +kernel
theorem dX1_leaveRow_57 : decode cX1_leaveRow 57 = .ok (.iadd, 1) := by decide +kernel
theorem dX1_leaveRow_58 : decode cX1_leaveRow 58 = .ok (.iaload, 1) := by decide +kernel
theorem dX1_leaveRow_59 : decode cX1_leaveRow 59 = .ok (.iastore, 1) := by decide +kernel
theorem dX1_leaveRow_60 : decode cX1_leaveRow 60 = .ok (.iinc 3 1, 3) := by decide +kernel
theorem dX1_leaveRow_63 : decode cX1_leaveRow 63 = .ok (.goto (-25), 3) := by decide +kernel
theorem dX1_leaveRow_66 : decode cX1_leaveRow 66 = .ok (.aload_n 2, 1) := by decide +kernel
theorem dX1_leaveRow_67 : decode cX1_leaveRow 67 = .ok (.areturn, 1) := by decide +kernel
theorem dX1_letGo_0 : decode cX1_letGo 0 = .ok (.aload_n 0, 1) := by decide +kernel
theorem dX1_letGo_1 : decode cX1_letGo 1 = .ok (.getfield 212, 3) := by decide +kernel
theorem dX1_letGo_4 : decode cX1_letGo 4 = .ok (.istore_n 3, 1) := by decide +kernel
theorem dX1_letGo_5 : decode cX1_letGo 5 = .ok (.aload_n 0, 1) := by decide +kernel
theorem dX1_letGo_6 : decode cX1_letGo 6 = .ok (.aload_n 1, 1) := by decide +kernel
theorem dX1_letGo_7 : decode cX1_letGo 7 = .ok (.iload_n 2, 1) := by decide +kernel
theorem dX1_letGo_8 : decode cX1_letGo 8 = .ok (.invokevirtual 218, 3) := by decide +kernel
theorem dX1_letGo_11 : decode cX1_letGo 11 = .ok (.aload_n 0, 1) := by decide +kernel
theorem dX1_letGo_12 : decode cX1_letGo 12 = .ok (.iload_n 3, 1) := by decide +kernel
theorem dX1_letGo_13 : decode cX1_letGo 13 = .ok (.invokevirtual 225, 3) := by decide +kernel
theorem dX1_letGo_16 : decode cX1_letGo 16 = .ok (.return_, 1) := by decide +kernel
theorem dX1_settle_0 : decode cX1_settle 0 = .ok (.aload_n 1, 1) := by decide +kernel
theorem dX1_settle_1 : decode cX1_settle 1 = .ok (.getfield 128, 3) := by decide +kernel
theorem dX1_settle_4 : decode cX1_settle 4 = .ok (.iconst 1, 1) := by decide +kernel
theorem dX1_settle_5 : decode cX1_settle 5 = .ok (.if_icmp .ne 30, 3) := by decide +kernel
theorem dX1_settle_8 : decode cX1_settle 8 = .ok (.aload_n 1, 1) := by decide +kernel
theorem dX1_settle_9 : decode cX1_settle 9 = .ok (.getfield 119, 3) := by decide +kernel
theorem dX1_settle_12 : decode cX1_settle 12 = .ok (.ifCond .eq 23, 3) := by decide +kernel
theorem dX1_settle_15 : decode cX1_settle 15 = .ok (.aload_n 1, 1) := by decide +kernel
theorem dX1_settle_16 : decode cX1_settle 16 = .ok (.getfield 114, 3) := by decide +kernel
theorem dX1_settle_19 : decode cX1_settle 19 = .ok (.ifCond .ne 11, 3) := by decide +kernel
theorem dX1_settle_22 : decode cX1_settle 22 = .ok (.aload_n 0, 1) := by decide +kernel
theorem dX1_settle_23 : decode cX1_settle 23 = .ok (.aload_n 1, 1) := by decide +kernel
theorem dX1_settle_24 : decode cX1_settle 24 = .ok (.invokevirtual 122, 3) := by decide +kernel
theorem dX1_settle_27 : decode cX1_settle 27 = .ok (.goto 8, 3) := by decide +kernel
theorem dX1_settle_30 : decode cX1_settle 30 = .ok (.aload_n 1, 1) := by decide +kernel
theorem dX1_settle_31 : decode cX1_settle 31 = .ok (.iconst 2, 1) := by decide +kernel
theorem dX1_settle_32 : decode cX1_settle 32 = .ok (.putfield 128, 3) := by decide +kernel
theorem dX1_settle_35 : decode cX1_settle 35 = .ok (.return_, 1) := by decide +kernel
theorem dX1_stop_0 : decode cX1_stop 0 = .ok (.aload_n 1, 1) := by decide +kernel
theorem dX1_stop_1 : decode cX1_stop 1 = .ok (.getfield 128, 3) := by decide +kernel
theorem dX1_stop_4 : decode cX1_stop 4 = .ok (.iconst 3, 1) := by decide +kernel
theorem dX1_stop_5 : decode cX1_stop 5 = .ok (.if_icmp .eq 10, 3) := by decide +kernel
theorem dX1_stop_8 : decode cX1_stop 8 = .ok (.aload_n 1, 1) := by decide +kernel
theorem dX1_stop_9 : decode cX1_stop 9 = .ok (.getfield 99, 3) := by decide +kernel
theorem dX1_stop_12 : decode cX1_stop 12 = .ok (.ifCond .eq 4, 3) := by decide +kernel
theorem dX1_stop_15 : decode cX1_stop 15 = .ok (.return_, 1) := by decide +kernel
theorem dX1_stop_16 : decode cX1_stop 16 = .ok (.aload_n 1, 1) := by decide +kernel
theorem dX1_stop_17 : decode cX1_stop 17 = .ok (.iconst 1, 1) := by decide +kernel
theorem dX1_stop_18 : decode cX1_stop 18 = .ok (.putfield 99, 3) := by decide +kernel
theorem dX1_stop_21 : decode cX1_stop 21 = .ok (.aload_n 1, 1) := by decide +kernel
theorem dX1_stop_22 : decode cX1_stop 22 = .ok (.getfield 96, 3) := by decide +kernel
theorem dX1_stop_25 : decode cX1_stop 25 = .ok (.ifCond .ne 15, 3) := by decide +kernel
theorem dX1_stop_28 : decode cX1_stop 28 = .ok (.aload_n 1, 1) := by decide +kernel
theorem dX1_stop_29 : decode cX1_stop 29 = .ok (.bipush 22, 2) := by decide +kernel
theorem dX1_stop_31 : decode cX1_stop 31 = .ok (.putfield 87, 3) := by decide +kernel
theorem dX1_stop_34 : decode cX1_stop 34 = .ok (.aload_n 0, 1) := by decide +kernel
theorem dX1_stop_35 : decode cX1_stop 35 = .ok (.aload_n 1, 1) := by decide +kernel
theorem dX1_stop_36 : decode cX1_stop 36 = .ok (.invokevirtual 209, 3) := by decide +kernel
theorem dX1_stop_39 : decode cX1_stop 39 = .ok (.return_, 1) := by decide +kernel
theorem dX1_stop_40 : decode cX1_stop 40 = .ok (.aload_n 1, 1) := by decide +kernel
theorem dX1_stop_41 : decode cX1_stop 41 = .ok (.getfield 119, 3) := by decide +kernel
theorem dX1_stop_44 : decode cX1_stop 44 = .ok (.iconst 1, 1) := by decide +kernel
theorem dX1_stop_45 : decode cX1_stop 45 = .ok (.if_icmp .ne 18, 3) := by decide +kernel
theorem dX1_stop_48 : decode cX1_stop 48 = .ok (.aload_n 0, 1) := by decide +kernel
theorem dX1_stop_49 : decode cX1_stop 49 = .ok (.getfield 41, 3) := by decide +kernel
theorem dX1_stop_52 : decode cX1_stop 52 = .ok (.aload_n 1, 1) := by decide +kernel
theorem dX1_stop_53 : decode cX1_stop 53 = .ok (.getfield 125, 3) := by decide +kernel
theorem dX1_stop_56 : decode cX1_stop 56 = .ok (.aload_n 1, 1) := by decide +kernel
theorem dX1_stop_57 : decode cX1_stop 57 = .ok (.getfield 208, 3) := by decide +kernel
theorem dX1_stop_60 : decode cX1_stop 60 = .ok (.invokevirtual 238, 3) := by decide +kernel
theorem dX1_stop_63 : decode cX1_stop 63 = .ok (.aload_n 1, 1) := by decide +kernel
theorem dX1_stop_64 : decode cX1_stop 64 = .ok (.iconst 4, 1) := by decide +kernel
theorem dX1_stop_65 : decode cX1_stop 65 = .ok (.putfield 119, 3) := by decide +kernel
theorem dX1_stop_68 : decode cX1_stop 68 = .ok (.aload_n 1, 1) := by decide +kernel
theorem dX1_stop_69 : decode cX1_stop 69 = .ok (.getfield 128, 3) := by decide +kernel
theorem dX1_stop_72 : decode cX1_stop 72 = .ok (.iconst 1, 1) := by decide +kernel
theorem dX1_stop_73 : decode cX1_stop 73 = .ok (.if_icmp .ne 19, 3) := by decide +kernel
theorem dX1_stop_76 : decode cX1_stop 76 = .ok (.aload_n 0, 1) := by decide +kernel
theorem dX1_stop_77 : decode cX1_stop 77 = .ok (.aload_n 1, 1) := by decide +kernel
theorem dX1_stop_78 : decode cX1_stop 78 = .ok (.getfield 125, 3) := by decide +kernel
theorem dX1_stop_81 : decode cX1_stop 81 = .ok (.iconst (-1), 1) := by decide +kernel
theorem dX1_stop_82 : decode cX1_stop 82 = .ok (.ixor, 1) := by decide +kernel
theorem dX1_stop_83 : decode cX1_stop 83 = .ok (.invokevirtual 198, 3) := by decide +kernel
theorem dX1_stop_86 : decode cX1_stop 86 = .ok (.aload_n 0, 1) := by decide +kernel
theorem dX1_stop_87 : decode cX1_stop 87 = .ok (.aload_n 1, 1) := by decide +kernel
theorem dX1_stop_88 : decode cX1_stop 88 = .ok (.iconst 1, 1) := by decide +kernel
theorem dX1_stop_89 : decode cX1_stop 89 = .ok (.invokevirtual 204, 3) := by decide +kernel
theorem dX1_stop_92 : decode cX1_stop 92 = .ok (.return_, 1) := by decide +kernel
theorem dX1_tellParent_0 : decode cX1_tellParent 0 = .ok (.aload_n 1, 1) := by decide +kernel
theorem dX1_tellParent_1 : decode cX1_tellParent 1 = .ok (.getfield 83, 3) := by decide +kernel
theorem dX1_tellParent_4 : decode cX1_tellParent 4 = .ok (.astore_n 2, 1) := by decide +kernel
theorem dX1_tellParent_5 : decode cX1_tellParent 5 = .ok (.aload_n 2, 1) := by decide +kernel
theorem dX1_tellParent_6 : decode cX1_tellParent 6 = .ok (.ifnull 10, 3) := by decide +kernel
theorem dX1_tellParent_9 : decode cX1_tellParent 9 = .ok (.aload_n 2, 1) := by decide +kernel
theorem dX1_tellParent_10 : decode cX1_tellParent 10 = .ok (.getfield 144, 3) := by decide +kernel
theorem dX1_tellParent_13 : decode cX1_tellParent 13 = .ok (.ifCond .eq 4, 3) := by decide +kernel
theorem dX1_tellParent_16 : decode cX1_tellParent 16 = .ok (.return_, 1) := by decide +kernel
theorem dX1_tellParent_17 : decode cX1_tellParent 17 = .ok (.aload_n 1, 1) := by decide +kernel
theorem dX1_tellParent_18 : decode cX1_tellParent 18 = .ok (.getfield 87, 3) := by decide +kernel
theorem dX1_tellParent_21 : decode cX1_tellParent 21 = .ok (.ifCond .ne 16, 3) := by decide +kernel
theorem dX1_tellParent_24 : decode cX1_tellParent 24 = .ok (.aload_n 0, 1) := by decide +kernel
theorem dX1_tellParent_25 : decode cX1_tellParent 25 = .ok (.aload_n 2, 1) := by decide +kernel
theorem dX1_tellParent_26 : decode cX1_tellParent 26 = .ok (.iconst 1, 1) := by decide +kernel
theorem dX1_tellParent_27 : decode cX1_tellParent 27 = .ok (.aload_n 1, 1) := by decide +kernel
theorem dX1_tellParent_28 : decode cX1_tellParent 28 = .ok (.getfield 90, 3) := by decide +kernel
theorem dX1_tellParent_31 : decode cX1_tellParent 31 = .ok (.invokevirtual 186, 3) := by decide +kernel
theorem dX1_tellParent_34 : decode cX1_tellParent 34 = .ok (.goto 13, 3) := by decide +kernel
theorem dX1_tellParent_37 : decode cX1_tellParent 37 = .ok (.aload_n 0, 1) := by decide +kernel
theorem dX1_tellParent_38 : decode cX1_tellParent 38 = .ok (.aload_n 2, 1) := by decide +kernel
theorem dX1_tellParent_39 : decode cX1_tellParent 39 = .ok (.iconst 2, 1) := by decide +kernel
theorem dX1_tellParent_40 : decode cX1_tellParent 40 = .ok (.aload_n 1, 1) := by decide +kernel
theorem dX1_tellParent_41 : decode cX1_tellParent 41 = .ok (.getfield 87, 3) := by decide +kernel
theorem dX1_tellParent_44 : decode cX1_tellParent 44 = .ok (.invokevirtual 186, 3) := by decide +kernel
theorem dX1_tellParent_47 : decode cX1_tellParent 47 = .ok (.return_, 1) := by decide +kernel
theorem dX1_work_0 : decode cX1_work 0 = .ok (.iconst 0, 1) := by decide +kernel
theorem dX1_work_1 : decode cX1_work 1 = .ok (.istore_n 1, 1) := by decide +kernel
theorem dX1_work_2 : decode cX1_work 2 = .ok (.iload_n 1, 1) := by decide +kernel
theorem dX1_work_3 : decode cX1_work 3 = .ok (.ldc 193, 2) := by decide +kernel
theorem dX1_work_5 : decode cX1_work 5 = .ok (.if_icmp .ge 65, 3) := by decide +kernel
theorem dX1_work_8 : decode cX1_work 8 = .ok (.aload_n 0, 1) := by decide +kernel
theorem dX1_work_9 : decode cX1_work 9 = .ok (.getfield 212, 3) := by decide +kernel
theorem dX1_work_12 : decode cX1_work 12 = .ok (.ifCond .le 58, 3) := by decide +kernel
theorem dX1_work_15 : decode cX1_work 15 = .ok (.aload_n 0, 1) := by decide +kernel
theorem dX1_work_16 : decode cX1_work 16 = .ok (.dup, 1) := by decide +kernel
theorem dX1_work_17 : decode cX1_work 17 = .ok (.getfield 212, 3) := by decide +kernel
theorem dX1_work_20 : decode cX1_work 20 = .ok (.iconst 1, 1) := by decide +kernel
theorem dX1_work_21 : decode cX1_work 21 = .ok (.isub, 1) := by decide +kernel
theorem dX1_work_22 : decode cX1_work 22 = .ok (.putfield 212, 3) := by decide +kernel
theorem dX1_work_25 : decode cX1_work 25 = .ok (.aload_n 0, 1) := by decide +kernel
theorem dX1_work_26 : decode cX1_work 26 = .ok (.getfield 45, 3) := by decide +kernel
theorem dX1_work_29 : decode cX1_work 29 = .ok (.aload_n 0, 1) := by decide +kernel
theorem dX1_work_30 : decode cX1_work 30 = .ok (.getfield 212, 3) := by decide +kernel
theorem dX1_work_33 : decode cX1_work 33 = .ok (.iaload, 1) := by decide +kernel
theorem dX1_work_34 : decode cX1_work 34 = .ok (.istore_n 2, 1) := by decide +kernel
theorem dX1_work_35 : decode cX1_work 35 = .ok (.iload_n 2, 1) := by decide +kernel
theorem dX1_work_36 : decode cX1_work 36 = .ok (.ifCond .ge 18, 3) := by decide +kernel
theorem dX1_work_39 : decode cX1_work 39 = .ok (.aload_n 0, 1) := by decide +kernel
theorem dX1_work_40 : decode cX1_work 40 = .ok (.aload_n 0, 1) := by decide +kernel
theorem dX1_work_41 : decode cX1_work 41 = .ok (.getfield 11, 3) := by decide +kernel
theorem dX1_work_44 : decode cX1_work 44 = .ok (.iload_n 2, 1) := by decide +kernel
theorem dX1_work_45 : decode cX1_work 45 = .ok (.iconst (-1), 1) := by decide +kernel
theorem dX1_work_46 : decode cX1_work 46 = .ok (.ixor, 1) := by decide +kernel
theorem dX1_work_47 : decode cX1_work 47 = .ok (.aaload, 1) := by decide +kernel
theorem dX1_work_48 : decode cX1_work 48 = .ok (.invokevirtual 232, 3) := by decide +kernel
theorem dX1_work_51 : decode cX1_work 51 = .ok (.goto 13, 3) := by decide +kernel
theorem dX1_work_54 : decode cX1_work 54 = .ok (.aload_n 0, 1) := by decide +kernel
theorem dX1_work_55 : decode cX1_work 55 = .ok (.aload_n 0, 1) := by decide +kernel
theorem dX1_work_56 : decode cX1_work 56 = .ok (.getfield 11, 3) := by decide +kernel
theorem dX1_work_59 : decode cX1_work 59 = .ok (.iload_n 2, 1) := by decide +kernel
theorem dX1_work_60 : decode cX1_work 60 = .ok (.aaload, 1) := by decide +kernel
theorem dX1_work_61 : decode cX1_work 61 = .ok (.invokevirtual 235, 3) := by decide +kernel
theorem dX1_work_64 : decode cX1_work 64 = .ok (.iinc 1 1, 3) := by decide +kernel
theorem dX1_work_67 : decode cX1_work 67 = .ok (.goto (-65), 3) := by decide +kernel
theorem dX1_work_70 : decode cX1_work 70 = .ok (.return_, 1) := by decide +kernel
def wp_X1_tellParent (t0 : Nat) (a0 : Nat) (S : kS) (K : kS → Prop) : Prop := hasO S a0 9 ∧ ∀ z1 : Option Nat, z1 = S.2.1 57 a0 → ((z1 = none → K S) ∧ (∀ q2 : Nat, z1 = some q2 → hasO S q2 4 ∧ ∀ z3 : Int32, z3 = S.1 13 q2 → ((z3 = 0 → hasO S a0 9 ∧ ∀ z5 : Int32, z5 = S.1 31 a0 → ((¬ z5 = 0 → hasO S a0 9 ∧ ∀ z7 : Int32, z7 = S.1 31 a0 → hasO S t0 1 ∧ wp_X1_report t0 q2 2 z7 S (fun (S8 : kS) => K S8)) ∧ (z5 = 0 → hasO S a0 9 ∧ ∀ z9 : Int32, z9 = S.1 32 a0 → hasO S t0 1 ∧ wp_X1_report t0 q2 1 z9 S (fun (S10 : kS) => K S10)))) ∧ (¬ z3 = 0 → K S))))
theorem cw_X1_186 {R : Room} {s : State} {args : Array Value} {fr lo : Nat} (hts : ∀ w ∈ tb, w.before args s = true) (h1 : fr + 1 ≤ R.frames) (h2 : 8 + (8 + 11) + lo ≤ R.locals) : CallW R s args RX1 RX1 186 yX1_report cX1_report 8 none (.code yX1_report cX1_report 8 none :: tb) (mRm fr lo) 0 0 3 := cwV 3 hts (gd_V wd_1207 wd_1209 sl_X1_report wd_9 wd_1210) rfl rfl rfl (by decide +kernel) ⟨h1, h2⟩
set_option maxHeartbeats 4000000 in
set_option maxRecDepth 100000 in
theorem kt_X1_tellParent (l : Launch) (S : kS) (t0 : Nat) (a0 : Nat) (K : kS → Prop) (h : wp_X1_tellParent t0 a0 S K) : kMv l yX1_tellParent cX1_tellParent 3 none 3 71 [.ref t0, .ref a0] S K := by
  refine kv_ofv (own := RX1) (by decide) rfl (Nat.le_of_ble_eq_true rfl) ?_
  intro E p e R s m args below meth c A ls Q hRf hRl hX hC hl hret
  have hx := hX.1.1
  have hb := hX.1.2.1
  have hown := hX.1.2.2.2.1
  have hts := hX.1.2.2.2.2
  have hl : lv_has ls 3 [(0, .ref t0), (1, .ref a0)] := hl
  unfold wp_X1_tellParent at h
  refine lv_aload_n hx hb dX1_tellParent_0 rfl (lv_at hl 1 rfl) ?_
  refine cq_getr (ci := 9) (k := 3) (f := 57) hX hC rfl in_X9 (by decide) wd_871 (fun _ h9 => h9) (fun _ _ => rfl) dX1_tellParent_1 h (fun z1 h => ?_)
  refine lo_astore_n (lv' := [(2, va_rf z1), (0, .ref t0), (1, .ref a0)]) hx hb dX1_tellParent_4 rfl hl (by decide) (by rcases z1 with _ | _ <;> rfl) (fun ls hl => ?_)
  refine lo_aload_n hx hb dX1_tellParent_5 rfl (lv_at hl 0 rfl) ?_
  rcases z1 with _ | q2
  · have h := h.1 rfl
    refine lv_ifnullN (tgt := 16) hx hb dX1_tellParent_6 (by decide) ?_
    exact hret _ _ _ _ _ hC h dX1_tellParent_16
  · have h := h.2 q2 rfl
    refine lv_ifnull hx hb dX1_tellParent_6 ?_
    refine lv_aload_n hx hb dX1_tellParent_9 rfl (lv_at hl 0 rfl) ?_
    refine cq_geti (ci := 4) (k := 2) (f := 13) hX hC rfl in_X4 (by decide) wd_1062 (fun _ h9 => h9) (fun _ _ => rfl) dX1_tellParent_10 h (fun z3 h => ?_)
    refine lv_if_eq (tgt := 17) hx hb dX1_tellParent_13 (by decide) (fun c4 => ?_) (fun c4 => ?_)
    · have h := h.1 c4
      refine lv_aload_n hx hb dX1_tellParent_17 rfl (lv_at hl 2 rfl) ?_
      refine cq_geti (ci := 9) (k := 5) (f := 31) hX hC rfl in_X9 (by decide) wd_877 (fun _ h9 => h9) (fun _ _ => rfl) dX1_tellParent_18 h (fun z5 h => ?_)
      refine lv_if_ne (tgt := 37) hx hb dX1_tellParent_21 (by decide) (fun c6 => ?_) (fun c6 => ?_)
      · have h := h.1 c6
        refine lv_aload_n hx hb dX1_tellParent_37 rfl (lv_at hl 1 rfl) ?_
        refine lv_aload_n hx hb dX1_tellParent_38 rfl (lv_at hl 0 rfl) ?_
        refine lv_iconst (v := 2) hx hb dX1_tellParent_39 (by decide) ?_
        refine lv_aload_n hx hb dX1_tellParent_40 rfl (lv_at hl 2 rfl) ?_
        refine cq_geti (ci := 9) (k := 5) (f := 31) hX hC rfl in_X9 (by decide) wd_877 (fun _ h9 => h9) (fun _ _ => rfl) dX1_tellParent_41 h (fun z7 h => ?_)
        refine kv_callv [.ref q2, .int 2, .int z7] (rest := []) (ci := 1) rfl hX hC h.1 (kt_X1_report l S t0 q2 2 z7 _ h.2 E _) (cw_X1_186 hts (by omega) (by omega)) rfl hl.1 (Nat.le_of_ble_eq_true rfl) ⟨Nat.zero_le _, Nat.zero_le _⟩ dX1_tellParent_44 (fun S8 H locs hC h => ?_)
        exact hret _ _ _ _ _ hC h dX1_tellParent_47
      · have h := h.2 c6
        refine lv_aload_n hx hb dX1_tellParent_24 rfl (lv_at hl 1 rfl) ?_
        refine lv_aload_n hx hb dX1_tellParent_25 rfl (lv_at hl 0 rfl) ?_
        refine lv_iconst (v := 1) hx hb dX1_tellParent_26 (by decide) ?_
        refine lv_aload_n hx hb dX1_tellParent_27 rfl (lv_at hl 2 rfl) ?_
        refine cq_geti (ci := 9) (k := 6) (f := 32) hX hC rfl in_X9 (by decide) wd_880 (fun _ h9 => h9) (fun _ _ => rfl) dX1_tellParent_28 h (fun z9 h => ?_)
        refine kv_callv [.ref q2, .int 1, .int z9] (rest := []) (ci := 1) rfl hX hC h.1 (kt_X1_report l S t0 q2 1 z9 _ h.2 E _) (cw_X1_186 hts (by omega) (by omega)) rfl hl.1 (Nat.le_of_ble_eq_true rfl) ⟨Nat.zero_le _, Nat.zero_le _⟩ dX1_tellParent_31 (fun S10 H locs hC h => ?_)
        refine lv_goto (tgt := 47) hx hb dX1_tellParent_34 (by decide) ?_
        exact hret _ _ _ _ _ hC h dX1_tellParent_47
    · have h := h.2 c4
      exact hret _ _ _ _ _ hC h dX1_tellParent_16
def wp_X1_enterRow (t0 : Nat) (a0 : Nat) (S : kS) (K : kS → Prop) : Prop := hasO S t0 1 ∧ ∀ z1 : Int32, z1 = S.1 3 t0 → ((200 ≤ z1 → hasO S a0 9 ∧ ∀ S3 : kS, S3 = cI S 30 a0 0 → K S3) ∧ (¬ 200 ≤ z1 → hasO S t0 1 ∧ ∀ z4 : Option Nat, z4 = S.2.1 4 t0 → hasO S t0 1 ∧ ∀ z5 : Int32, z5 = S.1 3 t0 → hasO S a0 9 ∧ ∀ z6 : Int32, z6 = S.1 28 a0 → ∃ q7 : Nat, z4 = some q7 ∧ hasA S q7 200 0 ∧ inR z5 200 ∧ ∀ S8 : kS, S8 = cA S q7 (ix z5) z6 → hasO S8 t0 1 ∧ ∀ z9 : Int32, z9 = S8.1 3 t0 → ∀ z10 : Int32, z10 = z9 + 1 → hasO S8 t0 1 ∧ ∀ S11 : kS, S11 = cI S8 3 t0 z10 → hasO S11 a0 9 ∧ ∀ S12 : kS, S12 = cI S11 30 a0 0 → K S12))
set_option maxHeartbeats 4000000 in
set_option maxRecDepth 100000 in
theorem kt_X1_enterRow (l : Launch) (S : kS) (t0 : Nat) (a0 : Nat) (K : kS → Prop) (h : wp_X1_enterRow t0 a0 S K) : kMv l yX1_enterRow cX1_enterRow 2 none 0 0 [.ref t0, .ref a0] S K := by
  refine kv_ofv (own := RX1) (by decide) rfl (Nat.le_of_ble_eq_true rfl) ?_
  intro E p e R s m args below meth c A ls Q hRf hRl hX hC hl hret
  have hx := hX.1.1
  have hb := hX.1.2.1
  have hown := hX.1.2.2.2.1
  have hts := hX.1.2.2.2.2
  have hl : lv_has ls 2 [(0, .ref t0), (1, .ref a0)] := hl
  unfold wp_X1_enterRow at h
  refine lv_aload_n hx hb dX1_enterRow_0 rfl (lv_at hl 0 rfl) ?_
  refine cq_geti (ci := 1) (k := 5) (f := 3) hX hC rfl in_X1 (by decide) wd_243 (fun _ h9 => h9) (fun _ _ => rfl) dX1_enterRow_1 h (fun z1 h => ?_)
  refine lv_sipush (v := 200) hx hb dX1_enterRow_4 (by decide) ?_
  refine lv_icmp_ge (tgt := 33) hx hb dX1_enterRow_7 (by decide) (fun c2 => ?_) (fun c2 => ?_)
  · have h := h.1 c2
    refine lv_aload_n hx hb dX1_enterRow_33 rfl (lv_at hl 1 rfl) ?_
    refine lv_iconst (v := 0) hx hb dX1_enterRow_34 (by decide) ?_
    refine cq_puti (v := 0) (ci := 9) (k := 4) (f := 30) hX hC rfl in_X9 (by decide) wd_875 (fun _ h9 => h9) tyX9 tyX9_ok nmX9 rfl rfl rfl (fun _ _ => Nat.le_of_ble_eq_true rfl) (fun _ _ _ => rfl) dX1_enterRow_35 h.1 h.2 (fun S3 H locs hC h => ?_)
    exact hret _ _ _ _ _ hC h dX1_enterRow_38
  · have h := h.2 c2
    refine lv_aload_n hx hb dX1_enterRow_10 rfl (lv_at hl 0 rfl) ?_
    refine cq_getr (ci := 1) (k := 4) (f := 4) hX hC rfl in_X1 (by decide) wd_241 (fun _ h9 => h9) (fun _ _ => rfl) dX1_enterRow_11 h (fun z4 h => ?_)
    refine lv_aload_n hx hb dX1_enterRow_14 rfl (lv_at hl 0 rfl) ?_
    refine cq_geti (ci := 1) (k := 5) (f := 3) hX hC rfl in_X1 (by decide) wd_243 (fun _ h9 => h9) (fun _ _ => rfl) dX1_enterRow_15 h (fun z5 h => ?_)
    refine lv_aload_n hx hb dX1_enterRow_18 rfl (lv_at hl 1 rfl) ?_
    refine cq_geti (ci := 9) (k := 0) (f := 28) hX hC rfl in_X9 (by decide) wd_864 (fun _ h9 => h9) (fun _ _ => rfl) dX1_enterRow_19 h (fun z6 h => ?_)
    obtain ⟨q7, e9, hh⟩ := h
    subst e9
    have h := hh
    clear hh
    refine cq_ist hX hC dX1_enterRow_22 h.1 h.2.1 h.2.2 (fun S8 H locs hC h => ?_)
    refine lv_aload_n hx hb dX1_enterRow_23 rfl (lv_at hl 0 rfl) ?_
    refine lv_dup hx hb dX1_enterRow_24 rfl ?_
    refine cq_geti (ci := 1) (k := 5) (f := 3) hX hC rfl in_X1 (by decide) wd_243 (fun _ h9 => h9) (fun _ _ => rfl) dX1_enterRow_25 h (fun z9 h => ?_)
    refine lv_iconst (v := 1) hx hb dX1_enterRow_28 (by decide) ?_
    refine lq_iadd hx hb dX1_enterRow_29 h (fun z10 h => ?_)
    refine cq_puti (v := z10) (ci := 1) (k := 5) (f := 3) hX hC rfl in_X1 (by decide) wd_243 (fun _ h9 => h9) tyX1 tyX1_ok nmX1 rfl rfl rfl (fun _ _ => Nat.le_of_ble_eq_true rfl) (fun _ _ _ => rfl) dX1_enterRow_30 h.1 h.2 (fun S11 H locs hC h => ?_)
    refine lv_aload_n hx hb dX1_enterRow_33 rfl (lv_at hl 1 rfl) ?_
    refine lv_iconst (v := 0) hx hb dX1_enterRow_34 (by decide) ?_
    refine cq_puti (v := 0) (ci := 9) (k := 4) (f := 30) hX hC rfl in_X9 (by decide) wd_875 (fun _ h9 => h9) tyX9 tyX9_ok nmX9 rfl rfl rfl (fun _ _ => Nat.le_of_ble_eq_true rfl) (fun _ _ _ => rfl) dX1_enterRow_35 h.1 h.2 (fun S12 H locs hC h => ?_)
    exact hret _ _ _ _ _ hC h dX1_enterRow_38
def wp_X1_settle (t0 : Nat) (a0 : Nat) (S : kS) (K : kS → Prop) : Prop := hasO S a0 9 ∧ ∀ z1 : Int32, z1 = S.1 30 a0 → ((¬ z1 = 1 → K S) ∧ (z1 = 1 → hasO S a0 9 ∧ ∀ z3 : Int32, z3 = S.1 38 a0 → ((z3 = 0 → K S) ∧ (¬ z3 = 0 → hasO S a0 9 ∧ ∀ z5 : Int32, z5 = S.1 37 a0 → ((¬ z5 = 0 → hasO S a0 9 ∧ ∀ S7 : kS, S7 = cI S 30 a0 2 → K S7) ∧ (z5 = 0 → hasO S t0 1 ∧ wp_X1_enterRow t0 a0 S (fun (S8 : kS) => K S8)))))))
theorem cw_X1_122 {R : Room} {s : State} {args : Array Value} {fr lo : Nat} (hts : ∀ w ∈ tb, w.before args s = true) (h1 : fr + 1 ≤ R.frames) (h2 : 8 + (2 + 11) + lo ≤ R.locals) : CallW R s args RX1 RX1 122 yX1_enterRow cX1_enterRow 2 none (.code yX1_enterRow cX1_enterRow 2 none :: tb) (mRm fr lo) 0 0 1 := cwV 1 hts (gd_V wd_949 wd_951 sl_X1_enterRow wd_9 wd_952) rfl rfl rfl (by decide +kernel) ⟨h1, h2⟩
set_option maxHeartbeats 4000000 in
set_option maxRecDepth 100000 in
theorem kt_X1_settle (l : Launch) (S : kS) (t0 : Nat) (a0 : Nat) (K : kS → Prop) (h : wp_X1_settle t0 a0 S K) : kMv l yX1_settle cX1_settle 2 none 1 21 [.ref t0, .ref a0] S K := by
  refine kv_ofv (own := RX1) (by decide) rfl (Nat.le_of_ble_eq_true rfl) ?_
  intro E p e R s m args below meth c A ls Q hRf hRl hX hC hl hret
  have hx := hX.1.1
  have hb := hX.1.2.1
  have hown := hX.1.2.2.2.1
  have hts := hX.1.2.2.2.2
  have hl : lv_has ls 2 [(0, .ref t0), (1, .ref a0)] := hl
  unfold wp_X1_settle at h
  refine lv_aload_n hx hb dX1_settle_0 rfl (lv_at hl 1 rfl) ?_
  refine cq_geti (ci := 9) (k := 4) (f := 30) hX hC rfl in_X9 (by decide) wd_875 (fun _ h9 => h9) (fun _ _ => rfl) dX1_settle_1 h (fun z1 h => ?_)
  refine lv_iconst (v := 1) hx hb dX1_settle_4 (by decide) ?_
  refine lv_icmp_ne (tgt := 35) hx hb dX1_settle_5 (by decide) (fun c2 => ?_) (fun c2 => ?_)
  · have h := h.1 c2
    exact hret _ _ _ _ _ hC h dX1_settle_35
  · have h := h.2 c2
    refine lv_aload_n hx hb dX1_settle_8 rfl (lv_at hl 1 rfl) ?_
    refine cq_geti (ci := 9) (k := 18) (f := 38) hX hC rfl in_X9 (by decide) wd_905 (fun _ h9 => h9) (fun _ _ => rfl) dX1_settle_9 h (fun z3 h => ?_)
    refine lv_if_eq (tgt := 35) hx hb dX1_settle_12 (by decide) (fun c4 => ?_) (fun c4 => ?_)
    · have h := h.1 c4
      exact hret _ _ _ _ _ hC h dX1_settle_35
    · have h := h.2 c4
      refine lv_aload_n hx hb dX1_settle_15 rfl (lv_at hl 1 rfl) ?_
      refine cq_geti (ci := 9) (k := 17) (f := 37) hX hC rfl in_X9 (by decide) wd_902 (fun _ h9 => h9) (fun _ _ => rfl) dX1_settle_16 h (fun z5 h => ?_)
      refine lv_if_ne (tgt := 30) hx hb dX1_settle_19 (by decide) (fun c6 => ?_) (fun c6 => ?_)
      · have h := h.1 c6
        refine lv_aload_n hx hb dX1_settle_30 rfl (lv_at hl 1 rfl) ?_
        refine lv_iconst (v := 2) hx hb dX1_settle_31 (by decide) ?_
        refine cq_puti (v := 2) (ci := 9) (k := 4) (f := 30) hX hC rfl in_X9 (by decide) wd_875 (fun _ h9 => h9) tyX9 tyX9_ok nmX9 rfl rfl rfl (fun _ _ => Nat.le_of_ble_eq_true rfl) (fun _ _ _ => rfl) dX1_settle_32 h.1 h.2 (fun S7 H locs hC h => ?_)
        exact hret _ _ _ _ _ hC h dX1_settle_35
      · have h := h.2 c6
        refine lv_aload_n hx hb dX1_settle_22 rfl (lv_at hl 0 rfl) ?_
        refine lv_aload_n hx hb dX1_settle_23 rfl (lv_at hl 1 rfl) ?_
        refine kv_callv [.ref a0] (rest := []) (ci := 1) rfl hX hC h.1 (kt_X1_enterRow l S t0 a0 _ h.2 E _) (cw_X1_122 hts (by omega) (by omega)) rfl hl.1 (Nat.le_of_ble_eq_true rfl) ⟨Nat.zero_le _, Nat.zero_le _⟩ dX1_settle_24 (fun S8 H locs hC h => ?_)
        refine lv_goto (tgt := 35) hx hb dX1_settle_27 (by decide) ?_
        exact hret _ _ _ _ _ hC h dX1_settle_35
def wp_X1_leaveRow_38 (K : kS → Option Nat → Prop) (k38 : Nat × Option Nat × Int32 × kS → Prop) (x0 : Nat) (x2 : Option Nat) (x3 : Int32) (S : kS) : Prop := hasO S x0 1 ∧ ∀ z13 : Int32, z13 = S.1 3 x0 → ((z13 ≤ x3 → K S x2) ∧ (¬ z13 ≤ x3 → hasO S x0 1 ∧ ∀ z15 : Option Nat, z15 = S.2.1 4 x0 → hasO S x0 1 ∧ ∀ z16 : Option Nat, z16 = S.2.1 4 x0 → ∀ z17 : Int32, z17 = x3 + 1 → ∃ q18 : Nat, z16 = some q18 ∧ hasA S q18 200 0 ∧ inR z17 200 ∧ ∀ z19 : Int32, z19 = S.2.2.1 q18 (ix z17) → ∃ q20 : Nat, z15 = some q20 ∧ hasA S q20 200 0 ∧ inR x3 200 ∧ ∀ S21 : kS, S21 = cA S q20 (ix x3) z19 → ∀ z22 : Int32, z22 = x3 + 1 → k38 (x0, x2, z22, S21)))
def ls_X1_leaveRow_38 (K : kS → Option Nat → Prop) (k38 : Nat × Option Nat × Int32 × kS → Prop) (u : Nat × Option Nat × Int32 × kS) : Prop := wp_X1_leaveRow_38 K k38 u.1 u.2.1 u.2.2.1 u.2.2.2
def wp_X1_leaveRow_12 (K : kS → Option Nat → Prop) (S : kS) : Prop := K S none
def wp_X1_leaveRow (t0 : Nat) (a0 : Int32) (S : kS) (K : kS → Option Nat → Prop) : Prop := ((a0 < 0 → wp_X1_leaveRow_12 K S) ∧ (¬ a0 < 0 → hasO S t0 1 ∧ ∀ z2 : Int32, z2 = S.1 3 t0 → ((a0 < z2 → hasO S t0 1 ∧ ∀ z4 : Option Nat, z4 = S.2.1 3 t0 → hasO S t0 1 ∧ ∀ z5 : Option Nat, z5 = S.2.1 4 t0 → ∃ q6 : Nat, z5 = some q6 ∧ hasA S q6 200 0 ∧ inR a0 200 ∧ ∀ z7 : Int32, z7 = S.2.2.1 q6 (ix a0) → ∃ q8 : Nat, z4 = some q8 ∧ hasA S q8 200 2 ∧ inR z7 200 ∧ ∀ z9 : Option Nat, z9 = S.2.2.2.2.1 q8 (ix z7) → hasO S t0 1 ∧ ∀ z10 : Int32, z10 = S.1 3 t0 → ∀ z11 : Int32, z11 = z10 - 1 → hasO S t0 1 ∧ ∀ S12 : kS, S12 = cI S 3 t0 z11 → (∃ n9, it (ls_X1_leaveRow_38 K) n9 (t0, z9, a0, S12))) ∧ (¬ a0 < z2 → wp_X1_leaveRow_12 K S))))
set_option maxHeartbeats 4000000 in
set_option maxRecDepth 100000 in
theorem kt_X1_leaveRow (l : Launch) (S : kS) (t0 : Nat) (a0 : Int32) (K : kS → Option Nat → Prop) (h : wp_X1_leaveRow t0 a0 S K) : kMo l yX1_leaveRow cX1_leaveRow 4 (some (.object "Sleepers$Task")) 0 0 [.ref t0, .int a0] S K := by
  refine kv_ofo (own := RX1) (by decide) rfl (Nat.le_of_ble_eq_true rfl) ?_
  intro E p e R s m args below meth c A ls Q hRf hRl hX hC hl hret
  have hx := hX.1.1
  have hb := hX.1.2.1
  have hown := hX.1.2.2.2.1
  have hts := hX.1.2.2.2.2
  have cut38 : ∀ (n38 : Nat) (x0 : Nat) (x2 : Option Nat) (x3 : Int32) (S : kS) (H : Heap) (locs : List Loc) (ls : Array Slot), it (ls_X1_leaveRow_38 K) n38 (x0, x2, x3, S) → cM E A s.heap S H locs → lv_has ls 4 [(0, .ref x0), (2, va_rf x2), (3, .int x3)] → W p l e R s m args below meth c H locs 0 0 Q (F0 m 38 ls []) := by
    intro n38
    induction n38 with
    | zero => intro x0 x2 x3 S H locs ls h hC hl; exact h.elim
    | succ n38 ih38 =>
      intro x0 x2 x3 S H locs ls h hC hl
      have h : wp_X1_leaveRow_38 K (it (ls_X1_leaveRow_38 K) n38) x0 x2 x3 S := h
      unfold wp_X1_leaveRow_38 at h
      refine lv_iload_n hx hb dX1_leaveRow_38 rfl (lv_at hl 2 rfl) ?_
      refine lv_aload_n hx hb dX1_leaveRow_39 rfl (lv_at hl 0 rfl) ?_
      refine cq_geti (ci := 1) (k := 5) (f := 3) hX hC rfl in_X1 (by decide) wd_243 (fun _ h9 => h9) (fun _ _ => rfl) dX1_leaveRow_40 h (fun z13 h => ?_)
      refine lv_icmp_ge (tgt := 66) hx hb dX1_leaveRow_43 (by decide) (fun c14 => ?_) (fun c14 => ?_)
      · have h := h.1 c14
        refine lo_aload_n hx hb dX1_leaveRow_66 rfl (lv_at hl 1 rfl) ?_
        exact hret x2 _ _ _ _ _ hC h dX1_leaveRow_67
      · have h := h.2 c14
        refine lv_aload_n hx hb dX1_leaveRow_46 rfl (lv_at hl 0 rfl) ?_
        refine cq_getr (ci := 1) (k := 4) (f := 4) hX hC rfl in_X1 (by decide) wd_241 (fun _ h9 => h9) (fun _ _ => rfl) dX1_leaveRow_47 h (fun z15 h => ?_)
        refine lv_iload_n hx hb dX1_leaveRow_50 rfl (lv_at hl 2 rfl) ?_
        refine lv_aload_n hx hb dX1_leaveRow_51 rfl (lv_at hl 0 rfl) ?_
        refine cq_getr (ci := 1) (k := 4) (f := 4) hX hC rfl in_X1 (by decide) wd_241 (fun _ h9 => h9) (fun _ _ => rfl) dX1_leaveRow_52 h (fun z16 h => ?_)
        refine lv_iload_n hx hb dX1_leaveRow_55 rfl (lv_at hl 2 rfl) ?_
        refine lv_iconst (v := 1) hx hb dX1_leaveRow_56 (by decide) ?_
        refine lq_iadd hx hb dX1_leaveRow_57 h (fun z17 h => ?_)
        obtain ⟨q18, e9, hh⟩ := h
        subst e9
        have h := hh
        clear hh
        refine cq_ild hX hC dX1_leaveRow_58 h (fun z19 h => ?_)
        obtain ⟨q20, e9, hh⟩ := h
        subst e9
        have h := hh
        clear hh
        refine cq_ist hX hC dX1_leaveRow_59 h.1 h.2.1 h.2.2 (fun S21 H locs hC h => ?_)
        obtain ⟨z22, ez22⟩ : ∃ y : Int32, y = x3 + 1 := ⟨_, rfl⟩
        have h := h z22 ez22
        refine lv_iinc (v := z22) (lv' := [(3, .int z22), (0, .ref x0), (2, va_rf x2)]) hx hb dX1_leaveRow_60 hl (k := 2) rfl (by rw [ez22]; rfl) (by decide) (by rcases x2 with _ | _ <;> rfl) (fun ls hl => ?_)
        refine lv_goto (tgt := 38) hx hb dX1_leaveRow_63 (by decide) ?_
        exact ih38 x0 x2 z22 S21 _ _ _ h hC (lv_sub hl [1, 2, 0] rfl)
  have cut12 : ∀ (S : kS) (H : Heap) (locs : List Loc) (ls : Array Slot), wp_X1_leaveRow_12 K S → cM E A s.heap S H locs → lv_has ls 4 [] → W p l e R s m args below meth c H locs 0 0 Q (F0 m 12 ls []) := by
    intro S H locs ls h hC hl
    unfold wp_X1_leaveRow_12 at h
    refine lv_null hx hb dX1_leaveRow_12 ?_
    exact hret none _ _ _ _ _ hC h dX1_leaveRow_13
  have hl : lv_has ls 4 [(0, .ref t0), (1, .int a0)] := hl
  unfold wp_X1_leaveRow at h
  refine lv_iload_n hx hb dX1_leaveRow_0 rfl (lv_at hl 1 rfl) ?_
  refine lv_if_lt (tgt := 12) hx hb dX1_leaveRow_1 (by decide) (fun c1 => ?_) (fun c1 => ?_)
  · have h := h.1 c1
    exact cut12 S _ _ _ h hC (lv_sub hl [] rfl)
  · have h := h.2 c1
    refine lv_iload_n hx hb dX1_leaveRow_4 rfl (lv_at hl 1 rfl) ?_
    refine lv_aload_n hx hb dX1_leaveRow_5 rfl (lv_at hl 0 rfl) ?_
    refine cq_geti (ci := 1) (k := 5) (f := 3) hX hC rfl in_X1 (by decide) wd_243 (fun _ h9 => h9) (fun _ _ => rfl) dX1_leaveRow_6 h (fun z2 h => ?_)
    refine lv_icmp_lt (tgt := 14) hx hb dX1_leaveRow_9 (by decide) (fun c3 => ?_) (fun c3 => ?_)
    · have h := h.1 c3
      refine lv_aload_n hx hb dX1_leaveRow_14 rfl (lv_at hl 0 rfl) ?_
      refine cq_getr (ci := 1) (k := 1) (f := 3) hX hC rfl in_X1 (by decide) wd_235 (fun _ h9 => h9) (fun _ _ => rfl) dX1_leaveRow_15 h (fun z4 h => ?_)
      refine lv_aload_n hx hb dX1_leaveRow_18 rfl (lv_at hl 0 rfl) ?_
      refine cq_getr (ci := 1) (k := 4) (f := 4) hX hC rfl in_X1 (by decide) wd_241 (fun _ h9 => h9) (fun _ _ => rfl) dX1_leaveRow_19 h (fun z5 h => ?_)
      refine lv_iload_n hx hb dX1_leaveRow_22 rfl (lv_at hl 1 rfl) ?_
      obtain ⟨q6, e9, hh⟩ := h
      subst e9
      have h := hh
      clear hh
      refine cq_ild hX hC dX1_leaveRow_23 h (fun z7 h => ?_)
      obtain ⟨q8, e9, hh⟩ := h
      subst e9
      have h := hh
      clear hh
      refine cq_qld2 hX hC dX1_leaveRow_24 h (fun z9 h => ?_)
      refine lo_astore_n (lv' := [(2, va_rf z9), (0, .ref t0), (1, .int a0)]) hx hb dX1_leaveRow_25 rfl hl (by decide) (by rcases z9 with _ | _ <;> rfl) (fun ls hl => ?_)
      refine lv_aload_n hx hb dX1_leaveRow_26 rfl (lv_at hl 1 rfl) ?_
      refine lv_dup hx hb dX1_leaveRow_27 rfl ?_
      refine cq_geti (ci := 1) (k := 5) (f := 3) hX hC rfl in_X1 (by decide) wd_243 (fun _ h9 => h9) (fun _ _ => rfl) dX1_leaveRow_28 h (fun z10 h => ?_)
      refine lv_iconst (v := 1) hx hb dX1_leaveRow_31 (by decide) ?_
      refine lq_isub hx hb dX1_leaveRow_32 h (fun z11 h => ?_)
      refine cq_puti (v := z11) (ci := 1) (k := 5) (f := 3) hX hC rfl in_X1 (by decide) wd_243 (fun _ h9 => h9) tyX1 tyX1_ok nmX1 rfl rfl rfl (fun _ _ => Nat.le_of_ble_eq_true rfl) (fun _ _ _ => rfl) dX1_leaveRow_33 h.1 h.2 (fun S12 H locs hC h => ?_)
      refine lv_iload_n hx hb dX1_leaveRow_36 rfl (lv_at hl 2 rfl) ?_
      refine lv_istore_n (lv' := [(3, .int a0), (2, va_rf z9), (0, .ref t0), (1, .int a0)]) hx hb dX1_leaveRow_37 rfl hl (by decide) (by rcases z9 with _ | _ <;> rfl) (fun ls hl => ?_)
      obtain ⟨n9, h⟩ := h
      exact cut38 n9 t0 z9 a0 S12 _ _ _ h hC (lv_sub hl [2, 1, 0] rfl)
    · have h := h.2 c3
      exact cut12 S _ _ _ h hC (lv_sub hl [] rfl)
def wp_X1_close_42 (K : kS → Prop) (x0 : Nat) (x1 : Nat) (S : kS) : Prop := hasO S x1 9 ∧ ∀ S12 : kS, S12 = cI S 30 x1 3 → hasO S12 x0 1 ∧ ∀ z13 : Int32, z13 = S12.1 2 x0 → ∀ z14 : Int32, z14 = z13 + 1 → hasO S12 x0 1 ∧ ∀ S15 : kS, S15 = cI S12 2 x0 z14 → hasO S15 x1 9 ∧ ∀ z16 : Option Nat, z16 = S15.2.1 56 x1 → ((z16 = none → K S15) ∧ (∀ q17 : Nat, z16 = some q17 → hasO S15 q17 9 ∧ ∀ z18 : Int32, z18 = S15.1 37 q17 → ∀ z19 : Int32, z19 = z18 - 1 → hasO S15 q17 9 ∧ ∀ S20 : kS, S20 = cI S15 37 q17 z19 → hasO S20 q17 9 ∧ ∀ z21 : Int32, z21 = S20.1 30 q17 → ((¬ z21 = 2 → K S20) ∧ (z21 = 2 → hasO S20 q17 9 ∧ ∀ z23 : Int32, z23 = S20.1 37 q17 → ((¬ z23 = 0 → K S20) ∧ (z23 = 0 → hasO S20 x0 1 ∧ wp_X1_enterRow x0 q17 S20 (fun (S25 : kS) => K S25)))))))
def wp_X1_close_36 (K : kS → Prop) (x0 : Nat) (x1 : Nat) (x2 : Int32) (S : kS) : Prop := hasO S x0 1 ∧ wp_X1_leaveRow x0 x2 S (fun (S11 : kS) (o11 : Option Nat) => wp_X1_close_42 K x0 x1 S11)
def wp_X1_close_9 (K : kS → Prop) (k9 : Nat × Nat × Int32 × kS → Prop) (x0 : Nat) (x1 : Nat) (x2 : Int32) (S : kS) : Prop := hasO S x0 1 ∧ ∀ z3 : Int32, z3 = S.1 3 x0 → ((z3 ≤ x2 → wp_X1_close_36 K x0 x1 x2 S) ∧ (¬ z3 ≤ x2 → hasO S x0 1 ∧ ∀ z5 : Option Nat, z5 = S.2.1 4 x0 → ∃ q6 : Nat, z5 = some q6 ∧ hasA S q6 200 0 ∧ inR x2 200 ∧ ∀ z7 : Int32, z7 = S.2.2.1 q6 (ix x2) → hasO S x1 9 ∧ ∀ z8 : Int32, z8 = S.1 28 x1 → ((z7 = z8 → wp_X1_close_36 K x0 x1 x2 S) ∧ (¬ z7 = z8 → ∀ z10 : Int32, z10 = x2 + 1 → k9 (x0, x1, z10, S)))))
def ls_X1_close_9 (K : kS → Prop) (k9 : Nat × Nat × Int32 × kS → Prop) (u : Nat × Nat × Int32 × kS) : Prop := wp_X1_close_9 K k9 u.1 u.2.1 u.2.2.1 u.2.2.2
def wp_X1_close (t0 : Nat) (a0 : Nat) (S : kS) (K : kS → Prop) : Prop := hasO S a0 9 ∧ ∀ z1 : Int32, z1 = S.1 30 a0 → ((¬ z1 = 0 → wp_X1_close_42 K t0 a0 S) ∧ (z1 = 0 → (∃ n9, it (ls_X1_close_9 K) n9 (t0, a0, 0, S))))
theorem cw_X1_242 {R : Room} {s : State} {args : Array Value} {fr lo : Nat} (hts : ∀ w ∈ tb, w.before args s = true) (h1 : fr + 1 ≤ R.frames) (h2 : 8 + (4 + 11) + lo ≤ R.locals) : CallW R s args RX1 RX1 242 yX1_leaveRow cX1_leaveRow 4 (some (.object "Sleepers$Task")) (.code yX1_leaveRow cX1_leaveRow 4 (some (.object "Sleepers$Task")) :: tb) (mRm fr lo) 0 0 1 := cwV 1 hts (gd_V wd_1193 wd_966 wd_967 wd_9 wd_968) rfl rfl rfl (by decide +kernel) ⟨h1, h2⟩
set_option maxHeartbeats 4000000 in
set_option maxRecDepth 100000 in
theorem kt_X1_close (l : Launch) (S : kS) (t0 : Nat) (a0 : Nat) (K : kS → Prop) (h : wp_X1_close t0 a0 S K) : kMv l yX1_close cX1_close 3 none 1 23 [.ref t0, .ref a0] S K := by
  refine kv_ofv (own := RX1) (by decide) rfl (Nat.le_of_ble_eq_true rfl) ?_
  intro E p e R s m args below meth c A ls Q hRf hRl hX hC hl hret
  have hx := hX.1.1
  have hb := hX.1.2.1
  have hown := hX.1.2.2.2.1
  have hts := hX.1.2.2.2.2
  have cut42 : ∀ (x0 : Nat) (x1 : Nat) (S : kS) (H : Heap) (locs : List Loc) (ls : Array Slot), wp_X1_close_42 K x0 x1 S → cM E A s.heap S H locs → lv_has ls 3 [(0, .ref x0), (1, .ref x1)] → W p l e R s m args below meth c H locs 0 0 Q (F0 m 42 ls []) := by
    intro x0 x1 S H locs ls h hC hl
    unfold wp_X1_close_42 at h
    refine lv_aload_n hx hb dX1_close_42 rfl (lv_at hl 1 rfl) ?_
    refine lv_iconst (v := 3) hx hb dX1_close_43 (by decide) ?_
    refine cq_puti (v := 3) (ci := 9) (k := 4) (f := 30) hX hC rfl in_X9 (by decide) wd_875 (fun _ h9 => h9) tyX9 tyX9_ok nmX9 rfl rfl rfl (fun _ _ => Nat.le_of_ble_eq_true rfl) (fun _ _ _ => rfl) dX1_close_44 h.1 h.2 (fun S12 H locs hC h => ?_)
    refine lv_aload_n hx hb dX1_close_47 rfl (lv_at hl 0 rfl) ?_
    refine lv_dup hx hb dX1_close_48 rfl ?_
    refine cq_geti (ci := 1) (k := 3) (f := 2) hX hC rfl in_X1 (by decide) wd_239 (fun _ h9 => h9) (fun _ _ => rfl) dX1_close_49 h (fun z13 h => ?_)
    refine lv_iconst (v := 1) hx hb dX1_close_52 (by decide) ?_
    refine lq_iadd hx hb dX1_close_53 h (fun z14 h => ?_)
    refine cq_puti (v := z14) (ci := 1) (k := 3) (f := 2) hX hC rfl in_X1 (by decide) wd_239 (fun _ h9 => h9) tyX1 tyX1_ok nmX1 rfl rfl rfl (fun _ _ => Nat.le_of_ble_eq_true rfl) (fun _ _ _ => rfl) dX1_close_54 h.1 h.2 (fun S15 H locs hC h => ?_)
    refine lv_aload_n hx hb dX1_close_57 rfl (lv_at hl 1 rfl) ?_
    refine cq_getr (ci := 9) (k := 2) (f := 56) hX hC rfl in_X9 (by decide) wd_870 (fun _ h9 => h9) (fun _ _ => rfl) dX1_close_58 h (fun z16 h => ?_)
    refine lo_astore_n (lv' := [(2, va_rf z16), (0, .ref x0), (1, .ref x1)]) hx hb dX1_close_61 rfl hl (by decide) (by rcases z16 with _ | _ <;> rfl) (fun ls hl => ?_)
    refine lo_aload_n hx hb dX1_close_62 rfl (lv_at hl 0 rfl) ?_
    rcases z16 with _ | q17
    · have h := h.1 rfl
      refine lv_ifnullN (tgt := 96) hx hb dX1_close_63 (by decide) ?_
      exact hret _ _ _ _ _ hC h dX1_close_96
    · have h := h.2 q17 rfl
      refine lv_ifnull hx hb dX1_close_63 ?_
      refine lv_aload_n hx hb dX1_close_66 rfl (lv_at hl 0 rfl) ?_
      refine lv_dup hx hb dX1_close_67 rfl ?_
      refine cq_geti (ci := 9) (k := 17) (f := 37) hX hC rfl in_X9 (by decide) wd_902 (fun _ h9 => h9) (fun _ _ => rfl) dX1_close_68 h (fun z18 h => ?_)
      refine lv_iconst (v := 1) hx hb dX1_close_71 (by decide) ?_
      refine lq_isub hx hb dX1_close_72 h (fun z19 h => ?_)
      refine cq_puti (v := z19) (ci := 9) (k := 17) (f := 37) hX hC rfl in_X9 (by decide) wd_902 (fun _ h9 => h9) tyX9 tyX9_ok nmX9 rfl rfl rfl (fun _ _ => Nat.le_of_ble_eq_true rfl) (fun _ _ _ => rfl) dX1_close_73 h.1 h.2 (fun S20 H locs hC h => ?_)
      refine lv_aload_n hx hb dX1_close_76 rfl (lv_at hl 0 rfl) ?_
      refine cq_geti (ci := 9) (k := 4) (f := 30) hX hC rfl in_X9 (by decide) wd_875 (fun _ h9 => h9) (fun _ _ => rfl) dX1_close_77 h (fun z21 h => ?_)
      refine lv_iconst (v := 2) hx hb dX1_close_80 (by decide) ?_
      refine lv_icmp_ne (tgt := 96) hx hb dX1_close_81 (by decide) (fun c22 => ?_) (fun c22 => ?_)
      · have h := h.1 c22
        exact hret _ _ _ _ _ hC h dX1_close_96
      · have h := h.2 c22
        refine lv_aload_n hx hb dX1_close_84 rfl (lv_at hl 0 rfl) ?_
        refine cq_geti (ci := 9) (k := 17) (f := 37) hX hC rfl in_X9 (by decide) wd_902 (fun _ h9 => h9) (fun _ _ => rfl) dX1_close_85 h (fun z23 h => ?_)
        refine lv_if_ne (tgt := 96) hx hb dX1_close_88 (by decide) (fun c24 => ?_) (fun c24 => ?_)
        · have h := h.1 c24
          exact hret _ _ _ _ _ hC h dX1_close_96
        · have h := h.2 c24
          refine lv_aload_n hx hb dX1_close_91 rfl (lv_at hl 1 rfl) ?_
          refine lv_aload_n hx hb dX1_close_92 rfl (lv_at hl 0 rfl) ?_
          refine kv_callv [.ref q17] (rest := []) (ci := 1) rfl hX hC h.1 (kt_X1_enterRow l S20 x0 q17 _ h.2 E _) (cw_X1_122 hts (by omega) (by omega)) rfl hl.1 (Nat.le_of_ble_eq_true rfl) ⟨Nat.zero_le _, Nat.zero_le _⟩ dX1_close_93 (fun S25 H locs hC h => ?_)
          exact hret _ _ _ _ _ hC h dX1_close_96
  have cut36 : ∀ (x0 : Nat) (x1 : Nat) (x2 : Int32) (S : kS) (H : Heap) (locs : List Loc) (ls : Array Slot), wp_X1_close_36 K x0 x1 x2 S → cM E A s.heap S H locs → lv_has ls 3 [(0, .ref x0), (1, .ref x1), (2, .int x2)] → W p l e R s m args below meth c H locs 0 0 Q (F0 m 36 ls []) := by
    intro x0 x1 x2 S H locs ls h hC hl
    unfold wp_X1_close_36 at h
    refine lv_aload_n hx hb dX1_close_36 rfl (lv_at hl 0 rfl) ?_
    refine lv_iload_n hx hb dX1_close_37 rfl (lv_at hl 2 rfl) ?_
    refine kv_callo [.int x2] (rest := []) (ci := 1) rfl hX hC h.1 (kt_X1_leaveRow l S x0 x2 _ h.2 E _) (cw_X1_242 hts (by omega) (by omega)) rfl hl.1 (Nat.le_of_ble_eq_true rfl) ⟨Nat.zero_le _, Nat.zero_le _⟩ dX1_close_38 (fun o11 S11 H locs hC h => ?_)
    refine lv_pop hx hb dX1_close_41 cat_o ?_
    exact cut42 x0 x1 S11 _ _ _ h hC (lv_sub hl [0, 1] rfl)
  have cut9 : ∀ (n9 : Nat) (x0 : Nat) (x1 : Nat) (x2 : Int32) (S : kS) (H : Heap) (locs : List Loc) (ls : Array Slot), it (ls_X1_close_9 K) n9 (x0, x1, x2, S) → cM E A s.heap S H locs → lv_has ls 3 [(0, .ref x0), (1, .ref x1), (2, .int x2)] → W p l e R s m args below meth c H locs 0 0 Q (F0 m 9 ls []) := by
    intro n9
    induction n9 with
    | zero => intro x0 x1 x2 S H locs ls h hC hl; exact h.elim
    | succ n9 ih9 =>
      intro x0 x1 x2 S H locs ls h hC hl
      have h : wp_X1_close_9 K (it (ls_X1_close_9 K) n9) x0 x1 x2 S := h
      unfold wp_X1_close_9 at h
      refine lv_iload_n hx hb dX1_close_9 rfl (lv_at hl 2 rfl) ?_
      refine lv_aload_n hx hb dX1_close_10 rfl (lv_at hl 0 rfl) ?_
      refine cq_geti (ci := 1) (k := 5) (f := 3) hX hC rfl in_X1 (by decide) wd_243 (fun _ h9 => h9) (fun _ _ => rfl) dX1_close_11 h (fun z3 h => ?_)
      refine lv_icmp_ge (tgt := 36) hx hb dX1_close_14 (by decide) (fun c4 => ?_) (fun c4 => ?_)
      · have h := h.1 c4
        exact cut36 x0 x1 x2 S _ _ _ h hC (lv_sub hl [0, 1, 2] rfl)
      · have h := h.2 c4
        refine lv_aload_n hx hb dX1_close_17 rfl (lv_at hl 0 rfl) ?_
        refine cq_getr (ci := 1) (k := 4) (f := 4) hX hC rfl in_X1 (by decide) wd_241 (fun _ h9 => h9) (fun _ _ => rfl) dX1_close_18 h (fun z5 h => ?_)
        refine lv_iload_n hx hb dX1_close_21 rfl (lv_at hl 2 rfl) ?_
        obtain ⟨q6, e9, hh⟩ := h
        subst e9
        have h := hh
        clear hh
        refine cq_ild hX hC dX1_close_22 h (fun z7 h => ?_)
        refine lv_aload_n hx hb dX1_close_23 rfl (lv_at hl 1 rfl) ?_
        refine cq_geti (ci := 9) (k := 0) (f := 28) hX hC rfl in_X9 (by decide) wd_864 (fun _ h9 => h9) (fun _ _ => rfl) dX1_close_24 h (fun z8 h => ?_)
        refine lv_icmp_eq (tgt := 36) hx hb dX1_close_27 (by decide) (fun c9 => ?_) (fun c9 => ?_)
        · have h := h.1 c9
          exact cut36 x0 x1 x2 S _ _ _ h hC (lv_sub hl [0, 1, 2] rfl)
        · have h := h.2 c9
          obtain ⟨z10, ez10⟩ : ∃ y : Int32, y = x2 + 1 := ⟨_, rfl⟩
          have h := h z10 ez10
          refine lv_iinc (v := z10) (lv' := [(2, .int z10), (0, .ref x0), (1, .ref x1)]) hx hb dX1_close_30 hl (k := 2) rfl (by rw [ez10]; rfl) (by decide) rfl (fun ls hl => ?_)
          refine lv_goto (tgt := 9) hx hb dX1_close_33 (by decide) ?_
          exact ih9 x0 x1 z10 S _ _ _ h hC (lv_sub hl [1, 2, 0] rfl)
  have hl : lv_has ls 3 [(0, .ref t0), (1, .ref a0)] := hl
  unfold wp_X1_close at h
  refine lv_aload_n hx hb dX1_close_0 rfl (lv_at hl 1 rfl) ?_
  refine cq_geti (ci := 9) (k := 4) (f := 30) hX hC rfl in_X9 (by decide) wd_875 (fun _ h9 => h9) (fun _ _ => rfl) dX1_close_1 h (fun z1 h => ?_)
  refine lv_if_ne (tgt := 42) hx hb dX1_close_4 (by decide) (fun c2 => ?_) (fun c2 => ?_)
  · have h := h.1 c2
    exact cut42 t0 a0 S _ _ _ h hC (lv_sub hl [0, 1] rfl)
  · have h := h.2 c2
    refine lv_iconst (v := 0) hx hb dX1_close_7 (by decide) ?_
    refine lv_istore_n (lv' := [(2, .int 0), (0, .ref t0), (1, .ref a0)]) hx hb dX1_close_8 rfl hl (by decide) rfl (fun ls hl => ?_)
    obtain ⟨n9, h⟩ := h
    exact cut9 n9 t0 a0 0 S _ _ _ h hC (lv_sub hl [1, 2, 0] rfl)
def wp_X1_letGo (t0 : Nat) (a0 : Nat) (a1 : Int32) (S : kS) (K : kS → Prop) : Prop := hasO S t0 1 ∧ ∀ z1 : Int32, z1 = S.1 5 t0 → hasO S t0 1 ∧ wp_X1_drop t0 a0 a1 S (fun (S2 : kS) => hasO S2 t0 1 ∧ wp_X1_turnRound t0 z1 S2 (fun (S3 : kS) => K S3))
set_option maxHeartbeats 4000000 in
set_option maxRecDepth 100000 in
theorem kt_X1_letGo (l : Launch) (S : kS) (t0 : Nat) (a0 : Nat) (a1 : Int32) (K : kS → Prop) (h : wp_X1_letGo t0 a0 a1 S K) : kMv l yX1_letGo cX1_letGo 4 none 2 44 [.ref t0, .ref a0, .int a1] S K := by
  refine kv_ofv (own := RX1) (by decide) rfl (Nat.le_of_ble_eq_true rfl) ?_
  intro E p e R s m args below meth c A ls Q hRf hRl hX hC hl hret
  have hx := hX.1.1
  have hb := hX.1.2.1
  have hown := hX.1.2.2.2.1
  have hts := hX.1.2.2.2.2
  have hl : lv_has ls 4 [(0, .ref t0), (1, .ref a0), (2, .int a1)] := hl
  unfold wp_X1_letGo at h
  refine lv_aload_n hx hb dX1_letGo_0 rfl (lv_at hl 0 rfl) ?_
  refine cq_geti (ci := 1) (k := 13) (f := 5) hX hC rfl in_X1 (by decide) wd_260 (fun _ h9 => h9) (fun _ _ => rfl) dX1_letGo_1 h (fun z1 h => ?_)
  refine lv_istore_n (lv' := [(3, .int z1), (0, .ref t0), (1, .ref a0), (2, .int a1)]) hx hb dX1_letGo_4 rfl hl (by decide) rfl (fun ls hl => ?_)
  refine lv_aload_n hx hb dX1_letGo_5 rfl (lv_at hl 1 rfl) ?_
  refine lv_aload_n hx hb dX1_letGo_6 rfl (lv_at hl 2 rfl) ?_
  refine lv_iload_n hx hb dX1_letGo_7 rfl (lv_at hl 3 rfl) ?_
  refine kv_callv [.ref a0, .int a1] (rest := []) (ci := 1) rfl hX hC h.1 (kt_X1_drop l S t0 a0 a1 _ h.2 E _) (cw_X1_218 hts (by omega) (by omega)) rfl hl.1 (Nat.le_of_ble_eq_true rfl) ⟨Nat.zero_le _, Nat.zero_le _⟩ dX1_letGo_8 (fun S2 H locs hC h => ?_)
  refine lv_aload_n hx hb dX1_letGo_11 rfl (lv_at hl 1 rfl) ?_
  refine lv_iload_n hx hb dX1_letGo_12 rfl (lv_at hl 0 rfl) ?_
  refine kv_callv [.int z1] (rest := []) (ci := 1) rfl hX hC h.1 (kt_X1_turnRound l S2 t0 z1 _ h.2 E _) (cw_X1_225 hts (by omega) (by omega)) rfl hl.1 (Nat.le_of_ble_eq_true rfl) ⟨Nat.zero_le _, Nat.zero_le _⟩ dX1_letGo_13 (fun S3 H locs hC h => ?_)
  exact hret _ _ _ _ _ hC h dX1_letGo_16
def wp_X1_stop_63 (K : kS → Prop) (x0 : Nat) (x1 : Nat) (S : kS) : Prop := hasO S x1 9 ∧ ∀ S17 : kS, S17 = cI S 38 x1 4 → hasO S17 x1 9 ∧ ∀ z18 : Int32, z18 = S17.1 30 x1 → ((¬ z18 = 1 → K S17) ∧ (z18 = 1 → hasO S17 x1 9 ∧ ∀ z20 : Int32, z20 = S17.1 28 x1 → ∀ z21 : Int32, z21 = z20 ^^^ (-1) → hasO S17 x0 1 ∧ wp_X1_plan x0 z21 S17 (fun (S22 : kS) => hasO S22 x0 1 ∧ wp_X1_letGo x0 x1 1 S22 (fun (S23 : kS) => K S23))))
def wp_X1_stop (t0 : Nat) (a0 : Nat) (S : kS) (K : kS → Prop) : Prop := hasO S a0 9 ∧ ∀ z1 : Int32, z1 = S.1 30 a0 → ((z1 = 3 → K S) ∧ (¬ z1 = 3 → hasO S a0 9 ∧ ∀ z3 : Int32, z3 = S.1 35 a0 → ((z3 = 0 → hasO S a0 9 ∧ ∀ S5 : kS, S5 = cI S 35 a0 1 → hasO S5 a0 9 ∧ ∀ z6 : Int32, z6 = S5.1 34 a0 → ((¬ z6 = 0 → hasO S5 a0 9 ∧ ∀ z8 : Int32, z8 = S5.1 38 a0 → ((¬ z8 = 1 → wp_X1_stop_63 K t0 a0 S5) ∧ (z8 = 1 → hasO S5 t0 1 ∧ ∀ z10 : Option Nat, z10 = S5.2.1 9 t0 → hasO S5 a0 9 ∧ ∀ z11 : Int32, z11 = S5.1 28 a0 → hasO S5 a0 9 ∧ ∀ z12 : Int32, z12 = S5.1 39 a0 → ∃ q13 : Nat, z10 = some q13 ∧ hasO S5 q13 0 ∧ wp_X0_note q13 z11 z12 S5 (fun (S14 : kS) => wp_X1_stop_63 K t0 a0 S14)))) ∧ (z6 = 0 → hasO S5 a0 9 ∧ ∀ S15 : kS, S15 = cI S5 31 a0 22 → hasO S15 t0 1 ∧ wp_X1_close t0 a0 S15 (fun (S16 : kS) => K S16)))) ∧ (¬ z3 = 0 → K S))))
theorem cw_X1_238 {R : Room} {s : State} {args : Array Value} {fr lo : Nat} (hts : ∀ w ∈ tb, w.before args s = true) (h1 : fr + 1 ≤ R.frames) (h2 : 8 + (3 + 11) + lo ≤ R.locals) : CallW R s args RX1 RX0 238 yX0_note cX0_note 3 none (.code yX0_note cX0_note 3 none :: tb) (mRm fr lo) 0 0 2 := cwV 2 hts (gd_V wd_1194 wd_1031 wd_1032 wd_11 wd_1033) rfl rfl rfl (by decide +kernel) ⟨h1, h2⟩
theorem cw_X1_209 {R : Room} {s : State} {args : Array Value} {fr lo : Nat} (hts : ∀ w ∈ tb, w.before args s = true) (h1 : fr + 1 ≤ R.frames) (h2 : 8 + (3 + 11) + lo ≤ R.locals) : CallW R s args RX1 RX1 209 yX1_close cX1_close 3 none (.code yX1_close cX1_close 3 none :: tb) (mRm fr lo) 0 0 1 := cwV 1 hts (gd_V wd_1189 wd_1191 sl_X1_close wd_9 wd_1192) rfl rfl rfl (by decide +kernel) ⟨h1, h2⟩
theorem cw_X1_204 {R : Room} {s : State} {args : Array Value} {fr lo : Nat} (hts : ∀ w ∈ tb, w.before args s = true) (h1 : fr + 1 ≤ R.frames) (h2 : 8 + (4 + 11) + lo ≤ R.locals) : CallW R s args RX1 RX1 204 yX1_letGo cX1_letGo 4 none (.code yX1_letGo cX1_letGo 4 none :: tb) (mRm fr lo) 0 0 2 := cwV 2 hts (gd_V wd_1156 wd_1158 sl_X1_letGo wd_9 wd_1159) rfl rfl rfl (by decide +kernel) ⟨h1, h2⟩
set_option maxHeartbeats 4000000 in
set_option maxRecDepth 100000 in
theorem kt_X1_stop (l : Launch) (S : kS) (t0 : Nat) (a0 : Nat) (K : kS → Prop) (h : wp_X1_stop t0 a0 S K) : kMv l yX1_stop cX1_stop 2 none 3 67 [.ref t0, .ref a0] S K := by
  refine kv_ofv (own := RX1) (by decide) rfl (Nat.le_of_ble_eq_true rfl) ?_
  intro E p e R s m args below meth c A ls Q hRf hRl hX hC hl hret
  have hx := hX.1.1
  have hb := hX.1.2.1
  have hown := hX.1.2.2.2.1
  have hts := hX.1.2.2.2.2
  have cut63 : ∀ (x0 : Nat) (x1 : Nat) (S : kS) (H : Heap) (locs : List Loc) (ls : Array Slot), wp_X1_stop_63 K x0 x1 S → cM E A s.heap S H locs → lv_has ls 2 [(0, .ref x0), (1, .ref x1)] → W p l e R s m args below meth c H locs 0 0 Q (F0 m 63 ls []) := by
    intro x0 x1 S H locs ls h hC hl
    unfold wp_X1_stop_63 at h
    refine lv_aload_n hx hb dX1_stop_63 rfl (lv_at hl 1 rfl) ?_
    refine lv_iconst (v := 4) hx hb dX1_stop_64 (by decide) ?_
    refine cq_puti (v := 4) (ci := 9) (k := 18) (f := 38) hX hC rfl in_X9 (by decide) wd_905 (fun _ h9 => h9) tyX9 tyX9_ok nmX9 rfl rfl rfl (fun _ _ => Nat.le_of_ble_eq_true rfl) (fun _ _ _ => rfl) dX1_stop_65 h.1 h.2 (fun S17 H locs hC h => ?_)
    refine lv_aload_n hx hb dX1_stop_68 rfl (lv_at hl 1 rfl) ?_
    refine cq_geti (ci := 9) (k := 4) (f := 30) hX hC rfl in_X9 (by decide) wd_875 (fun _ h9 => h9) (fun _ _ => rfl) dX1_stop_69 h (fun z18 h => ?_)
    refine lv_iconst (v := 1) hx hb dX1_stop_72 (by decide) ?_
    refine lv_icmp_ne (tgt := 92) hx hb dX1_stop_73 (by decide) (fun c19 => ?_) (fun c19 => ?_)
    · have h := h.1 c19
      exact hret _ _ _ _ _ hC h dX1_stop_92
    · have h := h.2 c19
      refine lv_aload_n hx hb dX1_stop_76 rfl (lv_at hl 0 rfl) ?_
      refine lv_aload_n hx hb dX1_stop_77 rfl (lv_at hl 1 rfl) ?_
      refine cq_geti (ci := 9) (k := 0) (f := 28) hX hC rfl in_X9 (by decide) wd_864 (fun _ h9 => h9) (fun _ _ => rfl) dX1_stop_78 h (fun z20 h => ?_)
      refine lv_iconst (v := -1) hx hb dX1_stop_81 (by decide) ?_
      refine lq_ixor hx hb dX1_stop_82 h (fun z21 h => ?_)
      refine kv_callv [.int z21] (rest := []) (ci := 1) rfl hX hC h.1 (kt_X1_plan l S17 x0 z21 _ h.2 E _) (cw_X1_198 hts (by omega) (by omega)) rfl hl.1 (Nat.le_of_ble_eq_true rfl) ⟨Nat.zero_le _, Nat.zero_le _⟩ dX1_stop_83 (fun S22 H locs hC h => ?_)
      refine lv_aload_n hx hb dX1_stop_86 rfl (lv_at hl 0 rfl) ?_
      refine lv_aload_n hx hb dX1_stop_87 rfl (lv_at hl 1 rfl) ?_
      refine lv_iconst (v := 1) hx hb dX1_stop_88 (by decide) ?_
      refine kv_callv [.ref x1, .int 1] (rest := []) (ci := 1) rfl hX hC h.1 (kt_X1_letGo l S22 x0 x1 1 _ h.2 E _) (cw_X1_204 hts (by omega) (by omega)) rfl hl.1 (Nat.le_of_ble_eq_true rfl) ⟨Nat.zero_le _, Nat.zero_le _⟩ dX1_stop_89 (fun S23 H locs hC h => ?_)
      exact hret _ _ _ _ _ hC h dX1_stop_92
  have hl : lv_has ls 2 [(0, .ref t0), (1, .ref a0)] := hl
  unfold wp_X1_stop at h
  refine lv_aload_n hx hb dX1_stop_0 rfl (lv_at hl 1 rfl) ?_
  refine cq_geti (ci := 9) (k := 4) (f := 30) hX hC rfl in_X9 (by decide) wd_875 (fun _ h9 => h9) (fun _ _ => rfl) dX1_stop_1 h (fun z1 h => ?_)
  refine lv_iconst (v := 3) hx hb dX1_stop_4 (by decide) ?_
  refine lv_icmp_eq (tgt := 15) hx hb dX1_stop_5 (by decide) (fun c2 => ?_) (fun c2 => ?_)
  · have h := h.1 c2
    exact hret _ _ _ _ _ hC h dX1_stop_15
  · have h := h.2 c2
    refine lv_aload_n hx hb dX1_stop_8 rfl (lv_at hl 1 rfl) ?_
    refine cq_geti (ci := 9) (k := 9) (f := 35) hX hC rfl in_X9 (by decide) wd_889 (fun _ h9 => h9) (fun _ _ => rfl) dX1_stop_9 h (fun z3 h => ?_)
    refine lv_if_eq (tgt := 16) hx hb dX1_stop_12 (by decide) (fun c4 => ?_) (fun c4 => ?_)
    · have h := h.1 c4
      refine lv_aload_n hx hb dX1_stop_16 rfl (lv_at hl 1 rfl) ?_
      refine lv_iconst (v := 1) hx hb dX1_stop_17 (by decide) ?_
      refine cq_puti (v := 1) (ci := 9) (k := 9) (f := 35) hX hC rfl in_X9 (by decide) wd_889 (fun _ h9 => h9) tyX9 tyX9_ok nmX9 rfl rfl rfl (fun _ _ => Nat.le_of_ble_eq_true rfl) (fun _ _ _ => rfl) dX1_stop_18 h.1 h.2 (fun S5 H locs hC h => ?_)
      refine lv_aload_n hx hb dX1_stop_21 rfl (lv_at hl 1 rfl) ?_
      refine cq_geti (ci := 9) (k := 8) (f := 34) hX hC rfl in_X9 (by decide) wd_887 (fun _ h9 => h9) (fun _ _ => rfl) dX1_stop_22 h (fun z6 h => ?_)
      refine lv_if_ne (tgt := 40) hx hb dX1_stop_25 (by decide) (fun c7 => ?_) (fun c7 => ?_)
      · have h := h.1 c7
        refine lv_aload_n hx hb dX1_stop_40 rfl (lv_at hl 1 rfl) ?_
        refine cq_geti (ci := 9) (k := 18) (f := 38) hX hC rfl in_X9 (by decide) wd_905 (fun _ h9 => h9) (fun _ _ => rfl) dX1_stop_41 h (fun z8 h => ?_)
        refine lv_iconst (v := 1) hx hb dX1_stop_44 (by decide) ?_
        refine lv_icmp_ne (tgt := 63) hx hb dX1_stop_45 (by decide) (fun c9 => ?_) (fun c9 => ?_)
        · have h := h.1 c9
          exact cut63 t0 a0 S5 _ _ _ h hC (lv_sub hl [0, 1] rfl)
        · have h := h.2 c9
          refine lv_aload_n hx hb dX1_stop_48 rfl (lv_at hl 0 rfl) ?_
          refine cq_getr (ci := 1) (k := 11) (f := 9) hX hC rfl in_X1 (by decide) wd_257 (fun _ h9 => h9) (fun _ _ => rfl) dX1_stop_49 h (fun z10 h => ?_)
          refine lv_aload_n hx hb dX1_stop_52 rfl (lv_at hl 1 rfl) ?_
          refine cq_geti (ci := 9) (k := 0) (f := 28) hX hC rfl in_X9 (by decide) wd_864 (fun _ h9 => h9) (fun _ _ => rfl) dX1_stop_53 h (fun z11 h => ?_)
          refine lv_aload_n hx hb dX1_stop_56 rfl (lv_at hl 1 rfl) ?_
          refine cq_geti (ci := 9) (k := 19) (f := 39) hX hC rfl in_X9 (by decide) wd_907 (fun _ h9 => h9) (fun _ _ => rfl) dX1_stop_57 h (fun z12 h => ?_)
          obtain ⟨q13, e9, hh⟩ := h
          subst e9
          have h := hh
          clear hh
          refine kv_callv [.int z11, .int z12] (rest := []) (ci := 0) rfl hX hC h.1 (kt_X0_note l S5 q13 z11 z12 _ h.2 E _) (cw_X1_238 hts (by omega) (by omega)) rfl hl.1 (Nat.le_of_ble_eq_true rfl) ⟨Nat.zero_le _, Nat.zero_le _⟩ dX1_stop_60 (fun S14 H locs hC h => ?_)
          exact cut63 t0 a0 S14 _ _ _ h hC (lv_sub hl [0, 1] rfl)
      · have h := h.2 c7
        refine lv_aload_n hx hb dX1_stop_28 rfl (lv_at hl 1 rfl) ?_
        refine lv_bipush (v := 22) hx hb dX1_stop_29 (by decide) ?_
        refine cq_puti (v := 22) (ci := 9) (k := 5) (f := 31) hX hC rfl in_X9 (by decide) wd_877 (fun _ h9 => h9) tyX9 tyX9_ok nmX9 rfl rfl rfl (fun _ _ => Nat.le_of_ble_eq_true rfl) (fun _ _ _ => rfl) dX1_stop_31 h.1 h.2 (fun S15 H locs hC h => ?_)
        refine lv_aload_n hx hb dX1_stop_34 rfl (lv_at hl 0 rfl) ?_
        refine lv_aload_n hx hb dX1_stop_35 rfl (lv_at hl 1 rfl) ?_
        refine kv_callv [.ref a0] (rest := []) (ci := 1) rfl hX hC h.1 (kt_X1_close l S15 t0 a0 _ h.2 E _) (cw_X1_209 hts (by omega) (by omega)) rfl hl.1 (Nat.le_of_ble_eq_true rfl) ⟨Nat.zero_le _, Nat.zero_le _⟩ dX1_stop_36 (fun S16 H locs hC h => ?_)
        exact hret _ _ _ _ _ hC h dX1_stop_39
    · have h := h.2 c4
      exact hret _ _ _ _ _ hC h dX1_stop_15
def wp_X1_work_64 (K : kS → Prop) (k2 : Nat × Int32 × kS → Prop) (x0 : Nat) (x1 : Int32) (S : kS) : Prop := ∀ z23 : Int32, z23 = x1 + 1 → k2 (x0, z23, S)
def wp_X1_work_2 (K : kS → Prop) (k2 : Nat × Int32 × kS → Prop) (x0 : Nat) (x1 : Int32) (S : kS) : Prop := ((1000000 ≤ x1 → K S) ∧ (¬ 1000000 ≤ x1 → hasO S x0 1 ∧ ∀ z2 : Int32, z2 = S.1 5 x0 → ((z2 ≤ 0 → K S) ∧ (¬ z2 ≤ 0 → hasO S x0 1 ∧ ∀ z4 : Int32, z4 = S.1 5 x0 → ∀ z5 : Int32, z5 = z4 - 1 → hasO S x0 1 ∧ ∀ S6 : kS, S6 = cI S 5 x0 z5 → hasO S6 x0 1 ∧ ∀ z7 : Option Nat, z7 = S6.2.1 10 x0 → hasO S6 x0 1 ∧ ∀ z8 : Int32, z8 = S6.1 5 x0 → ∃ q9 : Nat, z7 = some q9 ∧ hasA S6 q9 416 0 ∧ inR z8 416 ∧ ∀ z10 : Int32, z10 = S6.2.2.1 q9 (ix z8) → ((0 ≤ z10 → hasO S6 x0 1 ∧ ∀ z12 : Option Nat, z12 = S6.2.1 3 x0 → ∃ q13 : Nat, z12 = some q13 ∧ hasA S6 q13 200 2 ∧ inR z10 200 ∧ ∀ z14 : Option Nat, z14 = S6.2.2.2.2.1 q13 (ix z10) → ∃ q15 : Nat, z14 = some q15 ∧ hasO S6 x0 1 ∧ wp_X1_stop x0 q15 S6 (fun (S16 : kS) => wp_X1_work_64 K k2 x0 x1 S16)) ∧ (¬ 0 ≤ z10 → hasO S6 x0 1 ∧ ∀ z17 : Option Nat, z17 = S6.2.1 3 x0 → ∀ z18 : Int32, z18 = z10 ^^^ (-1) → ∃ q19 : Nat, z17 = some q19 ∧ hasA S6 q19 200 2 ∧ inR z18 200 ∧ ∀ z20 : Option Nat, z20 = S6.2.2.2.2.1 q19 (ix z18) → ∃ q21 : Nat, z20 = some q21 ∧ hasO S6 x0 1 ∧ wp_X1_settle x0 q21 S6 (fun (S22 : kS) => wp_X1_work_64 K k2 x0 x1 S22)))))))
def ls_X1_work_2 (K : kS → Prop) (k2 : Nat × Int32 × kS → Prop) (u : Nat × Int32 × kS) : Prop := wp_X1_work_2 K k2 u.1 u.2.1 u.2.2
def wp_X1_work (t0 : Nat) (S : kS) (K : kS → Prop) : Prop := (∃ n9, it (ls_X1_work_2 K) n9 (t0, 0, S))
theorem cw_X1_235 {R : Room} {s : State} {args : Array Value} {fr lo : Nat} (hts : ∀ w ∈ tb, w.before args s = true) (h1 : fr + 1 ≤ R.frames) (h2 : 8 + (2 + 11) + lo ≤ R.locals) : CallW R s args RX1 RX1 235 yX1_stop cX1_stop 2 none (.code yX1_stop cX1_stop 2 none :: tb) (mRm fr lo) 0 0 1 := cwV 1 hts (gd_V wd_1185 wd_1187 sl_X1_stop wd_9 wd_1188) rfl rfl rfl (by decide +kernel) ⟨h1, h2⟩
theorem cw_X1_232 {R : Room} {s : State} {args : Array Value} {fr lo : Nat} (hts : ∀ w ∈ tb, w.before args s = true) (h1 : fr + 1 ≤ R.frames) (h2 : 8 + (2 + 11) + lo ≤ R.locals) : CallW R s args RX1 RX1 232 yX1_settle cX1_settle 2 none (.code yX1_settle cX1_settle 2 none :: tb) (mRm fr lo) 0 0 1 := cwV 1 hts (gd_V wd_1181 wd_1183 sl_X1_settle wd_9 wd_1184) rfl rfl rfl (by decide +kernel) ⟨h1, h2⟩
set_option maxHeartbeats 4000000 in
set_option maxRecDepth 100000 in
theorem kt_X1_work (l : Launch) (S : kS) (t0 : Nat) (K : kS → Prop) (h : wp_X1_work t0 S K) : kMv l yX1_work cX1_work 3 none 4 88 [.ref t0] S K := by
  refine kv_ofv (own := RX1) (by decide) rfl (Nat.le_of_ble_eq_true rfl) ?_
  intro E p e R s m args below meth c A ls Q hRf hRl hX hC hl hret
  have hx := hX.1.1
  have hb := hX.1.2.1
  have hown := hX.1.2.2.2.1
  have hts := hX.1.2.2.2.2
  have cut2 : ∀ (n2 : Nat) (x0 : Nat) (x1 : Int32) (S : kS) (H : Heap) (locs : List Loc) (ls : Array Slot), it (ls_X1_work_2 K) n2 (x0, x1, S) → cM E A s.heap S H locs → lv_has ls 3 [(0, .ref x0), (1, .int x1)] → W p l e R s m args below meth c H locs 0 0 Q (F0 m 2 ls []) := by
    intro n2
    induction n2 with
    | zero => intro x0 x1 S H locs ls h hC hl; exact h.elim
    | succ n2 ih2 =>
      have cut64 : ∀ (x0 : Nat) (x1 : Int32) (S : kS) (H : Heap) (locs : List Loc) (ls : Array Slot), wp_X1_work_64 K (it (ls_X1_work_2 K) n2) x0 x1 S → cM E A s.heap S H locs → lv_has ls 3 [(0, .ref x0), (1, .int x1)] → W p l e R s m args below meth c H locs 0 0 Q (F0 m 64 ls []) := by
        intro x0 x1 S H locs ls h hC hl
        unfold wp_X1_work_64 at h
        obtain ⟨z23, ez23⟩ : ∃ y : Int32, y = x1 + 1 := ⟨_, rfl⟩
        have h := h z23 ez23
        refine lv_iinc (v := z23) (lv' := [(1, .int z23), (0, .ref x0)]) hx hb dX1_work_64 hl (k := 1) rfl (by rw [ez23]; rfl) (by decide) rfl (fun ls hl => ?_)
        refine lv_goto (tgt := 2) hx hb dX1_work_67 (by decide) ?_
        exact ih2 x0 z23 S _ _ _ h hC (lv_sub hl [1, 0] rfl)
      intro x0 x1 S H locs ls h hC hl
      have h : wp_X1_work_2 K (it (ls_X1_work_2 K) n2) x0 x1 S := h
      unfold wp_X1_work_2 at h
      refine lv_iload_n hx hb dX1_work_2 rfl (lv_at hl 1 rfl) ?_
      refine lv_ldc (v := 1000000) hx hb hown (hts _ wd_1180) dX1_work_3 ?_
      refine lv_icmp_ge (tgt := 70) hx hb dX1_work_5 (by decide) (fun c1 => ?_) (fun c1 => ?_)
      · have h := h.1 c1
        exact hret _ _ _ _ _ hC h dX1_work_70
      · have h := h.2 c1
        refine lv_aload_n hx hb dX1_work_8 rfl (lv_at hl 0 rfl) ?_
        refine cq_geti (ci := 1) (k := 13) (f := 5) hX hC rfl in_X1 (by decide) wd_260 (fun _ h9 => h9) (fun _ _ => rfl) dX1_work_9 h (fun z2 h => ?_)
        refine lv_if_le (tgt := 70) hx hb dX1_work_12 (by decide) (fun c3 => ?_) (fun c3 => ?_)
        · have h := h.1 c3
          exact hret _ _ _ _ _ hC h dX1_work_70
        · have h := h.2 c3
          refine lv_aload_n hx hb dX1_work_15 rfl (lv_at hl 0 rfl) ?_
          refine lv_dup hx hb dX1_work_16 rfl ?_
          refine cq_geti (ci := 1) (k := 13) (f := 5) hX hC rfl in_X1 (by decide) wd_260 (fun _ h9 => h9) (fun _ _ => rfl) dX1_work_17 h (fun z4 h => ?_)
          refine lv_iconst (v := 1) hx hb dX1_work_20 (by decide) ?_
          refine lq_isub hx hb dX1_work_21 h (fun z5 h => ?_)
          refine cq_puti (v := z5) (ci := 1) (k := 13) (f := 5) hX hC rfl in_X1 (by decide) wd_260 (fun _ h9 => h9) tyX1 tyX1_ok nmX1 rfl rfl rfl (fun _ _ => Nat.le_of_ble_eq_true rfl) (fun _ _ _ => rfl) dX1_work_22 h.1 h.2 (fun S6 H locs hC h => ?_)
          refine lv_aload_n hx hb dX1_work_25 rfl (lv_at hl 0 rfl) ?_
          refine cq_getr (ci := 1) (k := 12) (f := 10) hX hC rfl in_X1 (by decide) wd_259 (fun _ h9 => h9) (fun _ _ => rfl) dX1_work_26 h (fun z7 h => ?_)
          refine lv_aload_n hx hb dX1_work_29 rfl (lv_at hl 0 rfl) ?_
          refine cq_geti (ci := 1) (k := 13) (f := 5) hX hC rfl in_X1 (by decide) wd_260 (fun _ h9 => h9) (fun _ _ => rfl) dX1_work_30 h (fun z8 h => ?_)
          obtain ⟨q9, e9, hh⟩ := h
          subst e9
          have h := hh
          clear hh
          refine cq_ild hX hC dX1_work_33 h (fun z10 h => ?_)
          refine lv_istore_n (lv' := [(2, .int z10), (0, .ref x0), (1, .int x1)]) hx hb dX1_work_34 rfl hl (by decide) rfl (fun ls hl => ?_)
          refine lv_iload_n hx hb dX1_work_35 rfl (lv_at hl 0 rfl) ?_
          refine lv_if_ge (tgt := 54) hx hb dX1_work_36 (by decide) (fun c11 => ?_) (fun c11 => ?_)
          · have h := h.1 c11
            refine lv_aload_n hx hb dX1_work_54 rfl (lv_at hl 1 rfl) ?_
            refine lv_aload_n hx hb dX1_work_55 rfl (lv_at hl 1 rfl) ?_
            refine cq_getr (ci := 1) (k := 1) (f := 3) hX hC rfl in_X1 (by decide) wd_235 (fun _ h9 => h9) (fun _ _ => rfl) dX1_work_56 h (fun z12 h => ?_)
            refine lv_iload_n hx hb dX1_work_59 rfl (lv_at hl 0 rfl) ?_
            obtain ⟨q13, e9, hh⟩ := h
            subst e9
            have h := hh
            clear hh
            refine cq_qld2 hX hC dX1_work_60 h (fun z14 h => ?_)
            obtain ⟨q15, e9, hh⟩ := h
            subst e9
            have h := hh
            clear hh
            refine kv_callv [.ref q15] (rest := []) (ci := 1) rfl hX hC h.1 (kt_X1_stop l S6 x0 q15 _ h.2 E _) (cw_X1_235 hts (by omega) (by omega)) rfl hl.1 (Nat.le_of_ble_eq_true rfl) ⟨Nat.zero_le _, Nat.zero_le _⟩ dX1_work_61 (fun S16 H locs hC h => ?_)
            exact cut64 x0 x1 S16 _ _ _ h hC (lv_sub hl [1, 2] rfl)
          · have h := h.2 c11
            refine lv_aload_n hx hb dX1_work_39 rfl (lv_at hl 1 rfl) ?_
            refine lv_aload_n hx hb dX1_work_40 rfl (lv_at hl 1 rfl) ?_
            refine cq_getr (ci := 1) (k := 1) (f := 3) hX hC rfl in_X1 (by decide) wd_235 (fun _ h9 => h9) (fun _ _ => rfl) dX1_work_41 h (fun z17 h => ?_)
            refine lv_iload_n hx hb dX1_work_44 rfl (lv_at hl 0 rfl) ?_
            refine lv_iconst (v := -1) hx hb dX1_work_45 (by decide) ?_
            refine lq_ixor hx hb dX1_work_46 h (fun z18 h => ?_)
            obtain ⟨q19, e9, hh⟩ := h
            subst e9
            have h := hh
            clear hh
            refine cq_qld2 hX hC dX1_work_47 h (fun z20 h => ?_)
            obtain ⟨q21, e9, hh⟩ := h
            subst e9
            have h := hh
            clear hh
            refine kv_callv [.ref q21] (rest := []) (ci := 1) rfl hX hC h.1 (kt_X1_settle l S6 x0 q21 _ h.2 E _) (cw_X1_232 hts (by omega) (by omega)) rfl hl.1 (Nat.le_of_ble_eq_true rfl) ⟨Nat.zero_le _, Nat.zero_le _⟩ dX1_work_48 (fun S22 H locs hC h => ?_)
            refine lv_goto (tgt := 64) hx hb dX1_work_51 (by decide) ?_
            exact cut64 x0 x1 S22 _ _ _ h hC (lv_sub hl [1, 2] rfl)
  have hl : lv_has ls 3 [(0, .ref t0)] := hl
  unfold wp_X1_work at h
  refine lv_iconst (v := 0) hx hb dX1_work_0 (by decide) ?_
  refine lv_istore_n (lv' := [(1, .int 0), (0, .ref t0)]) hx hb dX1_work_1 rfl hl (by decide) rfl (fun ls hl => ?_)
  obtain ⟨n9, h⟩ := h
  exact cut2 n9 t0 0 S _ _ _ h hC (lv_sub hl [1, 0] rfl)
def wp_X1_callOff (t0 : Nat) (a0 : Int32) (S : kS) (K : kS → Int32 → Prop) : Prop := hasO S t0 1 ∧ wp_X1_has t0 a0 S (fun (S1 : kS) (r1 : Int32) => ((r1 = 0 → K S1 0) ∧ (¬ r1 = 0 → hasO S1 t0 1 ∧ ∀ z3 : Option Nat, z3 = S1.2.1 3 t0 → ∃ q4 : Nat, z3 = some q4 ∧ hasA S1 q4 200 2 ∧ inR a0 200 ∧ ∀ z5 : Option Nat, z5 = S1.2.2.2.2.1 q4 (ix a0) → ∃ q6 : Nat, z5 = some q6 ∧ hasO S1 q6 9 ∧ ∀ z7 : Int32, z7 = S1.1 30 q6 → ((z7 = 3 → K S1 0) ∧ (¬ z7 = 3 → hasO S1 t0 1 ∧ ∀ z9 : Option Nat, z9 = S1.2.1 3 t0 → ∃ q10 : Nat, z9 = some q10 ∧ hasA S1 q10 200 2 ∧ inR a0 200 ∧ ∀ z11 : Option Nat, z11 = S1.2.2.2.2.1 q10 (ix a0) → ∃ q12 : Nat, z11 = some q12 ∧ hasO S1 q12 9 ∧ ∀ z13 : Int32, z13 = S1.1 35 q12 → ((z13 = 0 → hasO S1 t0 1 ∧ ∀ z15 : Option Nat, z15 = S1.2.1 3 t0 → ∃ q16 : Nat, z15 = some q16 ∧ hasA S1 q16 200 2 ∧ inR a0 200 ∧ ∀ z17 : Option Nat, z17 = S1.2.2.2.2.1 q16 (ix a0) → hasO S1 t0 1 ∧ wp_X1_plan t0 a0 S1 (fun (S18 : kS) => hasO S18 t0 1 ∧ wp_X1_work t0 S18 (fun (S19 : kS) => ∃ q20 : Nat, z17 = some q20 ∧ hasO S19 q20 9 ∧ ∀ z21 : Int32, z21 = S19.1 30 q20 → ((¬ z21 = 3 → K S19 1) ∧ (z21 = 3 → hasO S19 t0 1 ∧ wp_X1_tellParent t0 q20 S19 (fun (S23 : kS) => hasO S23 t0 1 ∧ wp_X1_work t0 S23 (fun (S24 : kS) => K S24 1))))))) ∧ (¬ z13 = 0 → K S1 0)))))))
theorem cw_X1_194 {R : Room} {s : State} {args : Array Value} {fr lo : Nat} (hts : ∀ w ∈ tb, w.before args s = true) (h1 : fr + 1 ≤ R.frames) (h2 : 8 + (2 + 11) + lo ≤ R.locals) : CallW R s args RX1 RX1 194 yX1_has cX1_has 2 (some .boolean) (.code yX1_has cX1_has 2 (some .boolean) :: tb) (mRm fr lo) 0 0 1 := cwV 1 hts (gd_V wd_1240 wd_1241 wd_1242 wd_9 wd_1243) rfl rfl rfl (by decide +kernel) ⟨h1, h2⟩
theorem cw_X1_190 {R : Room} {s : State} {args : Array Value} {fr lo : Nat} (hts : ∀ w ∈ tb, w.before args s = true) (h1 : fr + 1 ≤ R.frames) (h2 : 8 + (3 + 11) + lo ≤ R.locals) : CallW R s args RX1 RX1 190 yX1_work cX1_work 3 none (.code yX1_work cX1_work 3 none :: tb) (mRm fr lo) 0 0 0 := cwV 0 hts (gd_V wd_1176 wd_1178 sl_X1_work wd_9 wd_1179) rfl rfl rfl (by decide +kernel) ⟨h1, h2⟩
theorem cw_X1_201 {R : Room} {s : State} {args : Array Value} {fr lo : Nat} (hts : ∀ w ∈ tb, w.before args s = true) (h1 : fr + 1 ≤ R.frames) (h2 : 8 + (3 + 11) + lo ≤ R.locals) : CallW R s args RX1 RX1 201 yX1_tellParent cX1_tellParent 3 none (.code yX1_tellParent cX1_tellParent 3 none :: tb) (mRm fr lo) 0 0 1 := cwV 1 hts (gd_V wd_1203 wd_1205 sl_X1_tellParent wd_9 wd_1206) rfl rfl rfl (by decide +kernel) ⟨h1, h2⟩
set_option maxHeartbeats 4000000 in
set_option maxRecDepth 100000 in
theorem kt_X1_callOff (l : Launch) (S : kS) (t0 : Nat) (a0 : Int32) (K : kS → Int32 → Prop) (h : wp_X1_callOff t0 a0 S K) : kMi l yX1_callOff cX1_callOff 3 (some .boolean) 5 110 [.ref t0, .int a0] S K := by
  refine kv_ofz (own := RX1) (by decide) rfl (Nat.le_of_ble_eq_true rfl) ?_
  intro E p e R s m args below meth c A ls Q hRf hRl hX hC hl hret
  have hx := hX.1.1
  have hb := hX.1.2.1
  have hown := hX.1.2.2.2.1
  have hts := hX.1.2.2.2.2
  have hl : lv_has ls 3 [(0, .ref t0), (1, .int a0)] := hl
  unfold wp_X1_callOff at h
  refine lv_aload_n hx hb dX1_callOff_0 rfl (lv_at hl 0 rfl) ?_
  refine lv_iload_n hx hb dX1_callOff_1 rfl (lv_at hl 1 rfl) ?_
  refine kv_calli [.int a0] (rest := []) (ci := 1) rfl hX hC h.1 (kt_X1_has l S t0 a0 _ h.2 E _) (cw_X1_194 hts (by omega) (by omega)) rfl hl.1 (Nat.le_of_ble_eq_true rfl) ⟨Nat.zero_le _, Nat.zero_le _⟩ dX1_callOff_2 (fun r1 S1 H locs hC h => ?_)
  refine lv_if_eq (tgt := 33) hx hb dX1_callOff_5 (by decide) (fun c2 => ?_) (fun c2 => ?_)
  · have h := h.1 c2
    refine lv_iconst (v := 0) hx hb dX1_callOff_33 (by decide) ?_
    exact hret _ _ _ _ _ _ hC (Or.inl rfl) h dX1_callOff_34
  · have h := h.2 c2
    refine lv_aload_n hx hb dX1_callOff_8 rfl (lv_at hl 0 rfl) ?_
    refine cq_getr (ci := 1) (k := 1) (f := 3) hX hC rfl in_X1 (by decide) wd_235 (fun _ h9 => h9) (fun _ _ => rfl) dX1_callOff_9 h (fun z3 h => ?_)
    refine lv_iload_n hx hb dX1_callOff_12 rfl (lv_at hl 1 rfl) ?_
    obtain ⟨q4, e9, hh⟩ := h
    subst e9
    have h := hh
    clear hh
    refine cq_qld2 hX hC dX1_callOff_13 h (fun z5 h => ?_)
    obtain ⟨q6, e9, hh⟩ := h
    subst e9
    have h := hh
    clear hh
    refine cq_geti (ci := 9) (k := 4) (f := 30) hX hC rfl in_X9 (by decide) wd_875 (fun _ h9 => h9) (fun _ _ => rfl) dX1_callOff_14 h (fun z7 h => ?_)
    refine lv_iconst (v := 3) hx hb dX1_callOff_17 (by decide) ?_
    refine lv_icmp_eq (tgt := 33) hx hb dX1_callOff_18 (by decide) (fun c8 => ?_) (fun c8 => ?_)
    · have h := h.1 c8
      refine lv_iconst (v := 0) hx hb dX1_callOff_33 (by decide) ?_
      exact hret _ _ _ _ _ _ hC (Or.inl rfl) h dX1_callOff_34
    · have h := h.2 c8
      refine lv_aload_n hx hb dX1_callOff_21 rfl (lv_at hl 0 rfl) ?_
      refine cq_getr (ci := 1) (k := 1) (f := 3) hX hC rfl in_X1 (by decide) wd_235 (fun _ h9 => h9) (fun _ _ => rfl) dX1_callOff_22 h (fun z9 h => ?_)
      refine lv_iload_n hx hb dX1_callOff_25 rfl (lv_at hl 1 rfl) ?_
      obtain ⟨q10, e9, hh⟩ := h
      subst e9
      have h := hh
      clear hh
      refine cq_qld2 hX hC dX1_callOff_26 h (fun z11 h => ?_)
      obtain ⟨q12, e9, hh⟩ := h
      subst e9
      have h := hh
      clear hh
      refine cq_geti (ci := 9) (k := 9) (f := 35) hX hC rfl in_X9 (by decide) wd_889 (fun _ h9 => h9) (fun _ _ => rfl) dX1_callOff_27 h (fun z13 h => ?_)
      refine lv_if_eq (tgt := 35) hx hb dX1_callOff_30 (by decide) (fun c14 => ?_) (fun c14 => ?_)
      · have h := h.1 c14
        refine lv_aload_n hx hb dX1_callOff_35 rfl (lv_at hl 0 rfl) ?_
        refine cq_getr (ci := 1) (k := 1) (f := 3) hX hC rfl in_X1 (by decide) wd_235 (fun _ h9 => h9) (fun _ _ => rfl) dX1_callOff_36 h (fun z15 h => ?_)
        refine lv_iload_n hx hb dX1_callOff_39 rfl (lv_at hl 1 rfl) ?_
        obtain ⟨q16, e9, hh⟩ := h
        subst e9
        have h := hh
        clear hh
        refine cq_qld2 hX hC dX1_callOff_40 h (fun z17 h => ?_)
        refine lo_astore_n (lv' := [(2, va_rf z17), (0, .ref t0), (1, .int a0)]) hx hb dX1_callOff_41 rfl hl (by decide) (by rcases z17 with _ | _ <;> rfl) (fun ls hl => ?_)
        refine lv_aload_n hx hb dX1_callOff_42 rfl (lv_at hl 1 rfl) ?_
        refine lv_iload_n hx hb dX1_callOff_43 rfl (lv_at hl 2 rfl) ?_
        refine kv_callv [.int a0] (rest := []) (ci := 1) rfl hX hC h.1 (kt_X1_plan l S1 t0 a0 _ h.2 E _) (cw_X1_198 hts (by omega) (by omega)) rfl hl.1 (Nat.le_of_ble_eq_true rfl) ⟨Nat.zero_le _, Nat.zero_le _⟩ dX1_callOff_44 (fun S18 H locs hC h => ?_)
        refine lv_aload_n hx hb dX1_callOff_47 rfl (lv_at hl 1 rfl) ?_
        refine kv_callv [] (rest := []) (ci := 1) rfl hX hC h.1 (kt_X1_work l S18 t0 _ h.2 E _) (cw_X1_190 hts (by omega) (by omega)) rfl hl.1 (Nat.le_of_ble_eq_true rfl) ⟨Nat.zero_le _, Nat.zero_le _⟩ dX1_callOff_48 (fun S19 H locs hC h => ?_)
        refine lo_aload_n hx hb dX1_callOff_51 rfl (lv_at hl 0 rfl) ?_
        obtain ⟨q20, e9, hh⟩ := h
        subst e9
        have h := hh
        clear hh
        refine cq_geti (ci := 9) (k := 4) (f := 30) hX hC rfl in_X9 (by decide) wd_875 (fun _ h9 => h9) (fun _ _ => rfl) dX1_callOff_52 h (fun z21 h => ?_)
        refine lv_iconst (v := 3) hx hb dX1_callOff_55 (by decide) ?_
        refine lv_icmp_ne (tgt := 68) hx hb dX1_callOff_56 (by decide) (fun c22 => ?_) (fun c22 => ?_)
        · have h := h.1 c22
          refine lv_iconst (v := 1) hx hb dX1_callOff_68 (by decide) ?_
          exact hret _ _ _ _ _ _ hC (Or.inr rfl) h dX1_callOff_69
        · have h := h.2 c22
          refine lv_aload_n hx hb dX1_callOff_59 rfl (lv_at hl 1 rfl) ?_
          refine lv_aload_n hx hb dX1_callOff_60 rfl (lv_at hl 0 rfl) ?_
          refine kv_callv [.ref q20] (rest := []) (ci := 1) rfl hX hC h.1 (kt_X1_tellParent l S19 t0 q20 _ h.2 E _) (cw_X1_201 hts (by omega) (by omega)) rfl hl.1 (Nat.le_of_ble_eq_true rfl) ⟨Nat.zero_le _, Nat.zero_le _⟩ dX1_callOff_61 (fun S23 H locs hC h => ?_)
          refine lv_aload_n hx hb dX1_callOff_64 rfl (lv_at hl 1 rfl) ?_
          refine kv_callv [] (rest := []) (ci := 1) rfl hX hC h.1 (kt_X1_work l S23 t0 _ h.2 E _) (cw_X1_190 hts (by omega) (by omega)) rfl hl.1 (Nat.le_of_ble_eq_true rfl) ⟨Nat.zero_le _, Nat.zero_le _⟩ dX1_callOff_65 (fun S24 H locs hC h => ?_)
          refine lv_iconst (v := 1) hx hb dX1_callOff_68 (by decide) ?_
          exact hret _ _ _ _ _ _ hC (Or.inr rfl) h dX1_callOff_69
      · have h := h.2 c14
        refine lv_iconst (v := 0) hx hb dX1_callOff_33 (by decide) ?_
        exact hret _ _ _ _ _ _ hC (Or.inl rfl) h dX1_callOff_34
