theorem wd_310 : (Jvm.Cond.fieldLink "Sleepers$Runner" (39 : Nat) "Sleepers$Runner" "course" "I") ∈ tb := tb_at 310 (by decide +kernel) (by decide +kernel)
theorem wd_410 : (Jvm.Cond.fieldLink "Sleepers$Parser" (38 : Nat) "Sleepers$Program" "scopes" "LSleepers$Scopes;") ∈ tb := tb_at 410 (by decide +kernel) (by decide +kernel)
theorem wd_600 : (Jvm.Cond.methodLink "Sleepers$Parser" (33 : Nat) ({ cls := "Sleepers$Program", name := "clear", desc := "()V" } : Jvm.MethodName)) ∈ tb := tb_at 600 (by decide +kernel) (by decide +kernel)
theorem wd_601 : (Jvm.Cond.instanceMethod ({ cls := "Sleepers$Program", name := "clear", desc := "()V" } : Jvm.MethodName)) ∈ tb := tb_at 601 (by decide +kernel) (by decide +kernel)
theorem wd_602 : (Jvm.Cond.selects "Sleepers$Program" ({ cls := "Sleepers$Program", name := "clear", desc := "()V" } : Jvm.MethodName) ({ cls := "Sleepers$Program", name := "clear", desc := "()V" } : Jvm.MethodName)) ∈ tb := tb_at 602 (by decide +kernel) (by decide +kernel)
theorem wd_603 : (Jvm.Cond.code ({ cls := "Sleepers$Program", name := "clear", desc := "()V" } : Jvm.MethodName) prog_7_method_2_code (1 : Nat) (Option.none : Option Jvm.ClassFile.FieldType)) ∈ tb := tb_at 603 (by decide +kernel) (by decide +kernel)
theorem wd_604 : (Jvm.Cond.methodLink "Sleepers$Program" (60 : Nat) ({ cls := "Sleepers$Scopes", name := "clear", desc := "()V" } : Jvm.MethodName)) ∈ tb := tb_at 604 (by decide +kernel) (by decide +kernel)
theorem wd_605 : (Jvm.Cond.instanceMethod ({ cls := "Sleepers$Scopes", name := "clear", desc := "()V" } : Jvm.MethodName)) ∈ tb := tb_at 605 (by decide +kernel) (by decide +kernel)
theorem wd_606 : (Jvm.Cond.selects "Sleepers$Scopes" ({ cls := "Sleepers$Scopes", name := "clear", desc := "()V" } : Jvm.MethodName) ({ cls := "Sleepers$Scopes", name := "clear", desc := "()V" } : Jvm.MethodName)) ∈ tb := tb_at 606 (by decide +kernel) (by decide +kernel)
theorem wd_607 : (Jvm.Cond.code ({ cls := "Sleepers$Scopes", name := "clear", desc := "()V" } : Jvm.MethodName) prog_9_method_2_code (1 : Nat) (Option.none : Option Jvm.ClassFile.FieldType)) ∈ tb := tb_at 607 (by decide +kernel) (by decide +kernel)
theorem wd_612 : (Jvm.Cond.methodLink "Sleepers$Parser" (68 : Nat) ({ cls := "Sleepers$Parser", name := "header", desc := "()V" } : Jvm.MethodName)) ∈ tb := tb_at 612 (by decide +kernel) (by decide +kernel)
theorem wd_614 : (Jvm.Cond.instanceMethod ({ cls := "Sleepers$Parser", name := "header", desc := "()V" } : Jvm.MethodName)) ∈ tb := tb_at 614 (by decide +kernel) (by decide +kernel)
theorem wd_615 : (Jvm.Cond.code ({ cls := "Sleepers$Parser", name := "header", desc := "()V" } : Jvm.MethodName) prog_5_method_9_code (2 : Nat) (Option.none : Option Jvm.ClassFile.FieldType)) ∈ tb := tb_at 615 (by decide +kernel) (by decide +kernel)
theorem wd_628 : (Jvm.Cond.methodLink "Sleepers$Parser" (113 : Nat) ({ cls := "Sleepers$Program", name := "openRoutine", desc := "(J)V" } : Jvm.MethodName)) ∈ tb := tb_at 628 (by decide +kernel) (by decide +kernel)
theorem wd_629 : (Jvm.Cond.instanceMethod ({ cls := "Sleepers$Program", name := "openRoutine", desc := "(J)V" } : Jvm.MethodName)) ∈ tb := tb_at 629 (by decide +kernel) (by decide +kernel)
theorem wd_630 : (Jvm.Cond.selects "Sleepers$Program" ({ cls := "Sleepers$Program", name := "openRoutine", desc := "(J)V" } : Jvm.MethodName) ({ cls := "Sleepers$Program", name := "openRoutine", desc := "(J)V" } : Jvm.MethodName)) ∈ tb := tb_at 630 (by decide +kernel) (by decide +kernel)
theorem wd_631 : (Jvm.Cond.code ({ cls := "Sleepers$Program", name := "openRoutine", desc := "(J)V" } : Jvm.MethodName) prog_7_method_8_code (3 : Nat) (Option.none : Option Jvm.ClassFile.FieldType)) ∈ tb := tb_at 631 (by decide +kernel) (by decide +kernel)
theorem wd_640 : (Jvm.Cond.methodLink "Sleepers$Parser" (120 : Nat) ({ cls := "Sleepers$Parser", name := "givenCell", desc := "()V" } : Jvm.MethodName)) ∈ tb := tb_at 640 (by decide +kernel) (by decide +kernel)
theorem wd_642 : (Jvm.Cond.instanceMethod ({ cls := "Sleepers$Parser", name := "givenCell", desc := "()V" } : Jvm.MethodName)) ∈ tb := tb_at 642 (by decide +kernel) (by decide +kernel)
theorem wd_643 : (Jvm.Cond.code ({ cls := "Sleepers$Parser", name := "givenCell", desc := "()V" } : Jvm.MethodName) prog_5_method_10_code (2 : Nat) (Option.none : Option Jvm.ClassFile.FieldType)) ∈ tb := tb_at 643 (by decide +kernel) (by decide +kernel)
theorem wd_766 : (Jvm.Cond.methodLink "Sleepers$Parser" (75 : Nat) ({ cls := "Sleepers$Program", name := "closeRoutine", desc := "()V" } : Jvm.MethodName)) ∈ tb := tb_at 766 (by decide +kernel) (by decide +kernel)
theorem wd_767 : (Jvm.Cond.instanceMethod ({ cls := "Sleepers$Program", name := "closeRoutine", desc := "()V" } : Jvm.MethodName)) ∈ tb := tb_at 767 (by decide +kernel) (by decide +kernel)
theorem wd_768 : (Jvm.Cond.selects "Sleepers$Program" ({ cls := "Sleepers$Program", name := "closeRoutine", desc := "()V" } : Jvm.MethodName) ({ cls := "Sleepers$Program", name := "closeRoutine", desc := "()V" } : Jvm.MethodName)) ∈ tb := tb_at 768 (by decide +kernel) (by decide +kernel)
theorem wd_769 : (Jvm.Cond.code ({ cls := "Sleepers$Program", name := "closeRoutine", desc := "()V" } : Jvm.MethodName) prog_7_method_9_code (1 : Nat) (Option.none : Option Jvm.ClassFile.FieldType)) ∈ tb := tb_at 769 (by decide +kernel) (by decide +kernel)
theorem wd_770 : (Jvm.Cond.methodLink "Sleepers$Program" (69 : Nat) ({ cls := "Sleepers$Program", name := "emit", desc := "(III)I" } : Jvm.MethodName)) ∈ tb := tb_at 770 (by decide +kernel) (by decide +kernel)
theorem wd_771 : (Jvm.Cond.methodLink "Sleepers$Parser" (81 : Nat) ({ cls := "Sleepers$Parser", name := "findChildren", desc := "()V" } : Jvm.MethodName)) ∈ tb := tb_at 771 (by decide +kernel) (by decide +kernel)
theorem wd_773 : (Jvm.Cond.instanceMethod ({ cls := "Sleepers$Parser", name := "findChildren", desc := "()V" } : Jvm.MethodName)) ∈ tb := tb_at 773 (by decide +kernel) (by decide +kernel)
theorem wd_774 : (Jvm.Cond.code ({ cls := "Sleepers$Parser", name := "findChildren", desc := "()V" } : Jvm.MethodName) prog_5_method_25_code (3 : Nat) (Option.none : Option Jvm.ClassFile.FieldType)) ∈ tb := tb_at 774 (by decide +kernel) (by decide +kernel)
theorem wd_878 : (Jvm.Cond.fieldLink "Sleepers$Runner" (208 : Nat) "Sleepers$Task" "how" "I") ∈ tb := tb_at 878 (by decide +kernel) (by decide +kernel)
theorem wd_881 : (Jvm.Cond.fieldLink "Sleepers$Runner" (211 : Nat) "Sleepers$Task" "result" "I") ∈ tb := tb_at 881 (by decide +kernel) (by decide +kernel)
theorem wd_901 : (Jvm.Cond.fieldLink "Sleepers$Runner" (234 : Nat) "Sleepers$Task" "about" "LSleepers$Part;") ∈ tb := tb_at 901 (by decide +kernel) (by decide +kernel)
theorem wd_999 : (Jvm.Cond.constantLong "Sleepers$Program" (67 : Nat) (7180648479 : Int64)) ∈ tb := tb_at 999 (by decide +kernel) (by decide +kernel)
theorem wd_1060 : (Jvm.Cond.fieldLink "Sleepers$Runner" (291 : Nat) "Sleepers$Part" "kind" "I") ∈ tb := tb_at 1060 (by decide +kernel) (by decide +kernel)
theorem wd_1063 : (Jvm.Cond.fieldLink "Sleepers$Runner" (280 : Nat) "Sleepers$Part" "status" "I") ∈ tb := tb_at 1063 (by decide +kernel) (by decide +kernel)
theorem wd_1066 : (Jvm.Cond.fieldLink "Sleepers$Runner" (283 : Nat) "Sleepers$Part" "value" "I") ∈ tb := tb_at 1066 (by decide +kernel) (by decide +kernel)
theorem wd_1069 : (Jvm.Cond.fieldLink "Sleepers$Runner" (238 : Nat) "Sleepers$Part" "left" "I") ∈ tb := tb_at 1069 (by decide +kernel) (by decide +kernel)
theorem wd_1076 : (Jvm.Cond.fieldLink "Sleepers$Runner" (287 : Nat) "Sleepers$Part" "about" "LSleepers$Part;") ∈ tb := tb_at 1076 (by decide +kernel) (by decide +kernel)
theorem wd_1117 : (Jvm.Cond.methodLink "Sleepers$Runner" (284 : Nat) ({ cls := "Sleepers$Runner", name := "tellAbout", desc := "(LSleepers$Part;)V" } : Jvm.MethodName)) ∈ tb := tb_at 1117 (by decide +kernel) (by decide +kernel)
theorem wd_1119 : (Jvm.Cond.instanceMethod ({ cls := "Sleepers$Runner", name := "tellAbout", desc := "(LSleepers$Part;)V" } : Jvm.MethodName)) ∈ tb := tb_at 1119 (by decide +kernel) (by decide +kernel)
theorem wd_1120 : (Jvm.Cond.code ({ cls := "Sleepers$Runner", name := "tellAbout", desc := "(LSleepers$Part;)V" } : Jvm.MethodName) prog_8_method_20_code (3 : Nat) (Option.none : Option Jvm.ClassFile.FieldType)) ∈ tb := tb_at 1120 (by decide +kernel) (by decide +kernel)
theorem wd_1121 : (Jvm.Cond.methodLink "Sleepers$Runner" (288 : Nat) ({ cls := "Sleepers$Part", name := "hears", desc := "(II)Z" } : Jvm.MethodName)) ∈ tb := tb_at 1121 (by decide +kernel) (by decide +kernel)
theorem wd_1133 : (Jvm.Cond.methodLink "Sleepers$Runner" (260 : Nat) ({ cls := "Sleepers$Hall", name := "setAlarm", desc := "(LSleepers$Part;I)V" } : Jvm.MethodName)) ∈ tb := tb_at 1133 (by decide +kernel) (by decide +kernel)
theorem wd_1134 : (Jvm.Cond.instanceMethod ({ cls := "Sleepers$Hall", name := "setAlarm", desc := "(LSleepers$Part;I)V" } : Jvm.MethodName)) ∈ tb := tb_at 1134 (by decide +kernel) (by decide +kernel)
theorem wd_1135 : (Jvm.Cond.selects "Sleepers$Hall" ({ cls := "Sleepers$Hall", name := "setAlarm", desc := "(LSleepers$Part;I)V" } : Jvm.MethodName) ({ cls := "Sleepers$Hall", name := "setAlarm", desc := "(LSleepers$Part;I)V" } : Jvm.MethodName)) ∈ tb := tb_at 1135 (by decide +kernel) (by decide +kernel)
theorem wd_1136 : (Jvm.Cond.code ({ cls := "Sleepers$Hall", name := "setAlarm", desc := "(LSleepers$Part;I)V" } : Jvm.MethodName) prog_3_method_10_code (3 : Nat) (Option.none : Option Jvm.ClassFile.FieldType)) ∈ tb := tb_at 1136 (by decide +kernel) (by decide +kernel)
theorem sl_X3_findChildren : Cond.selects RX3 yX3_findChildren yX3_findChildren ∈ tb := sl_of (y := ⟨"Sleepers$Parser", "findChildren", "()V"⟩) (n := 13) (by decide +kernel) (by decide +kernel)
theorem sl_X3_givenCell : Cond.selects RX3 yX3_givenCell yX3_givenCell ∈ tb := sl_of (y := ⟨"Sleepers$Parser", "givenCell", "()V"⟩) (n := 13) (by decide +kernel) (by decide +kernel)
theorem sl_X3_header : Cond.selects RX3 yX3_header yX3_header ∈ tb := sl_of (y := ⟨"Sleepers$Parser", "header", "()V"⟩) (n := 13) (by decide +kernel) (by decide +kernel)
theorem sl_X6_tellAbout : Cond.selects RX6 yX6_tellAbout yX6_tellAbout ∈ tb := sl_of (y := ⟨"Sleepers$Runner", "tellAbout", "(LSleepers$Part;)V"⟩) (n := 8) (by decide +kernel) (by decide +kernel)
theorem dX3_header_0 : decode cX3_header 0 = .ok (.aload_n 0, 1) := by decide +kernel
theorem dX3_header_1 : decode cX3_header 1 = .ok (.getfield 29, 3) := by decide +kernel
theorem dX3_header_4 : decode cX3_header 4 = .ok (.getfield 100, 3) := by decide +kernel
theorem dX3_header_7 : decode cX3_header 7 = .ok (.bipush 12, 2) := by decide +kernel
theorem dX3_header_9 : decode cX3_header 9 = .ok (.if_icmp .lt 8, 3) := by decide +kernel
theorem dX3_header_12 : decode cX3_header 12 = .ok (.aload_n 0, 1) := by decide +kernel
theorem dX3_header_13 : decode cX3_header 13 = .ok (.iconst 5, 1) := by decide +kernel
theorem dX3_header_14 : decode cX3_header 14 = .ok (.invokevirtual 78, 3) := by decide +kernel
theorem dX3_header_17 : decode cX3_header 17 = .ok (.aload_n 0, 1) := by decide +kernel
theorem dX3_header_18 : decode cX3_header 18 = .ok (.invokevirtual 103, 3) := by decide +kernel
theorem dX3_header_21 : decode cX3_header 21 = .ok (.aload_n 0, 1) := by decide +kernel
theorem dX3_header_22 : decode cX3_header 22 = .ok (.invokevirtual 62, 3) := by decide +kernel
theorem dX3_header_25 : decode cX3_header 25 = .ok (.iconst 3, 1) := by decide +kernel
theorem dX3_header_26 : decode cX3_header 26 = .ok (.if_icmp .eq 11, 3) := by decide +kernel
theorem dX3_header_29 : decode cX3_header 29 = .ok (.aload_n 0, 1) := by decide +kernel
theorem dX3_header_30 : decode cX3_header 30 = .ok (.iconst 1, 1) := by decide +kernel
theorem dX3_header_31 : decode cX3_header 31 = .ok (.invokevirtual 78, 3) := by decide +kernel
theorem dX3_header_34 : decode cX3_header 34 = .ok (.goto 57, 3) := by decide +kernel
theorem dX3_header_37 : decode cX3_header 37 = .ok (.aload_n 0, 1) := by decide +kernel
theorem dX3_header_38 : decode cX3_header 38 = .ok (.getfield 29, 3) := by decide +kernel
theorem dX3_header_41 : decode cX3_header 41 = .ok (.aload_n 0, 1) := by decide +kernel
theorem dX3_header_42 : decode cX3_header 42 = .ok (.getfield 25, 3) := by decide +kernel
theorem dX3_header_45 : decode cX3_header 45 = .ok (.getfield 106, 3) := by decide +kernel
theorem dX3_header_48 : decode cX3_header 48 = .ok (.aload_n 0, 1) := by decide +kernel
theorem dX3_header_49 : decode cX3_header 49 = .ok (.getfield 43, 3) := by decide +kernel
theorem dX3_header_52 : decode cX3_header 52 = .ok (.laload, 1) := by decide +kernel
theorem dX3_header_53 : decode cX3_header 53 = .ok (.invokevirtual 109, 3) := by decide +kernel
theorem dX3_header_56 : decode cX3_header 56 = .ok (.iconst (-1), 1) := by decide +kernel
theorem dX3_header_57 : decode cX3_header 57 = .ok (.if_icmp .eq 11, 3) := by decide +kernel
theorem dX3_header_60 : decode cX3_header 60 = .ok (.aload_n 0, 1) := by decide +kernel
theorem dX3_header_61 : decode cX3_header 61 = .ok (.iconst 3, 1) := by decide +kernel
theorem dX3_header_62 : decode cX3_header 62 = .ok (.invokevirtual 78, 3) := by decide +kernel
theorem dX3_header_65 : decode cX3_header 65 = .ok (.goto 26, 3) := by decide +kernel
theorem dX3_header_68 : decode cX3_header 68 = .ok (.aload_n 0, 1) := by decide +kernel
theorem dX3_header_69 : decode cX3_header 69 = .ok (.getfield 29, 3) := by decide +kernel
theorem dX3_header_72 : decode cX3_header 72 = .ok (.aload_n 0, 1) := by decide +kernel
theorem dX3_header_73 : decode cX3_header 73 = .ok (.getfield 25, 3) := by decide +kernel
theorem dX3_header_76 : decode cX3_header 76 = .ok (.getfield 106, 3) := by decide +kernel
theorem dX3_header_79 : decode cX3_header 79 = .ok (.aload_n 0, 1) := by decide +kernel
theorem dX3_header_80 : decode cX3_header 80 = .ok (.getfield 43, 3) := by decide +kernel
theorem dX3_header_83 : decode cX3_header 83 = .ok (.laload, 1) := by decide +kernel
theorem dX3_header_84 : decode cX3_header 84 = .ok (.invokevirtual 113, 3) := by decide +kernel
theorem dX3_header_87 : decode cX3_header 87 = .ok (.aload_n 0, 1) := by decide +kernel
theorem dX3_header_88 : decode cX3_header 88 = .ok (.invokevirtual 103, 3) := by decide +kernel
theorem dX3_header_91 : decode cX3_header 91 = .ok (.aload_n 0, 1) := by decide +kernel
theorem dX3_header_92 : decode cX3_header 92 = .ok (.bipush 40, 2) := by decide +kernel
theorem dX3_header_94 : decode cX3_header 94 = .ok (.invokevirtual 117, 3) := by decide +kernel
theorem dX3_header_97 : decode cX3_header 97 = .ok (.aload_n 0, 1) := by decide +kernel
theorem dX3_header_98 : decode cX3_header 98 = .ok (.invokevirtual 62, 3) := by decide +kernel
theorem dX3_header_101 : decode cX3_header 101 = .ok (.iconst 3, 1) := by decide +kernel
theorem dX3_header_102 : decode cX3_header 102 = .ok (.if_icmp .ne 35, 3) := by decide +kernel
theorem dX3_header_105 : decode cX3_header 105 = .ok (.aload_n 0, 1) := by decide +kernel
theorem dX3_header_106 : decode cX3_header 106 = .ok (.invokevirtual 120, 3) := by decide +kernel
theorem dX3_header_109 : decode cX3_header 109 = .ok (.iconst 0, 1) := by decide +kernel
theorem dX3_header_110 : decode cX3_header 110 = .ok (.istore_n 1, 1) := by decide +kernel
theorem dX3_header_111 : decode cX3_header 111 = .ok (.iload_n 1, 1) := by decide +kernel
theorem dX3_header_112 : decode cX3_header 112 = .ok (.sipush 4000, 3) := by decide +kernel
theorem dX3_header_115 : decode cX3_header 115 = .ok (.if_icmp .ge 22, 3) := by decide +kernel
theorem dX3_header_118 : decode cX3_header 118 = .ok (.aload_n 0, 1) := by decide +kernel
theorem dX3_header_119 : decode cX3_header 119 = .ok (.bipush 44, 2) := by decide +kernel
theorem dX3_header_121 : decode cX3_header 121 = .ok (.invokevirtual 89, 3) := by decide +kernel
theorem dX3_header_124 : decode cX3_header 124 = .ok (.ifCond .eq 13, 3) := by decide +kernel
theorem dX3_header_127 : decode cX3_header 127 = .ok (.aload_n 0, 1) := by decide +kernel
theorem dX3_header_128 : decode cX3_header 128 = .ok (.invokevirtual 120, 3) := by decide +kernel
theorem dX3_header_131 : decode cX3_header 131 = .ok (.iinc 1 1, 3) := by decide +kernel
theorem dX3_header_134 : decode cX3_header 134 = .ok (.goto (-23), 3) := by decide +kernel
theorem dX3_header_137 : decode cX3_header 137 = .ok (.aload_n 0, 1) := by decide +kernel
theorem dX3_header_138 : decode cX3_header 138 = .ok (.bipush 41, 2) := by decide +kernel
theorem dX3_header_140 : decode cX3_header 140 = .ok (.invokevirtual 117, 3) := by decide +kernel
theorem dX3_header_143 : decode cX3_header 143 = .ok (.return_, 1) := by decide +kernel
theorem dX3_read_0 : decode cX3_read 0 = .ok (.aload_n 0, 1) := by decide +kernel
theorem dX3_read_1 : decode cX3_read 1 = .ok (.aload_n 1, 1) := by decide +kernel
theorem dX3_read_2 : decode cX3_read 2 = .ok (.putfield 29, 3) := by decide +kernel
theorem dX3_read_5 : decode cX3_read 5 = .ok (.aload_n 0, 1) := by decide +kernel
theorem dX3_read_6 : decode cX3_read 6 = .ok (.getfield 29, 3) := by decide +kernel
theorem dX3_read_9 : decode cX3_read 9 = .ok (.invokevirtual 33, 3) := by decide +kernel
theorem dX3_read_12 : decode cX3_read 12 = .ok (.aload_n 0, 1) := by decide +kernel
theorem dX3_read_13 : decode cX3_read 13 = .ok (.aload_n 0, 1) := by decide +kernel
theorem dX3_read_14 : decode cX3_read 14 = .ok (.getfield 29, 3) := by decide +kernel
theorem dX3_read_17 : decode cX3_read 17 = .ok (.getfield 38, 3) := by decide +kernel
theorem dX3_read_20 : decode cX3_read 20 = .ok (.putfield 42, 3) := by decide +kernel
theorem dX3_read_23 : decode cX3_read 23 = .ok (.aload_n 0, 1) := by decide +kernel
theorem dX3_read_24 : decode cX3_read 24 = .ok (.iconst 0, 1) := by decide +kernel
theorem dX3_read_25 : decode cX3_read 25 = .ok (.putfield 43, 3) := by decide +kernel
theorem dX3_read_28 : decode cX3_read 28 = .ok (.aload_n 0, 1) := by decide +kernel
theorem dX3_read_29 : decode cX3_read 29 = .ok (.iconst 0, 1) := by decide +kernel
theorem dX3_read_30 : decode cX3_read 30 = .ok (.putfield 47, 3) := by decide +kernel
theorem dX3_read_33 : decode cX3_read 33 = .ok (.aload_n 0, 1) := by decide +kernel
theorem dX3_read_34 : decode cX3_read 34 = .ok (.iconst (-1), 1) := by decide +kernel
theorem dX3_read_35 : decode cX3_read 35 = .ok (.putfield 50, 3) := by decide +kernel
theorem dX3_read_38 : decode cX3_read 38 = .ok (.aload_n 0, 1) := by decide +kernel
theorem dX3_read_39 : decode cX3_read 39 = .ok (.iconst (-1), 1) := by decide +kernel
theorem dX3_read_40 : decode cX3_read 40 = .ok (.putfield 53, 3) := by decide +kernel
theorem dX3_read_43 : decode cX3_read 43 = .ok (.aload_n 0, 1) := by decide +kernel
theorem dX3_read_44 : decode cX3_read 44 = .ok (.iconst 0, 1) := by decide +kernel
theorem dX3_read_45 : decode cX3_read 45 = .ok (.putfield 56, 3) := by decide +kernel
theorem dX3_read_48 : decode cX3_read 48 = .ok (.aload_n 0, 1) := by decide +kernel
theorem dX3_read_49 : decode cX3_read 49 = .ok (.iconst 0, 1) := by decide +kernel
theorem dX3_read_50 : decode cX3_read 50 = .ok (.putfield 59, 3) := by decide +kernel
theorem dX3_read_53 : decode cX3_read 53 = .ok (.iconst 0, 1) := by decide +kernel
theorem dX3_read_54 : decode cX3_read 54 = .ok (.istore_n 2, 1) := by decide +kernel
theorem dX3_read_55 : decode cX3_read 55 = .ok (.iload_n 2, 1) := by decide +kernel
theorem dX3_read_56 : decode cX3_read 56 = .ok (.bipush 12, 2) := by decide +kernel
theorem dX3_read_58 : decode cX3_read 58 = .ok (.if_icmp .gt 35, 3) := by decide +kernel
theorem dX3_read_61 : decode cX3_read 61 = .ok (.aload_n 0, 1) := by decide +kernel
theorem dX3_read_62 : decode cX3_read 62 = .ok (.invokevirtual 62, 3) := by decide +kernel
theorem dX3_read_65 : decode cX3_read 65 = .ok (.sipush 200, 3) := by decide +kernel
theorem dX3_read_68 : decode cX3_read 68 = .ok (.if_icmp .ne 25, 3) := by decide +kernel
theorem dX3_read_71 : decode cX3_read 71 = .ok (.aload_n 0, 1) := by decide +kernel
theorem dX3_read_72 : decode cX3_read 72 = .ok (.invokevirtual 68, 3) := by decide +kernel
theorem dX3_read_75 : decode cX3_read 75 = .ok (.aload_n 0, 1) := by decide +kernel
theorem dX3_read_76 : decode cX3_read 76 = .ok (.iconst 0, 1) := by decide +kernel
theorem dX3_read_77 : decode cX3_read 77 = .ok (.invokevirtual 71, 3) := by decide +kernel
theorem dX3_read_80 : decode cX3_read 80 = .ok (.aload_n 0, 1) := by decide +kernel
theorem dX3_read_81 : decode cX3_read 81 = .ok (.getfield 29, 3) := by decide +kernel
theorem dX3_read_84 : decode cX3_read 84 = .ok (.invokevirtual 75, 3) := by decide +kernel
theorem dX3_read_87 : decode cX3_read 87 = .ok (.iinc 2 1, 3) := by decide +kernel
theorem dX3_read_90 : decode cX3_read 90 = .ok (.goto (-35), 3) := by decide +kernel
theorem dX3_read_93 : decode cX3_read 93 = .ok (.aload_n 0, 1) := by decide +kernel
theorem dX3_read_94 : decode cX3_read 94 = .ok (.invokevirtual 62, 3) := by decide +kernel
theorem dX3_read_97 : decode cX3_read 97 = .ok (.ifCond .eq 8, 3) := by decide +kernel
theorem dX3_read_100 : decode cX3_read 100 = .ok (.aload_n 0, 1) := by decide +kernel
theorem dX3_read_101 : decode cX3_read 101 = .ok (.iconst 1, 1) := by decide +kernel
theorem dX3_read_102 : decode cX3_read 102 = .ok (.invokevirtual 78, 3) := by decide +kernel
theorem dX3_read_105 : decode cX3_read 105 = .ok (.aload_n 0, 1) := by decide +kernel
theorem dX3_read_106 : decode cX3_read 106 = .ok (.invokevirtual 81, 3) := by decide +kernel
theorem dX3_read_109 : decode cX3_read 109 = .ok (.aload_n 0, 1) := by decide +kernel
theorem dX3_read_110 : decode cX3_read 110 = .ok (.getfield 47, 3) := by decide +kernel
theorem dX3_read_113 : decode cX3_read 113 = .ok (.ireturn, 1) := by decide +kernel
theorem dX5_clear_0 : decode cX5_clear 0 = .ok (.aload_n 0, 1) := by decide +kernel
theorem dX5_clear_1 : decode cX5_clear 1 = .ok (.iconst 0, 1) := by decide +kernel
theorem dX5_clear_2 : decode cX5_clear 2 = .ok (.putfield 53, 3) := by decide +kernel
theorem dX5_clear_5 : decode cX5_clear 5 = .ok (.aload_n 0, 1) := by decide +kernel
theorem dX5_clear_6 : decode cX5_clear 6 = .ok (.iconst 0, 1) := by decide +kernel
theorem dX5_clear_7 : decode cX5_clear 7 = .ok (.putfield 57, 3) := by decide +kernel
theorem dX5_clear_10 : decode cX5_clear 10 = .ok (.aload_n 0, 1) := by decide +kernel
theorem dX5_clear_11 : decode cX5_clear 11 = .ok (.getfield 24, 3) := by decide +kernel
theorem dX5_clear_14 : decode cX5_clear 14 = .ok (.invokevirtual 60, 3) := by decide +kernel
theorem dX5_clear_17 : decode cX5_clear 17 = .ok (.return_, 1) := by decide +kernel
theorem dX5_closeRoutine_0 : decode cX5_closeRoutine 0 = .ok (.aload_n 0, 1) := by decide +kernel
theorem dX5_closeRoutine_1 : decode cX5_closeRoutine 1 = .ok (.getfield 57, 3) := by decide +kernel
theorem dX5_closeRoutine_4 : decode cX5_closeRoutine 4 = .ok (.ifCond .le 22, 3) := by decide +kernel
theorem dX5_closeRoutine_7 : decode cX5_closeRoutine 7 = .ok (.aload_n 0, 1) := by decide +kernel
theorem dX5_closeRoutine_8 : decode cX5_closeRoutine 8 = .ok (.getfield 31, 3) := by decide +kernel
theorem dX5_closeRoutine_11 : decode cX5_closeRoutine 11 = .ok (.aload_n 0, 1) := by decide +kernel
theorem dX5_closeRoutine_12 : decode cX5_closeRoutine 12 = .ok (.getfield 57, 3) := by decide +kernel
theorem dX5_closeRoutine_15 : decode cX5_closeRoutine 15 = .ok (.iconst 1, 1) := by decide +kernel
theorem dX5_closeRoutine_16 : decode cX5_closeRoutine 16 = .ok (.isub, 1) := by decide +kernel
theorem dX5_closeRoutine_17 : decode cX5_closeRoutine 17 = .ok (.aload_n 0, 1) := by decide +kernel
theorem dX5_closeRoutine_18 : decode cX5_closeRoutine 18 = .ok (.bipush 24, 2) := by decide +kernel
theorem dX5_closeRoutine_20 : decode cX5_closeRoutine 20 = .ok (.iconst 0, 1) := by decide +kernel
theorem dX5_closeRoutine_21 : decode cX5_closeRoutine 21 = .ok (.iconst (-1), 1) := by decide +kernel
theorem dX5_closeRoutine_22 : decode cX5_closeRoutine 22 = .ok (.invokevirtual 69, 3) := by decide +kernel
theorem dX5_closeRoutine_25 : decode cX5_closeRoutine 25 = .ok (.iastore, 1) := by decide +kernel
theorem dX5_closeRoutine_26 : decode cX5_closeRoutine 26 = .ok (.return_, 1) := by decide +kernel
theorem dX5_isStep_0 : decode cX5_isStep 0 = .ok (.ldc2_w 67, 3) := by decide +kernel
theorem dX5_isStep_3 : decode cX5_isStep 3 = .ok (.iload_n 0, 1) := by decide +kernel
theorem dX5_isStep_4 : decode cX5_isStep 4 = .ok (.lushr, 1) := by decide +kernel
theorem dX5_isStep_5 : decode cX5_isStep 5 = .ok (.lconst 1, 1) := by decide +kernel
theorem dX5_isStep_6 : decode cX5_isStep 6 = .ok (.land, 1) := by decide +kernel
theorem dX5_isStep_7 : decode cX5_isStep 7 = .ok (.lconst 0, 1) := by decide +kernel
theorem dX5_isStep_8 : decode cX5_isStep 8 = .ok (.lcmp, 1) := by decide +kernel
theorem dX5_isStep_9 : decode cX5_isStep 9 = .ok (.ifCond .eq 7, 3) := by decide +kernel
theorem dX5_isStep_12 : decode cX5_isStep 12 = .ok (.iconst 1, 1) := by decide +kernel
theorem dX5_isStep_13 : decode cX5_isStep 13 = .ok (.goto 4, 3) := by decide +kernel
theorem dX5_isStep_16 : decode cX5_isStep 16 = .ok (.iconst 0, 1) := by decide +kernel
theorem dX5_isStep_17 : decode cX5_isStep 17 = .ok (.ireturn, 1) := by decide +kernel
theorem dX5_scopeAt_0 : decode cX5_scopeAt 0 = .ok (.iload_n 1, 1) := by decide +kernel
theorem dX5_scopeAt_1 : decode cX5_scopeAt 1 = .ok (.ifCond .lt 20, 3) := by decide +kernel
theorem dX5_scopeAt_4 : decode cX5_scopeAt 4 = .ok (.iload_n 1, 1) := by decide +kernel
theorem dX5_scopeAt_5 : decode cX5_scopeAt 5 = .ok (.aload_n 0, 1) := by decide +kernel
theorem dX5_scopeAt_6 : decode cX5_scopeAt 6 = .ok (.getfield 53, 3) := by decide +kernel
theorem dX5_scopeAt_9 : decode cX5_scopeAt 9 = .ok (.if_icmp .ge 12, 3) := by decide +kernel
theorem dX5_scopeAt_12 : decode cX5_scopeAt 12 = .ok (.aload_n 0, 1) := by decide +kernel
theorem dX5_scopeAt_13 : decode cX5_scopeAt 13 = .ok (.getfield 18, 3) := by decide +kernel
theorem dX5_scopeAt_16 : decode cX5_scopeAt 16 = .ok (.iload_n 1, 1) := by decide +kernel
theorem dX5_scopeAt_17 : decode cX5_scopeAt 17 = .ok (.iaload, 1) := by decide +kernel
theorem dX5_scopeAt_18 : decode cX5_scopeAt 18 = .ok (.goto 4, 3) := by decide +kernel
theorem dX5_scopeAt_21 : decode cX5_scopeAt 21 = .ok (.iconst (-1), 1) := by decide +kernel
theorem dX5_scopeAt_22 : decode cX5_scopeAt 22 = .ok (.ireturn, 1) := by decide +kernel
theorem dX6_closePart_0 : decode cX6_closePart 0 = .ok (.aload_n 1, 1) := by decide +kernel
theorem dX6_closePart_1 : decode cX6_closePart 1 = .ok (.getfield 234, 3) := by decide +kernel
theorem dX6_closePart_4 : decode cX6_closePart 4 = .ok (.astore_n 2, 1) := by decide +kernel
theorem dX6_closePart_5 : decode cX6_closePart 5 = .ok (.aload_n 2, 1) := by decide +kernel
theorem dX6_closePart_6 : decode cX6_closePart 6 = .ok (.ifnonnull 4, 3) := by decide +kernel
theorem dX6_closePart_9 : decode cX6_closePart 9 = .ok (.return_, 1) := by decide +kernel
theorem dX6_closePart_10 : decode cX6_closePart 10 = .ok (.aload_n 1, 1) := by decide +kernel
theorem dX6_closePart_11 : decode cX6_closePart 11 = .ok (.aload_n 2, 1) := by decide +kernel
theorem dX6_closePart_12 : decode cX6_closePart 12 = .ok (.getfield 287, 3) := by decide +kernel
theorem dX6_closePart_15 : decode cX6_closePart 15 = .ok (.putfield 234, 3) := by decide +kernel
theorem dX6_closePart_18 : decode cX6_closePart 18 = .ok (.aload_n 2, 1) := by decide +kernel
theorem dX6_closePart_19 : decode cX6_closePart 19 = .ok (.getfield 291, 3) := by decide +kernel
theorem dX6_closePart_22 : decode cX6_closePart 22 = .ok (.bipush 6, 2) := by decide +kernel
theorem dX6_closePart_24 : decode cX6_closePart 24 = .ok (.if_icmp .ne 43, 3) := by decide +kernel
theorem dX6_closePart_27 : decode cX6_closePart 27 = .ok (.aload_n 2, 1) := by decide +kernel
theorem dX6_closePart_28 : decode cX6_closePart 28 = .ok (.getfield 280, 3) := by decide +kernel
theorem dX6_closePart_31 : decode cX6_closePart 31 = .ok (.ifCond .ne 36, 3) := by decide +kernel
theorem dX6_closePart_34 : decode cX6_closePart 34 = .ok (.aload_n 2, 1) := by decide +kernel
theorem dX6_closePart_35 : decode cX6_closePart 35 = .ok (.getfield 238, 3) := by decide +kernel
theorem dX6_closePart_38 : decode cX6_closePart 38 = .ok (.ifCond .le 18, 3) := by decide +kernel
theorem dX6_closePart_41 : decode cX6_closePart 41 = .ok (.aload_n 0, 1) := by decide +kernel
theorem dX6_closePart_42 : decode cX6_closePart 42 = .ok (.getfield 22, 3) := by decide +kernel
theorem dX6_closePart_45 : decode cX6_closePart 45 = .ok (.aload_n 2, 1) := by decide +kernel
theorem dX6_closePart_46 : decode cX6_closePart 46 = .ok (.aload_n 2, 1) := by decide +kernel
theorem dX6_closePart_47 : decode cX6_closePart 47 = .ok (.getfield 238, 3) := by decide +kernel
theorem dX6_closePart_50 : decode cX6_closePart 50 = .ok (.invokevirtual 260, 3) := by decide +kernel
theorem dX6_closePart_53 : decode cX6_closePart 53 = .ok (.goto 14, 3) := by decide +kernel
theorem dX6_closePart_56 : decode cX6_closePart 56 = .ok (.aload_n 2, 1) := by decide +kernel
theorem dX6_closePart_57 : decode cX6_closePart 57 = .ok (.iconst 2, 1) := by decide +kernel
theorem dX6_closePart_58 : decode cX6_closePart 58 = .ok (.putfield 280, 3) := by decide +kernel
theorem dX6_closePart_61 : decode cX6_closePart 61 = .ok (.aload_n 2, 1) := by decide +kernel
theorem dX6_closePart_62 : decode cX6_closePart 62 = .ok (.bipush 21, 2) := by decide +kernel
theorem dX6_closePart_64 : decode cX6_closePart 64 = .ok (.putfield 283, 3) := by decide +kernel
theorem dX6_closePart_67 : decode cX6_closePart 67 = .ok (.aload_n 2, 1) := by decide +kernel
theorem dX6_closePart_68 : decode cX6_closePart 68 = .ok (.getfield 280, 3) := by decide +kernel
theorem dX6_closePart_71 : decode cX6_closePart 71 = .ok (.ifCond .eq 8, 3) := by decide +kernel
theorem dX6_closePart_74 : decode cX6_closePart 74 = .ok (.aload_n 0, 1) := by decide +kernel
theorem dX6_closePart_75 : decode cX6_closePart 75 = .ok (.aload_n 2, 1) := by decide +kernel
theorem dX6_closePart_76 : decode cX6_closePart 76 = .ok (.invokevirtual 284, 3) := by decide +kernel
theorem dX6_closePart_79 : decode cX6_closePart 79 = .ok (.return_, 1) := by decide +kernel
theorem dX6_come_0 : decode cX6_come 0 = .ok (.aload_n 1, 1) := by decide +kernel
theorem dX6_come_1 : decode cX6_come 1 = .ok (.iconst 1, 1) := by decide +kernel
theorem dX6_come_2 : decode cX6_come 2 = .ok (.putfield 280, 3) := by decide +kernel
theorem dX6_come_5 : decode cX6_come 5 = .ok (.aload_n 1, 1) := by decide +kernel
theorem dX6_come_6 : decode cX6_come 6 = .ok (.iload_n 2, 1) := by decide +kernel
theorem dX6_come_7 : decode cX6_come 7 = .ok (.putfield 283, 3) := by decide +kernel
theorem dX6_come_10 : decode cX6_come 10 = .ok (.aload_n 0, 1) := by decide +kernel
theorem dX6_come_11 : decode cX6_come 11 = .ok (.aload_n 1, 1) := by decide +kernel
theorem dX6_come_12 : decode cX6_come 12 = .ok (.invokevirtual 284, 3) := by decide +kernel
theorem dX6_come_15 : decode cX6_come 15 = .ok (.return_, 1) := by decide +kernel
theorem dX6_end_0 : decode cX6_end 0 = .ok (.aload_n 1, 1) := by decide +kernel
theorem dX6_end_1 : decode cX6_end 1 = .ok (.iload_n 2, 1) := by decide +kernel
theorem dX6_end_2 : decode cX6_end 2 = .ok (.putfield 208, 3) := by decide +kernel
theorem dX6_end_5 : decode cX6_end 5 = .ok (.aload_n 1, 1) := by decide +kernel
theorem dX6_end_6 : decode cX6_end 6 = .ok (.iload_n 3, 1) := by decide +kernel
theorem dX6_end_7 : decode cX6_end 7 = .ok (.putfield 211, 3) := by decide +kernel
theorem dX6_end_10 : decode cX6_end 10 = .ok (.aload_n 0, 1) := by decide +kernel
theorem dX6_end_11 : decode cX6_end 11 = .ok (.iconst 3, 1) := by decide +kernel
theorem dX6_end_12 : decode cX6_end 12 = .ok (.putfield 39, 3) := by decide +kernel
theorem dX6_end_15 : decode cX6_end 15 = .ok (.return_, 1) := by decide +kernel
theorem dX6_tellAbout_0 : decode cX6_tellAbout 0 = .ok (.aload_n 1, 1) := by decide +kernel
theorem dX6_tellAbout_1 : decode cX6_tellAbout 1 = .ok (.getfield 287, 3) := by decide +kernel
theorem dX6_tellAbout_4 : decode cX6_tellAbout 4 = .ok (.astore_n 2, 1) := by decide +kernel
theorem dX6_tellAbout_5 : decode cX6_tellAbout 5 = .ok (.aload_n 2, 1) := by decide +kernel
theorem dX6_tellAbout_6 : decode cX6_tellAbout 6 = .ok (.ifnull 23, 3) := by decide +kernel
theorem dX6_tellAbout_9 : decode cX6_tellAbout 9 = .ok (.aload_n 2, 1) := by decide +kernel
theorem dX6_tellAbout_10 : decode cX6_tellAbout 10 = .ok (.getfield 280, 3) := by decide +kernel
theorem dX6_tellAbout_13 : decode cX6_tellAbout 13 = .ok (.ifCond .ne 16, 3) := by decide +kernel
theorem dX6_tellAbout_16 : decode cX6_tellAbout 16 = .ok (.aload_n 2, 1) := by decide +kernel
theorem dX6_tellAbout_17 : decode cX6_tellAbout 17 = .ok (.aload_n 1, 1) := by decide +kernel
theorem dX6_tellAbout_18 : decode cX6_tellAbout 18 = .ok (.getfield 280, 3) := by decide +kernel
theorem dX6_tellAbout_21 : decode cX6_tellAbout 21 = .ok (.aload_n 1, 1) := by decide +kernel
theorem dX6_tellAbout_22 : decode cX6_tellAbout 22 = .ok (.getfield 283, 3) := by decide +kernel
theorem dX6_tellAbout_25 : decode cX6_tellAbout 25 = .ok (.invokevirtual 288, 3) := by decide +kernel
theorem dX6_tellAbout_28 : decode cX6_tellAbout 28 = .ok (.pop, 1) := by decide +kernel
theorem dX6_tellAbout_29 : decode cX6_tellAbout 29 = .ok (.return_, 1) := by decide +kernel
theorem dX7_clear_0 : decode cX7_clear 0 = .ok (.aload_n 0, 1) := by decide +kernel
theorem dX7_clear_1 : decode cX7_clear 1 = .ok (.iconst 0, 1) := by decide +kernel
theorem dX7_clear_2 : decode cX7_clear 2 = .ok (.putfield 42, 3) := by decide +kernel
theorem dX7_clear_5 : decode cX7_clear 5 = .ok (.aload_n 0, 1) := by decide +kernel
theorem dX7_clear_6 : decode cX7_clear 6 = .ok (.iconst 0, 1) := by decide +kernel
theorem dX7_clear_7 : decode cX7_clear 7 = .ok (.putfield 46, 3) := by decide +kernel
theorem dX7_clear_10 : decode cX7_clear 10 = .ok (.return_, 1) := by decide +kernel
def wp_X3_header_137 (K : kS → Prop) (x0 : Nat) (S : kS) : Prop := hasO S x0 3 ∧ wp_X3_need x0 41 S (fun (S40 : kS) => K S40)
def wp_X3_header_111 (K : kS → Prop) (k111 : Nat × Int32 × kS → Prop) (x0 : Nat) (x1 : Int32) (S : kS) : Prop := ((4000 ≤ x1 → wp_X3_header_137 K x0 S) ∧ (¬ 4000 ≤ x1 → hasO S x0 3 ∧ wp_X3_take x0 44 S (fun (S36 : kS) (r36 : Int32) => ((r36 = 0 → wp_X3_header_137 K x0 S36) ∧ (¬ r36 = 0 → hasO S36 x0 3 ∧ wp_X3_givenCell x0 S36 (fun (S38 : kS) => ∀ z39 : Int32, z39 = x1 + 1 → k111 (x0, z39, S38)))))))
def ls_X3_header_111 (K : kS → Prop) (k111 : Nat × Int32 × kS → Prop) (u : Nat × Int32 × kS) : Prop := wp_X3_header_111 K k111 u.1 u.2.1 u.2.2
def wp_X3_header_91 (K : kS → Prop) (x0 : Nat) (S : kS) : Prop := hasO S x0 3 ∧ wp_X3_need x0 40 S (fun (S31 : kS) => hasO S31 x0 3 ∧ wp_X3_kind x0 S31 (fun (S32 : kS) (r32 : Int32) => ((¬ r32 = 3 → wp_X3_header_137 K x0 S32) ∧ (r32 = 3 → hasO S32 x0 3 ∧ wp_X3_givenCell x0 S32 (fun (S34 : kS) => (∃ n9, it (ls_X3_header_111 K) n9 (x0, 0, S34)))))))
def wp_X3_header_17 (K : kS → Prop) (x0 : Nat) (S : kS) : Prop := hasO S x0 3 ∧ wp_X3_step x0 S (fun (S6 : kS) => hasO S6 x0 3 ∧ wp_X3_kind x0 S6 (fun (S7 : kS) (r7 : Int32) => ((r7 = 3 → hasO S7 x0 3 ∧ ∀ z9 : Option Nat, z9 = S7.2.1 15 x0 → hasO S7 x0 3 ∧ ∀ z10 : Option Nat, z10 = S7.2.1 14 x0 → ∃ q11 : Nat, z10 = some q11 ∧ hasO S7 q11 10 ∧ ∀ z12 : Option Nat, z12 = S7.2.1 66 q11 → hasO S7 x0 3 ∧ ∀ z13 : Int32, z13 = S7.1 6 x0 → ∃ q14 : Nat, z12 = some q14 ∧ hasA S7 q14 4002 1 ∧ inR z13 4002 ∧ ∀ z15 : Int64, z15 = S7.2.2.2.1 q14 (ix z13) → ∃ q16 : Nat, z9 = some q16 ∧ hasO S7 q16 5 ∧ wp_X5_routineNamed q16 z15 S7 (fun (S17 : kS) (r17 : Int32) => ((r17 = (-1) → hasO S17 x0 3 ∧ ∀ z19 : Option Nat, z19 = S17.2.1 15 x0 → hasO S17 x0 3 ∧ ∀ z20 : Option Nat, z20 = S17.2.1 14 x0 → ∃ q21 : Nat, z20 = some q21 ∧ hasO S17 q21 10 ∧ ∀ z22 : Option Nat, z22 = S17.2.1 66 q21 → hasO S17 x0 3 ∧ ∀ z23 : Int32, z23 = S17.1 6 x0 → ∃ q24 : Nat, z22 = some q24 ∧ hasA S17 q24 4002 1 ∧ inR z23 4002 ∧ ∀ z25 : Int64, z25 = S17.2.2.2.1 q24 (ix z23) → ∃ q26 : Nat, z19 = some q26 ∧ hasO S17 q26 5 ∧ wp_X5_openRoutine q26 z25 S17 (fun (S27 : kS) => hasO S27 x0 3 ∧ wp_X3_step x0 S27 (fun (S28 : kS) => wp_X3_header_91 K x0 S28))) ∧ (¬ r17 = (-1) → hasO S17 x0 3 ∧ wp_X3_wrong x0 3 S17 (fun (S29 : kS) => wp_X3_header_91 K x0 S29))))) ∧ (¬ r7 = 3 → hasO S7 x0 3 ∧ wp_X3_wrong x0 1 S7 (fun (S30 : kS) => wp_X3_header_91 K x0 S30)))))
def wp_X3_header (t0 : Nat) (S : kS) (K : kS → Prop) : Prop := hasO S t0 3 ∧ ∀ z1 : Option Nat, z1 = S.2.1 15 t0 → ∃ q2 : Nat, z1 = some q2 ∧ hasO S q2 5 ∧ ∀ z3 : Int32, z3 = S.1 18 q2 → ((z3 < 12 → wp_X3_header_17 K t0 S) ∧ (¬ z3 < 12 → hasO S t0 3 ∧ wp_X3_wrong t0 5 S (fun (S5 : kS) => wp_X3_header_17 K t0 S5)))
theorem cw_X3_113 {R : Room} {s : State} {args : Array Value} {fr lo : Nat} (hts : ∀ w ∈ tb, w.before args s = true) (h1 : fr + 1 ≤ R.frames) (h2 : 8 + (3 + 11) + lo ≤ R.locals) : CallW R s args RX3 RX5 113 yX5_openRoutine cX5_openRoutine 3 none (.code yX5_openRoutine cX5_openRoutine 3 none :: tb) (mRm fr lo) 0 0 1 := cwV 1 hts (gd_V wd_628 wd_629 wd_630 wd_13 wd_631) rfl rfl rfl (by decide +kernel) ⟨h1, h2⟩
theorem cw_X3_120 {R : Room} {s : State} {args : Array Value} {fr lo : Nat} (hts : ∀ w ∈ tb, w.before args s = true) (h1 : fr + 1 ≤ R.frames) (h2 : 8 + (2 + 11) + lo ≤ R.locals) : CallW R s args RX3 RX3 120 yX3_givenCell cX3_givenCell 2 none (.code yX3_givenCell cX3_givenCell 2 none :: tb) (mRm fr lo) 0 0 0 := cwV 0 hts (gd_V wd_640 wd_642 sl_X3_givenCell wd_7 wd_643) rfl rfl rfl (by decide +kernel) ⟨h1, h2⟩
set_option maxHeartbeats 4000000 in
set_option maxRecDepth 100000 in
theorem kt_X3_header (l : Launch) (S : kS) (t0 : Nat) (K : kS → Prop) (h : wp_X3_header t0 S K) : kMv l yX3_header cX3_header 2 none 3 67 [.ref t0] S K := by
  refine kv_ofv (own := RX3) (by decide) rfl (Nat.le_of_ble_eq_true rfl) ?_
  intro E p e R s m args below meth c A ls Q hRf hRl hX hC hl hret
  have hx := hX.1.1
  have hb := hX.1.2.1
  have hown := hX.1.2.2.2.1
  have hts := hX.1.2.2.2.2
  have cut137 : ∀ (x0 : Nat) (S : kS) (H : Heap) (locs : List Loc) (ls : Array Slot), wp_X3_header_137 K x0 S → cM E A s.heap S H locs → lv_has ls 2 [(0, .ref x0)] → W p l e R s m args below meth c H locs 0 0 Q (F0 m 137 ls []) := by
    intro x0 S H locs ls h hC hl
    unfold wp_X3_header_137 at h
    refine lv_aload_n hx hb dX3_header_137 rfl (lv_at hl 0 rfl) ?_
    refine lv_bipush (v := 41) hx hb dX3_header_138 (by decide) ?_
    refine kv_callv [.int 41] (rest := []) (ci := 3) rfl hX hC h.1 (kt_X3_need l S x0 41 _ h.2 E _) (cw_X3_117 hts (by omega) (by omega)) rfl hl.1 (Nat.le_of_ble_eq_true rfl) ⟨Nat.zero_le _, Nat.zero_le _⟩ dX3_header_140 (fun S40 H locs hC h => ?_)
    exact hret _ _ _ _ _ hC h dX3_header_143
  have cut111 : ∀ (n111 : Nat) (x0 : Nat) (x1 : Int32) (S : kS) (H : Heap) (locs : List Loc) (ls : Array Slot), it (ls_X3_header_111 K) n111 (x0, x1, S) → cM E A s.heap S H locs → lv_has ls 2 [(0, .ref x0), (1, .int x1)] → W p l e R s m args below meth c H locs 0 0 Q (F0 m 111 ls []) := by
    intro n111
    induction n111 with
    | zero => intro x0 x1 S H locs ls h hC hl; exact h.elim
    | succ n111 ih111 =>
      intro x0 x1 S H locs ls h hC hl
      have h : wp_X3_header_111 K (it (ls_X3_header_111 K) n111) x0 x1 S := h
      unfold wp_X3_header_111 at h
      refine lv_iload_n hx hb dX3_header_111 rfl (lv_at hl 1 rfl) ?_
      refine lv_sipush (v := 4000) hx hb dX3_header_112 (by decide) ?_
      refine lv_icmp_ge (tgt := 137) hx hb dX3_header_115 (by decide) (fun c35 => ?_) (fun c35 => ?_)
      · have h := h.1 c35
        exact cut137 x0 S _ _ _ h hC (lv_sub hl [0] rfl)
      · have h := h.2 c35
        refine lv_aload_n hx hb dX3_header_118 rfl (lv_at hl 0 rfl) ?_
        refine lv_bipush (v := 44) hx hb dX3_header_119 (by decide) ?_
        refine kv_calli [.int 44] (rest := []) (ci := 3) rfl hX hC h.1 (kt_X3_take l S x0 44 _ h.2 E _) (cw_X3_89 hts (by omega) (by omega)) rfl hl.1 (Nat.le_of_ble_eq_true rfl) ⟨Nat.zero_le _, Nat.zero_le _⟩ dX3_header_121 (fun r36 S36 H locs hC h => ?_)
        refine lv_if_eq (tgt := 137) hx hb dX3_header_124 (by decide) (fun c37 => ?_) (fun c37 => ?_)
        · have h := h.1 c37
          exact cut137 x0 S36 _ _ _ h hC (lv_sub hl [0] rfl)
        · have h := h.2 c37
          refine lv_aload_n hx hb dX3_header_127 rfl (lv_at hl 0 rfl) ?_
          refine kv_callv [] (rest := []) (ci := 3) rfl hX hC h.1 (kt_X3_givenCell l S36 x0 _ h.2 E _) (cw_X3_120 hts (by omega) (by omega)) rfl hl.1 (Nat.le_of_ble_eq_true rfl) ⟨Nat.zero_le _, Nat.zero_le _⟩ dX3_header_128 (fun S38 H locs hC h => ?_)
          obtain ⟨z39, ez39⟩ : ∃ y : Int32, y = x1 + 1 := ⟨_, rfl⟩
          have h := h z39 ez39
          refine lv_iinc (v := z39) (lv' := [(1, .int z39), (0, .ref x0)]) hx hb dX3_header_131 hl (k := 1) rfl (by rw [ez39]; rfl) (by decide) rfl (fun ls hl => ?_)
          refine lv_goto (tgt := 111) hx hb dX3_header_134 (by decide) ?_
          exact ih111 x0 z39 S38 _ _ _ h hC (lv_sub hl [1, 0] rfl)
  have cut91 : ∀ (x0 : Nat) (S : kS) (H : Heap) (locs : List Loc) (ls : Array Slot), wp_X3_header_91 K x0 S → cM E A s.heap S H locs → lv_has ls 2 [(0, .ref x0)] → W p l e R s m args below meth c H locs 0 0 Q (F0 m 91 ls []) := by
    intro x0 S H locs ls h hC hl
    unfold wp_X3_header_91 at h
    refine lv_aload_n hx hb dX3_header_91 rfl (lv_at hl 0 rfl) ?_
    refine lv_bipush (v := 40) hx hb dX3_header_92 (by decide) ?_
    refine kv_callv [.int 40] (rest := []) (ci := 3) rfl hX hC h.1 (kt_X3_need l S x0 40 _ h.2 E _) (cw_X3_117 hts (by omega) (by omega)) rfl hl.1 (Nat.le_of_ble_eq_true rfl) ⟨Nat.zero_le _, Nat.zero_le _⟩ dX3_header_94 (fun S31 H locs hC h => ?_)
    refine lv_aload_n hx hb dX3_header_97 rfl (lv_at hl 0 rfl) ?_
    refine kv_calli [] (rest := []) (ci := 3) rfl hX hC h.1 (kt_X3_kind l S31 x0 _ h.2 E _) (cw_X3_62 hts (by omega) (by omega)) rfl hl.1 (Nat.le_of_ble_eq_true rfl) ⟨Nat.zero_le _, Nat.zero_le _⟩ dX3_header_98 (fun r32 S32 H locs hC h => ?_)
    refine lv_iconst (v := 3) hx hb dX3_header_101 (by decide) ?_
    refine lv_icmp_ne (tgt := 137) hx hb dX3_header_102 (by decide) (fun c33 => ?_) (fun c33 => ?_)
    · have h := h.1 c33
      exact cut137 x0 S32 _ _ _ h hC (lv_sub hl [0] rfl)
    · have h := h.2 c33
      refine lv_aload_n hx hb dX3_header_105 rfl (lv_at hl 0 rfl) ?_
      refine kv_callv [] (rest := []) (ci := 3) rfl hX hC h.1 (kt_X3_givenCell l S32 x0 _ h.2 E _) (cw_X3_120 hts (by omega) (by omega)) rfl hl.1 (Nat.le_of_ble_eq_true rfl) ⟨Nat.zero_le _, Nat.zero_le _⟩ dX3_header_106 (fun S34 H locs hC h => ?_)
      refine lv_iconst (v := 0) hx hb dX3_header_109 (by decide) ?_
      refine lv_istore_n (lv' := [(1, .int 0), (0, .ref x0)]) hx hb dX3_header_110 rfl hl (by decide) rfl (fun ls hl => ?_)
      obtain ⟨n9, h⟩ := h
      exact cut111 n9 x0 0 S34 _ _ _ h hC (lv_sub hl [1, 0] rfl)
  have cut17 : ∀ (x0 : Nat) (S : kS) (H : Heap) (locs : List Loc) (ls : Array Slot), wp_X3_header_17 K x0 S → cM E A s.heap S H locs → lv_has ls 2 [(0, .ref x0)] → W p l e R s m args below meth c H locs 0 0 Q (F0 m 17 ls []) := by
    intro x0 S H locs ls h hC hl
    unfold wp_X3_header_17 at h
    refine lv_aload_n hx hb dX3_header_17 rfl (lv_at hl 0 rfl) ?_
    refine kv_callv [] (rest := []) (ci := 3) rfl hX hC h.1 (kt_X3_step l S x0 _ h.2 E _) (cw_X3_103 hts (by omega) (by omega)) rfl hl.1 (Nat.le_of_ble_eq_true rfl) ⟨Nat.zero_le _, Nat.zero_le _⟩ dX3_header_18 (fun S6 H locs hC h => ?_)
    refine lv_aload_n hx hb dX3_header_21 rfl (lv_at hl 0 rfl) ?_
    refine kv_calli [] (rest := []) (ci := 3) rfl hX hC h.1 (kt_X3_kind l S6 x0 _ h.2 E _) (cw_X3_62 hts (by omega) (by omega)) rfl hl.1 (Nat.le_of_ble_eq_true rfl) ⟨Nat.zero_le _, Nat.zero_le _⟩ dX3_header_22 (fun r7 S7 H locs hC h => ?_)
    refine lv_iconst (v := 3) hx hb dX3_header_25 (by decide) ?_
    refine lv_icmp_eq (tgt := 37) hx hb dX3_header_26 (by decide) (fun c8 => ?_) (fun c8 => ?_)
    · have h := h.1 c8
      refine lv_aload_n hx hb dX3_header_37 rfl (lv_at hl 0 rfl) ?_
      refine cq_getr (ci := 3) (k := 1) (f := 15) hX hC rfl in_X3 (by decide) wd_132 (fun _ h9 => h9) (fun _ _ => rfl) dX3_header_38 h (fun z9 h => ?_)
      refine lv_aload_n hx hb dX3_header_41 rfl (lv_at hl 0 rfl) ?_
      refine cq_getr (ci := 3) (k := 0) (f := 14) hX hC rfl in_X3 (by decide) wd_131 (fun _ h9 => h9) (fun _ _ => rfl) dX3_header_42 h (fun z10 h => ?_)
      obtain ⟨q11, e9, hh⟩ := h
      subst e9
      have h := hh
      clear hh
      refine cq_getr (ci := 10) (k := 2) (f := 66) hX hC rfl in_X10 (by decide) wd_99 (fun _ h9 => h9) (fun _ _ => rfl) dX3_header_45 h (fun z12 h => ?_)
      refine lv_aload_n hx hb dX3_header_48 rfl (lv_at hl 0 rfl) ?_
      refine cq_geti (ci := 3) (k := 3) (f := 6) hX hC rfl in_X3 (by decide) wd_134 (fun _ h9 => h9) (fun _ _ => rfl) dX3_header_49 h (fun z13 h => ?_)
      obtain ⟨q14, e9, hh⟩ := h
      subst e9
      have h := hh
      clear hh
      refine cq_lld hX hC dX3_header_52 h (fun z15 h => ?_)
      obtain ⟨q16, e9, hh⟩ := h
      subst e9
      have h := hh
      clear hh
      refine kv_calli [.long z15] (rest := []) (ci := 5) rfl hX hC h.1 (kt_X5_routineNamed l S7 q16 z15 _ h.2 E _) (cw_X3_109 hts (by omega) (by omega)) rfl hl.1 (Nat.le_of_ble_eq_true rfl) ⟨Nat.zero_le _, Nat.zero_le _⟩ dX3_header_53 (fun r17 S17 H locs hC h => ?_)
      refine lv_iconst (v := -1) hx hb dX3_header_56 (by decide) ?_
      refine lv_icmp_eq (tgt := 68) hx hb dX3_header_57 (by decide) (fun c18 => ?_) (fun c18 => ?_)
      · have h := h.1 c18
        refine lv_aload_n hx hb dX3_header_68 rfl (lv_at hl 0 rfl) ?_
        refine cq_getr (ci := 3) (k := 1) (f := 15) hX hC rfl in_X3 (by decide) wd_132 (fun _ h9 => h9) (fun _ _ => rfl) dX3_header_69 h (fun z19 h => ?_)
        refine lv_aload_n hx hb dX3_header_72 rfl (lv_at hl 0 rfl) ?_
        refine cq_getr (ci := 3) (k := 0) (f := 14) hX hC rfl in_X3 (by decide) wd_131 (fun _ h9 => h9) (fun _ _ => rfl) dX3_header_73 h (fun z20 h => ?_)
        obtain ⟨q21, e9, hh⟩ := h
        subst e9
        have h := hh
        clear hh
        refine cq_getr (ci := 10) (k := 2) (f := 66) hX hC rfl in_X10 (by decide) wd_99 (fun _ h9 => h9) (fun _ _ => rfl) dX3_header_76 h (fun z22 h => ?_)
        refine lv_aload_n hx hb dX3_header_79 rfl (lv_at hl 0 rfl) ?_
        refine cq_geti (ci := 3) (k := 3) (f := 6) hX hC rfl in_X3 (by decide) wd_134 (fun _ h9 => h9) (fun _ _ => rfl) dX3_header_80 h (fun z23 h => ?_)
        obtain ⟨q24, e9, hh⟩ := h
        subst e9
        have h := hh
        clear hh
        refine cq_lld hX hC dX3_header_83 h (fun z25 h => ?_)
        obtain ⟨q26, e9, hh⟩ := h
        subst e9
        have h := hh
        clear hh
        refine kv_callv [.long z25] (rest := []) (ci := 5) rfl hX hC h.1 (kt_X5_openRoutine l S17 q26 z25 _ h.2 E _) (cw_X3_113 hts (by omega) (by omega)) rfl hl.1 (Nat.le_of_ble_eq_true rfl) ⟨Nat.zero_le _, Nat.zero_le _⟩ dX3_header_84 (fun S27 H locs hC h => ?_)
        refine lv_aload_n hx hb dX3_header_87 rfl (lv_at hl 0 rfl) ?_
        refine kv_callv [] (rest := []) (ci := 3) rfl hX hC h.1 (kt_X3_step l S27 x0 _ h.2 E _) (cw_X3_103 hts (by omega) (by omega)) rfl hl.1 (Nat.le_of_ble_eq_true rfl) ⟨Nat.zero_le _, Nat.zero_le _⟩ dX3_header_88 (fun S28 H locs hC h => ?_)
        exact cut91 x0 S28 _ _ _ h hC (lv_sub hl [0] rfl)
      · have h := h.2 c18
        refine lv_aload_n hx hb dX3_header_60 rfl (lv_at hl 0 rfl) ?_
        refine lv_iconst (v := 3) hx hb dX3_header_61 (by decide) ?_
        refine kv_callv [.int 3] (rest := []) (ci := 3) rfl hX hC h.1 (kt_X3_wrong l S17 x0 3 _ h.2 E _) (cw_X3_78 hts (by omega) (by omega)) rfl hl.1 (Nat.le_of_ble_eq_true rfl) ⟨Nat.zero_le _, Nat.zero_le _⟩ dX3_header_62 (fun S29 H locs hC h => ?_)
        refine lv_goto (tgt := 91) hx hb dX3_header_65 (by decide) ?_
        exact cut91 x0 S29 _ _ _ h hC (lv_sub hl [0] rfl)
    · have h := h.2 c8
      refine lv_aload_n hx hb dX3_header_29 rfl (lv_at hl 0 rfl) ?_
      refine lv_iconst (v := 1) hx hb dX3_header_30 (by decide) ?_
      refine kv_callv [.int 1] (rest := []) (ci := 3) rfl hX hC h.1 (kt_X3_wrong l S7 x0 1 _ h.2 E _) (cw_X3_78 hts (by omega) (by omega)) rfl hl.1 (Nat.le_of_ble_eq_true rfl) ⟨Nat.zero_le _, Nat.zero_le _⟩ dX3_header_31 (fun S30 H locs hC h => ?_)
      refine lv_goto (tgt := 91) hx hb dX3_header_34 (by decide) ?_
      exact cut91 x0 S30 _ _ _ h hC (lv_sub hl [0] rfl)
  have hl : lv_has ls 2 [(0, .ref t0)] := hl
  unfold wp_X3_header at h
  refine lv_aload_n hx hb dX3_header_0 rfl (lv_at hl 0 rfl) ?_
  refine cq_getr (ci := 3) (k := 1) (f := 15) hX hC rfl in_X3 (by decide) wd_132 (fun _ h9 => h9) (fun _ _ => rfl) dX3_header_1 h (fun z1 h => ?_)
  obtain ⟨q2, e9, hh⟩ := h
  subst e9
  have h := hh
  clear hh
  refine cq_geti (ci := 5) (k := 5) (f := 18) hX hC rfl in_X5 (by decide) wd_414 (fun _ h9 => h9) (fun _ _ => rfl) dX3_header_4 h (fun z3 h => ?_)
  refine lv_bipush (v := 12) hx hb dX3_header_7 (by decide) ?_
  refine lv_icmp_lt (tgt := 17) hx hb dX3_header_9 (by decide) (fun c4 => ?_) (fun c4 => ?_)
  · have h := h.1 c4
    exact cut17 t0 S _ _ _ h hC (lv_sub hl [0] rfl)
  · have h := h.2 c4
    refine lv_aload_n hx hb dX3_header_12 rfl (lv_at hl 0 rfl) ?_
    refine lv_iconst (v := 5) hx hb dX3_header_13 (by decide) ?_
    refine kv_callv [.int 5] (rest := []) (ci := 3) rfl hX hC h.1 (kt_X3_wrong l S t0 5 _ h.2 E _) (cw_X3_78 hts (by omega) (by omega)) rfl hl.1 (Nat.le_of_ble_eq_true rfl) ⟨Nat.zero_le _, Nat.zero_le _⟩ dX3_header_14 (fun S5 H locs hC h => ?_)
    exact cut17 t0 S5 _ _ _ h hC (lv_sub hl [0] rfl)
def wp_X7_clear (t0 : Nat) (S : kS) (K : kS → Prop) : Prop := hasO S t0 7 ∧ ∀ S1 : kS, S1 = cI S 24 t0 0 → hasO S1 t0 7 ∧ ∀ S2 : kS, S2 = cI S1 25 t0 0 → K S2
set_option maxHeartbeats 4000000 in
set_option maxRecDepth 100000 in
theorem kt_X7_clear (l : Launch) (S : kS) (t0 : Nat) (K : kS → Prop) (h : wp_X7_clear t0 S K) : kMv l yX7_clear cX7_clear 1 none 0 0 [.ref t0] S K := by
  refine kv_ofv (own := RX7) (by decide) rfl (Nat.le_of_ble_eq_true rfl) ?_
  intro E p e R s m args below meth c A ls Q hRf hRl hX hC hl hret
  have hx := hX.1.1
  have hb := hX.1.2.1
  have hown := hX.1.2.2.2.1
  have hts := hX.1.2.2.2.2
  have hl : lv_has ls 1 [(0, .ref t0)] := hl
  unfold wp_X7_clear at h
  refine lv_aload_n hx hb dX7_clear_0 rfl (lv_at hl 0 rfl) ?_
  refine lv_iconst (v := 0) hx hb dX7_clear_1 (by decide) ?_
  refine cq_puti (v := 0) (ci := 7) (k := 0) (f := 24) hX hC rfl in_X7 (by decide) wd_341 (fun _ h9 => h9) tyX7 tyX7_ok nmX7 rfl rfl rfl (fun _ _ => Nat.le_of_ble_eq_true rfl) (fun _ _ _ => rfl) dX7_clear_2 h.1 h.2 (fun S1 H locs hC h => ?_)
  refine lv_aload_n hx hb dX7_clear_5 rfl (lv_at hl 0 rfl) ?_
  refine lv_iconst (v := 0) hx hb dX7_clear_6 (by decide) ?_
  refine cq_puti (v := 0) (ci := 7) (k := 8) (f := 25) hX hC rfl in_X7 (by decide) wd_361 (fun _ h9 => h9) tyX7 tyX7_ok nmX7 rfl rfl rfl (fun _ _ => Nat.le_of_ble_eq_true rfl) (fun _ _ _ => rfl) dX7_clear_7 h.1 h.2 (fun S2 H locs hC h => ?_)
  exact hret _ _ _ _ _ hC h dX7_clear_10
def wp_X5_clear (t0 : Nat) (S : kS) (K : kS → Prop) : Prop := hasO S t0 5 ∧ ∀ S1 : kS, S1 = cI S 17 t0 0 → hasO S1 t0 5 ∧ ∀ S2 : kS, S2 = cI S1 18 t0 0 → hasO S2 t0 5 ∧ ∀ z3 : Option Nat, z3 = S2.2.1 31 t0 → ∃ q4 : Nat, z3 = some q4 ∧ hasO S2 q4 7 ∧ wp_X7_clear q4 S2 (fun (S5 : kS) => K S5)
theorem cw_X5_60 {R : Room} {s : State} {args : Array Value} {fr lo : Nat} (hts : ∀ w ∈ tb, w.before args s = true) (h1 : fr + 1 ≤ R.frames) (h2 : 8 + (1 + 11) + lo ≤ R.locals) : CallW R s args RX5 RX7 60 yX7_clear cX7_clear 1 none (.code yX7_clear cX7_clear 1 none :: tb) (mRm fr lo) 0 0 0 := cwV 0 hts (gd_V wd_604 wd_605 wd_606 wd_14 wd_607) rfl rfl rfl (by decide +kernel) ⟨h1, h2⟩
set_option maxHeartbeats 4000000 in
set_option maxRecDepth 100000 in
theorem kt_X5_clear (l : Launch) (S : kS) (t0 : Nat) (K : kS → Prop) (h : wp_X5_clear t0 S K) : kMv l yX5_clear cX5_clear 1 none 1 20 [.ref t0] S K := by
  refine kv_ofv (own := RX5) (by decide) rfl (Nat.le_of_ble_eq_true rfl) ?_
  intro E p e R s m args below meth c A ls Q hRf hRl hX hC hl hret
  have hx := hX.1.1
  have hb := hX.1.2.1
  have hown := hX.1.2.2.2.1
  have hts := hX.1.2.2.2.2
  have hl : lv_has ls 1 [(0, .ref t0)] := hl
  unfold wp_X5_clear at h
  refine lv_aload_n hx hb dX5_clear_0 rfl (lv_at hl 0 rfl) ?_
  refine lv_iconst (v := 0) hx hb dX5_clear_1 (by decide) ?_
  refine cq_puti (v := 0) (ci := 5) (k := 0) (f := 17) hX hC rfl in_X5 (by decide) wd_395 (fun _ h9 => h9) tyX5 tyX5_ok nmX5 rfl rfl rfl (fun _ _ => Nat.le_of_ble_eq_true rfl) (fun _ _ _ => rfl) dX5_clear_2 h.1 h.2 (fun S1 H locs hC h => ?_)
  refine lv_aload_n hx hb dX5_clear_5 rfl (lv_at hl 0 rfl) ?_
  refine lv_iconst (v := 0) hx hb dX5_clear_6 (by decide) ?_
  refine cq_puti (v := 0) (ci := 5) (k := 5) (f := 18) hX hC rfl in_X5 (by decide) wd_413 (fun _ h9 => h9) tyX5 tyX5_ok nmX5 rfl rfl rfl (fun _ _ => Nat.le_of_ble_eq_true rfl) (fun _ _ _ => rfl) dX5_clear_7 h.1 h.2 (fun S2 H locs hC h => ?_)
  refine lv_aload_n hx hb dX5_clear_10 rfl (lv_at hl 0 rfl) ?_
  refine cq_getr (ci := 5) (k := 4) (f := 31) hX hC rfl in_X5 (by decide) wd_409 (fun _ h9 => h9) (fun _ _ => rfl) dX5_clear_11 h (fun z3 h => ?_)
  obtain ⟨q4, e9, hh⟩ := h
  subst e9
  have h := hh
  clear hh
  refine kv_callv [] (rest := []) (ci := 7) rfl hX hC h.1 (kt_X7_clear l S2 q4 _ h.2 E _) (cw_X5_60 hts (by omega) (by omega)) rfl hl.1 (Nat.le_of_ble_eq_true rfl) ⟨Nat.zero_le _, Nat.zero_le _⟩ dX5_clear_14 (fun S5 H locs hC h => ?_)
  exact hret _ _ _ _ _ hC h dX5_clear_17
def wp_X5_closeRoutine (t0 : Nat) (S : kS) (K : kS → Prop) : Prop := hasO S t0 5 ∧ ∀ z1 : Int32, z1 = S.1 18 t0 → ((z1 ≤ 0 → K S) ∧ (¬ z1 ≤ 0 → hasO S t0 5 ∧ ∀ z3 : Option Nat, z3 = S.2.1 33 t0 → hasO S t0 5 ∧ ∀ z4 : Int32, z4 = S.1 18 t0 → ∀ z5 : Int32, z5 = z4 - 1 → hasO S t0 5 ∧ wp_X5_emit t0 24 0 (-1) S (fun (S6 : kS) (r6 : Int32) => ∃ q7 : Nat, z3 = some q7 ∧ hasA S6 q7 12 0 ∧ inR z5 12 ∧ ∀ S8 : kS, S8 = cA S6 q7 (ix z5) r6 → K S8)))
theorem cw_X5_69 {R : Room} {s : State} {args : Array Value} {fr lo : Nat} (hts : ∀ w ∈ tb, w.before args s = true) (h1 : fr + 1 ≤ R.frames) (h2 : 8 + (4 + 11) + lo ≤ R.locals) : CallW R s args RX5 RX5 69 yX5_emit cX5_emit 4 (some .int) (.code yX5_emit cX5_emit 4 (some .int) :: tb) (mRm fr lo) 0 0 3 := cwV 3 hts (gd_V wd_770 wd_672 wd_673 wd_13 wd_674) rfl rfl rfl (by decide +kernel) ⟨h1, h2⟩
set_option maxHeartbeats 4000000 in
set_option maxRecDepth 100000 in
theorem kt_X5_closeRoutine (l : Launch) (S : kS) (t0 : Nat) (K : kS → Prop) (h : wp_X5_closeRoutine t0 S K) : kMv l yX5_closeRoutine cX5_closeRoutine 1 none 1 23 [.ref t0] S K := by
  refine kv_ofv (own := RX5) (by decide) rfl (Nat.le_of_ble_eq_true rfl) ?_
  intro E p e R s m args below meth c A ls Q hRf hRl hX hC hl hret
  have hx := hX.1.1
  have hb := hX.1.2.1
  have hown := hX.1.2.2.2.1
  have hts := hX.1.2.2.2.2
  have hl : lv_has ls 1 [(0, .ref t0)] := hl
  unfold wp_X5_closeRoutine at h
  refine lv_aload_n hx hb dX5_closeRoutine_0 rfl (lv_at hl 0 rfl) ?_
  refine cq_geti (ci := 5) (k := 5) (f := 18) hX hC rfl in_X5 (by decide) wd_413 (fun _ h9 => h9) (fun _ _ => rfl) dX5_closeRoutine_1 h (fun z1 h => ?_)
  refine lv_if_le (tgt := 26) hx hb dX5_closeRoutine_4 (by decide) (fun c2 => ?_) (fun c2 => ?_)
  · have h := h.1 c2
    exact hret _ _ _ _ _ hC h dX5_closeRoutine_26
  · have h := h.2 c2
    refine lv_aload_n hx hb dX5_closeRoutine_7 rfl (lv_at hl 0 rfl) ?_
    refine cq_getr (ci := 5) (k := 7) (f := 33) hX hC rfl in_X5 (by decide) wd_419 (fun _ h9 => h9) (fun _ _ => rfl) dX5_closeRoutine_8 h (fun z3 h => ?_)
    refine lv_aload_n hx hb dX5_closeRoutine_11 rfl (lv_at hl 0 rfl) ?_
    refine cq_geti (ci := 5) (k := 5) (f := 18) hX hC rfl in_X5 (by decide) wd_413 (fun _ h9 => h9) (fun _ _ => rfl) dX5_closeRoutine_12 h (fun z4 h => ?_)
    refine lv_iconst (v := 1) hx hb dX5_closeRoutine_15 (by decide) ?_
    refine lq_isub hx hb dX5_closeRoutine_16 h (fun z5 h => ?_)
    refine lv_aload_n hx hb dX5_closeRoutine_17 rfl (lv_at hl 0 rfl) ?_
    refine lv_bipush (v := 24) hx hb dX5_closeRoutine_18 (by decide) ?_
    refine lv_iconst (v := 0) hx hb dX5_closeRoutine_20 (by decide) ?_
    refine lv_iconst (v := -1) hx hb dX5_closeRoutine_21 (by decide) ?_
    refine kv_calli [.int 24, .int 0, .int (-1)] (rest := [.int z5, va_rf z3]) (ci := 5) rfl hX hC h.1 (kt_X5_emit l S t0 24 0 (-1) _ h.2 E _) (cw_X5_69 hts (by omega) (by omega)) rfl hl.1 (by rcases z3 with _ | _ <;> exact Nat.le_of_ble_eq_true rfl) ⟨Nat.zero_le _, Nat.zero_le _⟩ dX5_closeRoutine_22 (fun r6 S6 H locs hC h => ?_)
    obtain ⟨q7, e9, hh⟩ := h
    subst e9
    have h := hh
    clear hh
    refine cq_ist hX hC dX5_closeRoutine_25 h.1 h.2.1 h.2.2 (fun S8 H locs hC h => ?_)
    exact hret _ _ _ _ _ hC h dX5_closeRoutine_26
def wp_X3_read_105 (K : kS → Int32 → Prop) (x0 : Nat) (S : kS) : Prop := hasO S x0 3 ∧ wp_X3_findChildren x0 S (fun (S27 : kS) => hasO S27 x0 3 ∧ ∀ z28 : Int32, z28 = S27.1 7 x0 → K S27 z28)
def wp_X3_read_93 (K : kS → Int32 → Prop) (x0 : Nat) (S : kS) : Prop := hasO S x0 3 ∧ wp_X3_kind x0 S (fun (S24 : kS) (r24 : Int32) => ((r24 = 0 → wp_X3_read_105 K x0 S24) ∧ (¬ r24 = 0 → hasO S24 x0 3 ∧ wp_X3_wrong x0 1 S24 (fun (S26 : kS) => wp_X3_read_105 K x0 S26))))
def wp_X3_read_55 (K : kS → Int32 → Prop) (k55 : Nat × Int32 × kS → Prop) (x0 : Nat) (x2 : Int32) (S : kS) : Prop := ((12 < x2 → wp_X3_read_93 K x0 S) ∧ (¬ 12 < x2 → hasO S x0 3 ∧ wp_X3_kind x0 S (fun (S16 : kS) (r16 : Int32) => ((¬ r16 = 200 → wp_X3_read_93 K x0 S16) ∧ (r16 = 200 → hasO S16 x0 3 ∧ wp_X3_header x0 S16 (fun (S18 : kS) => hasO S18 x0 3 ∧ wq_X3_block x0 0 S18 (fun (S19 : kS) => hasO S19 x0 3 ∧ ∀ z20 : Option Nat, z20 = S19.2.1 15 x0 → ∃ q21 : Nat, z20 = some q21 ∧ hasO S19 q21 5 ∧ wp_X5_closeRoutine q21 S19 (fun (S22 : kS) => ∀ z23 : Int32, z23 = x2 + 1 → k55 (x0, z23, S22)))))))))
def ls_X3_read_55 (K : kS → Int32 → Prop) (k55 : Nat × Int32 × kS → Prop) (u : Nat × Int32 × kS) : Prop := wp_X3_read_55 K k55 u.1 u.2.1 u.2.2
def wp_X3_read (t0 : Nat) (a0 : Nat) (S : kS) (K : kS → Int32 → Prop) : Prop := hasO S t0 3 ∧ ∀ S1 : kS, S1 = cR S 15 t0 (some a0) → hasO S1 t0 3 ∧ ∀ z2 : Option Nat, z2 = S1.2.1 15 t0 → ∃ q3 : Nat, z2 = some q3 ∧ hasO S1 q3 5 ∧ wp_X5_clear q3 S1 (fun (S4 : kS) => hasO S4 t0 3 ∧ ∀ z5 : Option Nat, z5 = S4.2.1 15 t0 → ∃ q6 : Nat, z5 = some q6 ∧ hasO S4 q6 5 ∧ ∀ z7 : Option Nat, z7 = S4.2.1 31 q6 → hasO S4 t0 3 ∧ ∀ S8 : kS, S8 = cR S4 16 t0 z7 → hasO S8 t0 3 ∧ ∀ S9 : kS, S9 = cI S8 6 t0 0 → hasO S9 t0 3 ∧ ∀ S10 : kS, S10 = cI S9 7 t0 0 → hasO S10 t0 3 ∧ ∀ S11 : kS, S11 = cI S10 8 t0 (-1) → hasO S11 t0 3 ∧ ∀ S12 : kS, S12 = cI S11 9 t0 (-1) → hasO S12 t0 3 ∧ ∀ S13 : kS, S13 = cI S12 10 t0 0 → hasO S13 t0 3 ∧ ∀ S14 : kS, S14 = cI S13 11 t0 0 → (∃ n9, it (ls_X3_read_55 K) n9 (t0, 0, S14)))
theorem cw_X3_33 {R : Room} {s : State} {args : Array Value} {fr lo : Nat} (hts : ∀ w ∈ tb, w.before args s = true) (h1 : fr + 1 ≤ R.frames) (h2 : 8 + (1 + 11) + lo ≤ R.locals) : CallW R s args RX3 RX5 33 yX5_clear cX5_clear 1 none (.code yX5_clear cX5_clear 1 none :: tb) (mRm fr lo) 0 0 0 := cwV 0 hts (gd_V wd_600 wd_601 wd_602 wd_13 wd_603) rfl rfl rfl (by decide +kernel) ⟨h1, h2⟩
theorem cw_X3_68 {R : Room} {s : State} {args : Array Value} {fr lo : Nat} (hts : ∀ w ∈ tb, w.before args s = true) (h1 : fr + 1 ≤ R.frames) (h2 : 8 + (2 + 11) + lo ≤ R.locals) : CallW R s args RX3 RX3 68 yX3_header cX3_header 2 none (.code yX3_header cX3_header 2 none :: tb) (mRm fr lo) 0 0 0 := cwV 0 hts (gd_V wd_612 wd_614 sl_X3_header wd_7 wd_615) rfl rfl rfl (by decide +kernel) ⟨h1, h2⟩
theorem cw_X3_75 {R : Room} {s : State} {args : Array Value} {fr lo : Nat} (hts : ∀ w ∈ tb, w.before args s = true) (h1 : fr + 1 ≤ R.frames) (h2 : 8 + (1 + 11) + lo ≤ R.locals) : CallW R s args RX3 RX5 75 yX5_closeRoutine cX5_closeRoutine 1 none (.code yX5_closeRoutine cX5_closeRoutine 1 none :: tb) (mRm fr lo) 0 0 0 := cwV 0 hts (gd_V wd_766 wd_767 wd_768 wd_13 wd_769) rfl rfl rfl (by decide +kernel) ⟨h1, h2⟩
theorem cw_X3_81 {R : Room} {s : State} {args : Array Value} {fr lo : Nat} (hts : ∀ w ∈ tb, w.before args s = true) (h1 : fr + 1 ≤ R.frames) (h2 : 8 + (3 + 11) + lo ≤ R.locals) : CallW R s args RX3 RX3 81 yX3_findChildren cX3_findChildren 3 none (.code yX3_findChildren cX3_findChildren 3 none :: tb) (mRm fr lo) 0 0 0 := cwV 0 hts (gd_V wd_771 wd_773 sl_X3_findChildren wd_7 wd_774) rfl rfl rfl (by decide +kernel) ⟨h1, h2⟩
set_option maxHeartbeats 4000000 in
set_option maxRecDepth 100000 in
theorem kt_X3_read (l : Launch) (S : kS) (t0 : Nat) (a0 : Nat) (K : kS → Int32 → Prop) (h : wp_X3_read t0 a0 S K) : kMi l yX3_read cX3_read 3 (some .int) 134 3131 [.ref t0, .ref a0] S K := by
  refine kv_ofi (own := RX3) (by decide) rfl (Nat.le_of_ble_eq_true rfl) ?_
  intro E p e R s m args below meth c A ls Q hRf hRl hX hC hl hret
  have hx := hX.1.1
  have hb := hX.1.2.1
  have hown := hX.1.2.2.2.1
  have hts := hX.1.2.2.2.2
  have cut105 : ∀ (x0 : Nat) (S : kS) (H : Heap) (locs : List Loc) (ls : Array Slot), wp_X3_read_105 K x0 S → cM E A s.heap S H locs → lv_has ls 3 [(0, .ref x0)] → W p l e R s m args below meth c H locs 0 0 Q (F0 m 105 ls []) := by
    intro x0 S H locs ls h hC hl
    unfold wp_X3_read_105 at h
    refine lv_aload_n hx hb dX3_read_105 rfl (lv_at hl 0 rfl) ?_
    refine kv_callv [] (rest := []) (ci := 3) rfl hX hC h.1 (kt_X3_findChildren l S x0 _ h.2 E _) (cw_X3_81 hts (by omega) (by omega)) rfl hl.1 (Nat.le_of_ble_eq_true rfl) ⟨Nat.zero_le _, Nat.zero_le _⟩ dX3_read_106 (fun S27 H locs hC h => ?_)
    refine lv_aload_n hx hb dX3_read_109 rfl (lv_at hl 0 rfl) ?_
    refine cq_geti (ci := 3) (k := 4) (f := 7) hX hC rfl in_X3 (by decide) wd_135 (fun _ h9 => h9) (fun _ _ => rfl) dX3_read_110 h (fun z28 h => ?_)
    exact hret _ _ _ _ _ _ hC h dX3_read_113
  have cut93 : ∀ (x0 : Nat) (S : kS) (H : Heap) (locs : List Loc) (ls : Array Slot), wp_X3_read_93 K x0 S → cM E A s.heap S H locs → lv_has ls 3 [(0, .ref x0)] → W p l e R s m args below meth c H locs 0 0 Q (F0 m 93 ls []) := by
    intro x0 S H locs ls h hC hl
    unfold wp_X3_read_93 at h
    refine lv_aload_n hx hb dX3_read_93 rfl (lv_at hl 0 rfl) ?_
    refine kv_calli [] (rest := []) (ci := 3) rfl hX hC h.1 (kt_X3_kind l S x0 _ h.2 E _) (cw_X3_62 hts (by omega) (by omega)) rfl hl.1 (Nat.le_of_ble_eq_true rfl) ⟨Nat.zero_le _, Nat.zero_le _⟩ dX3_read_94 (fun r24 S24 H locs hC h => ?_)
    refine lv_if_eq (tgt := 105) hx hb dX3_read_97 (by decide) (fun c25 => ?_) (fun c25 => ?_)
    · have h := h.1 c25
      exact cut105 x0 S24 _ _ _ h hC (lv_sub hl [0] rfl)
    · have h := h.2 c25
      refine lv_aload_n hx hb dX3_read_100 rfl (lv_at hl 0 rfl) ?_
      refine lv_iconst (v := 1) hx hb dX3_read_101 (by decide) ?_
      refine kv_callv [.int 1] (rest := []) (ci := 3) rfl hX hC h.1 (kt_X3_wrong l S24 x0 1 _ h.2 E _) (cw_X3_78 hts (by omega) (by omega)) rfl hl.1 (Nat.le_of_ble_eq_true rfl) ⟨Nat.zero_le _, Nat.zero_le _⟩ dX3_read_102 (fun S26 H locs hC h => ?_)
      exact cut105 x0 S26 _ _ _ h hC (lv_sub hl [0] rfl)
  have cut55 : ∀ (n55 : Nat) (x0 : Nat) (x2 : Int32) (S : kS) (H : Heap) (locs : List Loc) (ls : Array Slot), it (ls_X3_read_55 K) n55 (x0, x2, S) → cM E A s.heap S H locs → lv_has ls 3 [(0, .ref x0), (2, .int x2)] → W p l e R s m args below meth c H locs 0 0 Q (F0 m 55 ls []) := by
    intro n55
    induction n55 with
    | zero => intro x0 x2 S H locs ls h hC hl; exact h.elim
    | succ n55 ih55 =>
      intro x0 x2 S H locs ls h hC hl
      have h : wp_X3_read_55 K (it (ls_X3_read_55 K) n55) x0 x2 S := h
      unfold wp_X3_read_55 at h
      refine lv_iload_n hx hb dX3_read_55 rfl (lv_at hl 1 rfl) ?_
      refine lv_bipush (v := 12) hx hb dX3_read_56 (by decide) ?_
      refine lv_icmp_gt (tgt := 93) hx hb dX3_read_58 (by decide) (fun c15 => ?_) (fun c15 => ?_)
      · have h := h.1 c15
        exact cut93 x0 S _ _ _ h hC (lv_sub hl [0] rfl)
      · have h := h.2 c15
        refine lv_aload_n hx hb dX3_read_61 rfl (lv_at hl 0 rfl) ?_
        refine kv_calli [] (rest := []) (ci := 3) rfl hX hC h.1 (kt_X3_kind l S x0 _ h.2 E _) (cw_X3_62 hts (by omega) (by omega)) rfl hl.1 (Nat.le_of_ble_eq_true rfl) ⟨Nat.zero_le _, Nat.zero_le _⟩ dX3_read_62 (fun r16 S16 H locs hC h => ?_)
        refine lv_sipush (v := 200) hx hb dX3_read_65 (by decide) ?_
        refine lv_icmp_ne (tgt := 93) hx hb dX3_read_68 (by decide) (fun c17 => ?_) (fun c17 => ?_)
        · have h := h.1 c17
          exact cut93 x0 S16 _ _ _ h hC (lv_sub hl [0] rfl)
        · have h := h.2 c17
          refine lv_aload_n hx hb dX3_read_71 rfl (lv_at hl 0 rfl) ?_
          refine kv_callv [] (rest := []) (ci := 3) rfl hX hC h.1 (kt_X3_header l S16 x0 _ h.2 E _) (cw_X3_68 hts (by omega) (by omega)) rfl hl.1 (Nat.le_of_ble_eq_true rfl) ⟨Nat.zero_le _, Nat.zero_le _⟩ dX3_read_72 (fun S18 H locs hC h => ?_)
          refine lv_aload_n hx hb dX3_read_75 rfl (lv_at hl 0 rfl) ?_
          refine lv_iconst (v := 0) hx hb dX3_read_76 (by decide) ?_
          refine kv_callv [.int 0] (rest := []) (ci := 3) rfl hX hC h.1 (kt_X3_block l S18 x0 0 _ h.2 E _) (cw_X3_71 hts (by omega) (by omega)) rfl hl.1 (Nat.le_of_ble_eq_true rfl) ⟨Nat.zero_le _, Nat.zero_le _⟩ dX3_read_77 (fun S19 H locs hC h => ?_)
          refine lv_aload_n hx hb dX3_read_80 rfl (lv_at hl 0 rfl) ?_
          refine cq_getr (ci := 3) (k := 1) (f := 15) hX hC rfl in_X3 (by decide) wd_132 (fun _ h9 => h9) (fun _ _ => rfl) dX3_read_81 h (fun z20 h => ?_)
          obtain ⟨q21, e9, hh⟩ := h
          subst e9
          have h := hh
          clear hh
          refine kv_callv [] (rest := []) (ci := 5) rfl hX hC h.1 (kt_X5_closeRoutine l S19 q21 _ h.2 E _) (cw_X3_75 hts (by omega) (by omega)) rfl hl.1 (Nat.le_of_ble_eq_true rfl) ⟨Nat.zero_le _, Nat.zero_le _⟩ dX3_read_84 (fun S22 H locs hC h => ?_)
          obtain ⟨z23, ez23⟩ : ∃ y : Int32, y = x2 + 1 := ⟨_, rfl⟩
          have h := h z23 ez23
          refine lv_iinc (v := z23) (lv' := [(2, .int z23), (0, .ref x0)]) hx hb dX3_read_87 hl (k := 1) rfl (by rw [ez23]; rfl) (by decide) rfl (fun ls hl => ?_)
          refine lv_goto (tgt := 55) hx hb dX3_read_90 (by decide) ?_
          exact ih55 x0 z23 S22 _ _ _ h hC (lv_sub hl [1, 0] rfl)
  have hl : lv_has ls 3 [(0, .ref t0), (1, .ref a0)] := hl
  unfold wp_X3_read at h
  refine lv_aload_n hx hb dX3_read_0 rfl (lv_at hl 0 rfl) ?_
  refine lv_aload_n hx hb dX3_read_1 rfl (lv_at hl 1 rfl) ?_
  refine cq_putr (v := (some a0)) (ci := 3) (k := 1) (f := 15) hX hC rfl in_X3 (by decide) wd_132 (fun _ h9 => h9) tyX3 tyX3_ok nmX3 rfl rfl (fun _ _ => Nat.le_of_ble_eq_true rfl) (fun _ _ _ => rfl) dX3_read_2 h.1 h.2 (fun S1 H locs hC h => ?_)
  refine lv_aload_n hx hb dX3_read_5 rfl (lv_at hl 0 rfl) ?_
  refine cq_getr (ci := 3) (k := 1) (f := 15) hX hC rfl in_X3 (by decide) wd_132 (fun _ h9 => h9) (fun _ _ => rfl) dX3_read_6 h (fun z2 h => ?_)
  obtain ⟨q3, e9, hh⟩ := h
  subst e9
  have h := hh
  clear hh
  refine kv_callv [] (rest := []) (ci := 5) rfl hX hC h.1 (kt_X5_clear l S1 q3 _ h.2 E _) (cw_X3_33 hts (by omega) (by omega)) rfl hl.1 (Nat.le_of_ble_eq_true rfl) ⟨Nat.zero_le _, Nat.zero_le _⟩ dX3_read_9 (fun S4 H locs hC h => ?_)
  refine lv_aload_n hx hb dX3_read_12 rfl (lv_at hl 0 rfl) ?_
  refine lv_aload_n hx hb dX3_read_13 rfl (lv_at hl 0 rfl) ?_
  refine cq_getr (ci := 3) (k := 1) (f := 15) hX hC rfl in_X3 (by decide) wd_132 (fun _ h9 => h9) (fun _ _ => rfl) dX3_read_14 h (fun z5 h => ?_)
  obtain ⟨q6, e9, hh⟩ := h
  subst e9
  have h := hh
  clear hh
  refine cq_getr (ci := 5) (k := 4) (f := 31) hX hC rfl in_X5 (by decide) wd_410 (fun _ h9 => h9) (fun _ _ => rfl) dX3_read_17 h (fun z7 h => ?_)
  refine cq_putr (v := z7) (ci := 3) (k := 2) (f := 16) hX hC rfl in_X3 (by decide) wd_133 (fun _ h9 => h9) tyX3 tyX3_ok nmX3 rfl rfl (fun _ _ => Nat.le_of_ble_eq_true rfl) (fun _ _ _ => rfl) dX3_read_20 h.1 h.2 (fun S8 H locs hC h => ?_)
  refine lv_aload_n hx hb dX3_read_23 rfl (lv_at hl 0 rfl) ?_
  refine lv_iconst (v := 0) hx hb dX3_read_24 (by decide) ?_
  refine cq_puti (v := 0) (ci := 3) (k := 3) (f := 6) hX hC rfl in_X3 (by decide) wd_134 (fun _ h9 => h9) tyX3 tyX3_ok nmX3 rfl rfl rfl (fun _ _ => Nat.le_of_ble_eq_true rfl) (fun _ _ _ => rfl) dX3_read_25 h.1 h.2 (fun S9 H locs hC h => ?_)
  refine lv_aload_n hx hb dX3_read_28 rfl (lv_at hl 0 rfl) ?_
  refine lv_iconst (v := 0) hx hb dX3_read_29 (by decide) ?_
  refine cq_puti (v := 0) (ci := 3) (k := 4) (f := 7) hX hC rfl in_X3 (by decide) wd_135 (fun _ h9 => h9) tyX3 tyX3_ok nmX3 rfl rfl rfl (fun _ _ => Nat.le_of_ble_eq_true rfl) (fun _ _ _ => rfl) dX3_read_30 h.1 h.2 (fun S10 H locs hC h => ?_)
  refine lv_aload_n hx hb dX3_read_33 rfl (lv_at hl 0 rfl) ?_
  refine lv_iconst (v := -1) hx hb dX3_read_34 (by decide) ?_
  refine cq_puti (v := -1) (ci := 3) (k := 5) (f := 8) hX hC rfl in_X3 (by decide) wd_136 (fun _ h9 => h9) tyX3 tyX3_ok nmX3 rfl rfl rfl (fun _ _ => Nat.le_of_ble_eq_true rfl) (fun _ _ _ => rfl) dX3_read_35 h.1 h.2 (fun S11 H locs hC h => ?_)
  refine lv_aload_n hx hb dX3_read_38 rfl (lv_at hl 0 rfl) ?_
  refine lv_iconst (v := -1) hx hb dX3_read_39 (by decide) ?_
  refine cq_puti (v := -1) (ci := 3) (k := 6) (f := 9) hX hC rfl in_X3 (by decide) wd_137 (fun _ h9 => h9) tyX3 tyX3_ok nmX3 rfl rfl rfl (fun _ _ => Nat.le_of_ble_eq_true rfl) (fun _ _ _ => rfl) dX3_read_40 h.1 h.2 (fun S12 H locs hC h => ?_)
  refine lv_aload_n hx hb dX3_read_43 rfl (lv_at hl 0 rfl) ?_
  refine lv_iconst (v := 0) hx hb dX3_read_44 (by decide) ?_
  refine cq_puti (v := 0) (ci := 3) (k := 7) (f := 10) hX hC rfl in_X3 (by decide) wd_138 (fun _ h9 => h9) tyX3 tyX3_ok nmX3 rfl rfl rfl (fun _ _ => Nat.le_of_ble_eq_true rfl) (fun _ _ _ => rfl) dX3_read_45 h.1 h.2 (fun S13 H locs hC h => ?_)
  refine lv_aload_n hx hb dX3_read_48 rfl (lv_at hl 0 rfl) ?_
  refine lv_iconst (v := 0) hx hb dX3_read_49 (by decide) ?_
  refine cq_puti (v := 0) (ci := 3) (k := 8) (f := 11) hX hC rfl in_X3 (by decide) wd_139 (fun _ h9 => h9) tyX3 tyX3_ok nmX3 rfl rfl rfl (fun _ _ => Nat.le_of_ble_eq_true rfl) (fun _ _ _ => rfl) dX3_read_50 h.1 h.2 (fun S14 H locs hC h => ?_)
  refine lv_iconst (v := 0) hx hb dX3_read_53 (by decide) ?_
  refine lv_istore_n (lv' := [(2, .int 0), (0, .ref t0), (1, .ref a0)]) hx hb dX3_read_54 rfl hl (by decide) rfl (fun ls hl => ?_)
  obtain ⟨n9, h⟩ := h
  exact cut55 n9 t0 0 S14 _ _ _ h hC (lv_sub hl [1, 0] rfl)
def wp_X5_isStep (a0 : Int32) (S : kS) (K : kS → Int32 → Prop) : Prop := ∀ z1 : Int64, z1 = (Int64.toUInt64 7180648479 >>> ((Int32.toInt64 a0).toUInt64 &&& Int64.toUInt64 63)).toInt64 → ∀ z2 : Int64, z2 = z1 &&& 1 → ∀ z3 : Int32, z3 = lg_cmp z2 0 → ((z3 = 0 → K S 0) ∧ (¬ z3 = 0 → K S 1))
set_option maxHeartbeats 4000000 in
set_option maxRecDepth 100000 in
theorem kt_X5_isStep (l : Launch) (S : kS) (a0 : Int32) (K : kS → Int32 → Prop) (h : wp_X5_isStep a0 S K) : kMi l yX5_isStep cX5_isStep 1 (some .boolean) 0 0 [.int a0] S K := by
  refine kv_ofz (own := RX5) (by decide) rfl (Nat.le_of_ble_eq_true rfl) ?_
  intro E p e R s m args below meth c A ls Q hRf hRl hX hC hl hret
  have hx := hX.1.1
  have hb := hX.1.2.1
  have hown := hX.1.2.2.2.1
  have hts := hX.1.2.2.2.2
  have hl : lv_has ls 1 [(0, .int a0)] := hl
  unfold wp_X5_isStep at h
  refine lv_ldc2 (v := 7180648479) hx hb hown (hts _ wd_999) dX5_isStep_0 ?_
  refine lv_iload_n hx hb dX5_isStep_3 rfl (lv_at hl 0 rfl) ?_
  refine lq_lushr hx hb dX5_isStep_4 h (fun z1 h => ?_)
  refine lv_lconst (v := 1) hx hb dX5_isStep_5 (by decide) ?_
  refine lq_land hx hb dX5_isStep_6 h (fun z2 h => ?_)
  refine lv_lconst (v := 0) hx hb dX5_isStep_7 (by decide) ?_
  refine lq_lcmp hx hb dX5_isStep_8 h (fun z3 h => ?_)
  refine lv_if_eq (tgt := 16) hx hb dX5_isStep_9 (by decide) (fun c4 => ?_) (fun c4 => ?_)
  · have h := h.1 c4
    refine lv_iconst (v := 0) hx hb dX5_isStep_16 (by decide) ?_
    exact hret _ _ _ _ _ _ hC (Or.inl rfl) h dX5_isStep_17
  · have h := h.2 c4
    refine lv_iconst (v := 1) hx hb dX5_isStep_12 (by decide) ?_
    refine lv_goto (tgt := 17) hx hb dX5_isStep_13 (by decide) ?_
    exact hret _ _ _ _ _ _ hC (Or.inr rfl) h dX5_isStep_17
def wp_X5_scopeAt (t0 : Nat) (a0 : Int32) (S : kS) (K : kS → Int32 → Prop) : Prop := ((a0 < 0 → K S (-1)) ∧ (¬ a0 < 0 → hasO S t0 5 ∧ ∀ z2 : Int32, z2 = S.1 17 t0 → ((z2 ≤ a0 → K S (-1)) ∧ (¬ z2 ≤ a0 → hasO S t0 5 ∧ ∀ z4 : Option Nat, z4 = S.2.1 30 t0 → ∃ q5 : Nat, z4 = some q5 ∧ hasA S q5 8064 0 ∧ inR a0 8064 ∧ ∀ z6 : Int32, z6 = S.2.2.1 q5 (ix a0) → K S z6))))
set_option maxHeartbeats 4000000 in
set_option maxRecDepth 100000 in
theorem kt_X5_scopeAt (l : Launch) (S : kS) (t0 : Nat) (a0 : Int32) (K : kS → Int32 → Prop) (h : wp_X5_scopeAt t0 a0 S K) : kMi l yX5_scopeAt cX5_scopeAt 2 (some .int) 0 0 [.ref t0, .int a0] S K := by
  refine kv_ofi (own := RX5) (by decide) rfl (Nat.le_of_ble_eq_true rfl) ?_
  intro E p e R s m args below meth c A ls Q hRf hRl hX hC hl hret
  have hx := hX.1.1
  have hb := hX.1.2.1
  have hown := hX.1.2.2.2.1
  have hts := hX.1.2.2.2.2
  have hl : lv_has ls 2 [(0, .ref t0), (1, .int a0)] := hl
  unfold wp_X5_scopeAt at h
  refine lv_iload_n hx hb dX5_scopeAt_0 rfl (lv_at hl 1 rfl) ?_
  refine lv_if_lt (tgt := 21) hx hb dX5_scopeAt_1 (by decide) (fun c1 => ?_) (fun c1 => ?_)
  · have h := h.1 c1
    refine lv_iconst (v := -1) hx hb dX5_scopeAt_21 (by decide) ?_
    exact hret _ _ _ _ _ _ hC h dX5_scopeAt_22
  · have h := h.2 c1
    refine lv_iload_n hx hb dX5_scopeAt_4 rfl (lv_at hl 1 rfl) ?_
    refine lv_aload_n hx hb dX5_scopeAt_5 rfl (lv_at hl 0 rfl) ?_
    refine cq_geti (ci := 5) (k := 0) (f := 17) hX hC rfl in_X5 (by decide) wd_395 (fun _ h9 => h9) (fun _ _ => rfl) dX5_scopeAt_6 h (fun z2 h => ?_)
    refine lv_icmp_ge (tgt := 21) hx hb dX5_scopeAt_9 (by decide) (fun c3 => ?_) (fun c3 => ?_)
    · have h := h.1 c3
      refine lv_iconst (v := -1) hx hb dX5_scopeAt_21 (by decide) ?_
      exact hret _ _ _ _ _ _ hC h dX5_scopeAt_22
    · have h := h.2 c3
      refine lv_aload_n hx hb dX5_scopeAt_12 rfl (lv_at hl 0 rfl) ?_
      refine cq_getr (ci := 5) (k := 3) (f := 30) hX hC rfl in_X5 (by decide) wd_406 (fun _ h9 => h9) (fun _ _ => rfl) dX5_scopeAt_13 h (fun z4 h => ?_)
      refine lv_iload_n hx hb dX5_scopeAt_16 rfl (lv_at hl 1 rfl) ?_
      obtain ⟨q5, e9, hh⟩ := h
      subst e9
      have h := hh
      clear hh
      refine cq_ild hX hC dX5_scopeAt_17 h (fun z6 h => ?_)
      refine lv_goto (tgt := 22) hx hb dX5_scopeAt_18 (by decide) ?_
      exact hret _ _ _ _ _ _ hC h dX5_scopeAt_22
def wp_X6_tellAbout (t0 : Nat) (a0 : Nat) (S : kS) (K : kS → Prop) : Prop := hasO S a0 4 ∧ ∀ z1 : Option Nat, z1 = S.2.1 23 a0 → ((z1 = none → K S) ∧ (∀ q2 : Nat, z1 = some q2 → hasO S q2 4 ∧ ∀ z3 : Int32, z3 = S.1 13 q2 → ((¬ z3 = 0 → K S) ∧ (z3 = 0 → hasO S a0 4 ∧ ∀ z5 : Int32, z5 = S.1 13 a0 → hasO S a0 4 ∧ ∀ z6 : Int32, z6 = S.1 14 a0 → hasO S q2 4 ∧ wp_X4_hears q2 z5 z6 S (fun (S7 : kS) (r7 : Int32) => K S7)))))
theorem cw_X6_288 {R : Room} {s : State} {args : Array Value} {fr lo : Nat} (hts : ∀ w ∈ tb, w.before args s = true) (h1 : fr + 1 ≤ R.frames) (h2 : 8 + (3 + 11) + lo ≤ R.locals) : CallW R s args RX6 RX4 288 yX4_hears cX4_hears 3 (some .boolean) (.code yX4_hears cX4_hears 3 (some .boolean) :: tb) (mRm fr lo) 0 0 2 := cwV 2 hts (gd_V wd_1121 wd_1122 wd_1123 wd_23 wd_1124) rfl rfl rfl (by decide +kernel) ⟨h1, h2⟩
set_option maxHeartbeats 4000000 in
set_option maxRecDepth 100000 in
theorem kt_X6_tellAbout (l : Launch) (S : kS) (t0 : Nat) (a0 : Nat) (K : kS → Prop) (h : wp_X6_tellAbout t0 a0 S K) : kMv l yX6_tellAbout cX6_tellAbout 3 none 1 22 [.ref t0, .ref a0] S K := by
  refine kv_ofv (own := RX6) (by decide) rfl (Nat.le_of_ble_eq_true rfl) ?_
  intro E p e R s m args below meth c A ls Q hRf hRl hX hC hl hret
  have hx := hX.1.1
  have hb := hX.1.2.1
  have hown := hX.1.2.2.2.1
  have hts := hX.1.2.2.2.2
  have hl : lv_has ls 3 [(0, .ref t0), (1, .ref a0)] := hl
  unfold wp_X6_tellAbout at h
  refine lv_aload_n hx hb dX6_tellAbout_0 rfl (lv_at hl 1 rfl) ?_
  refine cq_getr (ci := 4) (k := 7) (f := 23) hX hC rfl in_X4 (by decide) wd_1076 (fun _ h9 => h9) (fun _ _ => rfl) dX6_tellAbout_1 h (fun z1 h => ?_)
  refine lo_astore_n (lv' := [(2, va_rf z1), (0, .ref t0), (1, .ref a0)]) hx hb dX6_tellAbout_4 rfl hl (by decide) (by rcases z1 with _ | _ <;> rfl) (fun ls hl => ?_)
  refine lo_aload_n hx hb dX6_tellAbout_5 rfl (lv_at hl 0 rfl) ?_
  rcases z1 with _ | q2
  · have h := h.1 rfl
    refine lv_ifnullN (tgt := 29) hx hb dX6_tellAbout_6 (by decide) ?_
    exact hret _ _ _ _ _ hC h dX6_tellAbout_29
  · have h := h.2 q2 rfl
    refine lv_ifnull hx hb dX6_tellAbout_6 ?_
    refine lv_aload_n hx hb dX6_tellAbout_9 rfl (lv_at hl 0 rfl) ?_
    refine cq_geti (ci := 4) (k := 2) (f := 13) hX hC rfl in_X4 (by decide) wd_1063 (fun _ h9 => h9) (fun _ _ => rfl) dX6_tellAbout_10 h (fun z3 h => ?_)
    refine lv_if_ne (tgt := 29) hx hb dX6_tellAbout_13 (by decide) (fun c4 => ?_) (fun c4 => ?_)
    · have h := h.1 c4
      exact hret _ _ _ _ _ hC h dX6_tellAbout_29
    · have h := h.2 c4
      refine lv_aload_n hx hb dX6_tellAbout_16 rfl (lv_at hl 0 rfl) ?_
      refine lv_aload_n hx hb dX6_tellAbout_17 rfl (lv_at hl 2 rfl) ?_
      refine cq_geti (ci := 4) (k := 2) (f := 13) hX hC rfl in_X4 (by decide) wd_1063 (fun _ h9 => h9) (fun _ _ => rfl) dX6_tellAbout_18 h (fun z5 h => ?_)
      refine lv_aload_n hx hb dX6_tellAbout_21 rfl (lv_at hl 2 rfl) ?_
      refine cq_geti (ci := 4) (k := 3) (f := 14) hX hC rfl in_X4 (by decide) wd_1066 (fun _ h9 => h9) (fun _ _ => rfl) dX6_tellAbout_22 h (fun z6 h => ?_)
      refine kv_calli [.int z5, .int z6] (rest := []) (ci := 4) rfl hX hC h.1 (kt_X4_hears l S q2 z5 z6 _ h.2 E _) (cw_X6_288 hts (by omega) (by omega)) rfl hl.1 (Nat.le_of_ble_eq_true rfl) ⟨Nat.zero_le _, Nat.zero_le _⟩ dX6_tellAbout_25 (fun r7 S7 H locs hC h => ?_)
      refine lv_pop hx hb dX6_tellAbout_28 rfl ?_
      exact hret _ _ _ _ _ hC h dX6_tellAbout_29
def wp_X6_closePart_67 (K : kS → Prop) (x0 : Nat) (x2 : Nat) (S : kS) : Prop := hasO S x2 4 ∧ ∀ z17 : Int32, z17 = S.1 13 x2 → ((z17 = 0 → K S) ∧ (¬ z17 = 0 → hasO S x0 6 ∧ wp_X6_tellAbout x0 x2 S (fun (S19 : kS) => K S19)))
def wp_X6_closePart (t0 : Nat) (a0 : Nat) (S : kS) (K : kS → Prop) : Prop := hasO S a0 9 ∧ ∀ z1 : Option Nat, z1 = S.2.1 63 a0 → ((z1 = none → K S) ∧ (∀ q2 : Nat, z1 = some q2 → hasO S q2 4 ∧ ∀ z3 : Option Nat, z3 = S.2.1 23 q2 → hasO S a0 9 ∧ ∀ S4 : kS, S4 = cR S 63 a0 z3 → hasO S4 q2 4 ∧ ∀ z5 : Int32, z5 = S4.1 12 q2 → ((¬ z5 = 6 → wp_X6_closePart_67 K t0 q2 S4) ∧ (z5 = 6 → hasO S4 q2 4 ∧ ∀ z7 : Int32, z7 = S4.1 13 q2 → ((¬ z7 = 0 → wp_X6_closePart_67 K t0 q2 S4) ∧ (z7 = 0 → hasO S4 q2 4 ∧ ∀ z9 : Int32, z9 = S4.1 15 q2 → ((z9 ≤ 0 → hasO S4 q2 4 ∧ ∀ S11 : kS, S11 = cI S4 13 q2 2 → hasO S11 q2 4 ∧ ∀ S12 : kS, S12 = cI S11 14 q2 21 → wp_X6_closePart_67 K t0 q2 S12) ∧ (¬ z9 ≤ 0 → hasO S4 t0 6 ∧ ∀ z13 : Option Nat, z13 = S4.2.1 41 t0 → hasO S4 q2 4 ∧ ∀ z14 : Int32, z14 = S4.1 15 q2 → ∃ q15 : Nat, z13 = some q15 ∧ hasO S4 q15 1 ∧ wp_X1_setAlarm q15 q2 z14 S4 (fun (S16 : kS) => wp_X6_closePart_67 K t0 q2 S16)))))))))
theorem cw_X6_260 {R : Room} {s : State} {args : Array Value} {fr lo : Nat} (hts : ∀ w ∈ tb, w.before args s = true) (h1 : fr + 1 ≤ R.frames) (h2 : 8 + (3 + 11) + lo ≤ R.locals) : CallW R s args RX6 RX1 260 yX1_setAlarm cX1_setAlarm 3 none (.code yX1_setAlarm cX1_setAlarm 3 none :: tb) (mRm fr lo) 0 0 2 := cwV 2 hts (gd_V wd_1133 wd_1134 wd_1135 wd_9 wd_1136) rfl rfl rfl (by decide +kernel) ⟨h1, h2⟩
theorem cw_X6_284 {R : Room} {s : State} {args : Array Value} {fr lo : Nat} (hts : ∀ w ∈ tb, w.before args s = true) (h1 : fr + 1 ≤ R.frames) (h2 : 8 + (3 + 11) + lo ≤ R.locals) : CallW R s args RX6 RX6 284 yX6_tellAbout cX6_tellAbout 3 none (.code yX6_tellAbout cX6_tellAbout 3 none :: tb) (mRm fr lo) 0 0 1 := cwV 1 hts (gd_V wd_1117 wd_1119 sl_X6_tellAbout wd_12 wd_1120) rfl rfl rfl (by decide +kernel) ⟨h1, h2⟩
set_option maxHeartbeats 4000000 in
set_option maxRecDepth 100000 in
theorem kt_X6_closePart (l : Launch) (S : kS) (t0 : Nat) (a0 : Nat) (K : kS → Prop) (h : wp_X6_closePart t0 a0 S K) : kMv l yX6_closePart cX6_closePart 3 none 2 45 [.ref t0, .ref a0] S K := by
  refine kv_ofv (own := RX6) (by decide) rfl (Nat.le_of_ble_eq_true rfl) ?_
  intro E p e R s m args below meth c A ls Q hRf hRl hX hC hl hret
  have hx := hX.1.1
  have hb := hX.1.2.1
  have hown := hX.1.2.2.2.1
  have hts := hX.1.2.2.2.2
  have cut67 : ∀ (x0 : Nat) (x2 : Nat) (S : kS) (H : Heap) (locs : List Loc) (ls : Array Slot), wp_X6_closePart_67 K x0 x2 S → cM E A s.heap S H locs → lv_has ls 3 [(0, .ref x0), (2, .ref x2)] → W p l e R s m args below meth c H locs 0 0 Q (F0 m 67 ls []) := by
    intro x0 x2 S H locs ls h hC hl
    unfold wp_X6_closePart_67 at h
    refine lv_aload_n hx hb dX6_closePart_67 rfl (lv_at hl 1 rfl) ?_
    refine cq_geti (ci := 4) (k := 2) (f := 13) hX hC rfl in_X4 (by decide) wd_1063 (fun _ h9 => h9) (fun _ _ => rfl) dX6_closePart_68 h (fun z17 h => ?_)
    refine lv_if_eq (tgt := 79) hx hb dX6_closePart_71 (by decide) (fun c18 => ?_) (fun c18 => ?_)
    · have h := h.1 c18
      exact hret _ _ _ _ _ hC h dX6_closePart_79
    · have h := h.2 c18
      refine lv_aload_n hx hb dX6_closePart_74 rfl (lv_at hl 0 rfl) ?_
      refine lv_aload_n hx hb dX6_closePart_75 rfl (lv_at hl 1 rfl) ?_
      refine kv_callv [.ref x2] (rest := []) (ci := 6) rfl hX hC h.1 (kt_X6_tellAbout l S x0 x2 _ h.2 E _) (cw_X6_284 hts (by omega) (by omega)) rfl hl.1 (Nat.le_of_ble_eq_true rfl) ⟨Nat.zero_le _, Nat.zero_le _⟩ dX6_closePart_76 (fun S19 H locs hC h => ?_)
      exact hret _ _ _ _ _ hC h dX6_closePart_79
  have hl : lv_has ls 3 [(0, .ref t0), (1, .ref a0)] := hl
  unfold wp_X6_closePart at h
  refine lv_aload_n hx hb dX6_closePart_0 rfl (lv_at hl 1 rfl) ?_
  refine cq_getr (ci := 9) (k := 16) (f := 63) hX hC rfl in_X9 (by decide) wd_901 (fun _ h9 => h9) (fun _ _ => rfl) dX6_closePart_1 h (fun z1 h => ?_)
  refine lo_astore_n (lv' := [(2, va_rf z1), (0, .ref t0), (1, .ref a0)]) hx hb dX6_closePart_4 rfl hl (by decide) (by rcases z1 with _ | _ <;> rfl) (fun ls hl => ?_)
  refine lo_aload_n hx hb dX6_closePart_5 rfl (lv_at hl 0 rfl) ?_
  rcases z1 with _ | q2
  · have h := h.1 rfl
    refine lv_ifnonnullN hx hb dX6_closePart_6 ?_
    exact hret _ _ _ _ _ hC h dX6_closePart_9
  · have h := h.2 q2 rfl
    refine lv_ifnonnull (tgt := 10) hx hb dX6_closePart_6 (by decide) ?_
    refine lv_aload_n hx hb dX6_closePart_10 rfl (lv_at hl 2 rfl) ?_
    refine lv_aload_n hx hb dX6_closePart_11 rfl (lv_at hl 0 rfl) ?_
    refine cq_getr (ci := 4) (k := 7) (f := 23) hX hC rfl in_X4 (by decide) wd_1076 (fun _ h9 => h9) (fun _ _ => rfl) dX6_closePart_12 h (fun z3 h => ?_)
    refine cq_putr (v := z3) (ci := 9) (k := 16) (f := 63) hX hC rfl in_X9 (by decide) wd_901 (fun _ h9 => h9) tyX9 tyX9_ok nmX9 rfl rfl (fun _ _ => Nat.le_of_ble_eq_true rfl) (fun _ _ _ => rfl) dX6_closePart_15 h.1 h.2 (fun S4 H locs hC h => ?_)
    refine lv_aload_n hx hb dX6_closePart_18 rfl (lv_at hl 0 rfl) ?_
    refine cq_geti (ci := 4) (k := 1) (f := 12) hX hC rfl in_X4 (by decide) wd_1060 (fun _ h9 => h9) (fun _ _ => rfl) dX6_closePart_19 h (fun z5 h => ?_)
    refine lv_bipush (v := 6) hx hb dX6_closePart_22 (by decide) ?_
    refine lv_icmp_ne (tgt := 67) hx hb dX6_closePart_24 (by decide) (fun c6 => ?_) (fun c6 => ?_)
    · have h := h.1 c6
      exact cut67 t0 q2 S4 _ _ _ h hC (lv_sub hl [1, 0] rfl)
    · have h := h.2 c6
      refine lv_aload_n hx hb dX6_closePart_27 rfl (lv_at hl 0 rfl) ?_
      refine cq_geti (ci := 4) (k := 2) (f := 13) hX hC rfl in_X4 (by decide) wd_1063 (fun _ h9 => h9) (fun _ _ => rfl) dX6_closePart_28 h (fun z7 h => ?_)
      refine lv_if_ne (tgt := 67) hx hb dX6_closePart_31 (by decide) (fun c8 => ?_) (fun c8 => ?_)
      · have h := h.1 c8
        exact cut67 t0 q2 S4 _ _ _ h hC (lv_sub hl [1, 0] rfl)
      · have h := h.2 c8
        refine lv_aload_n hx hb dX6_closePart_34 rfl (lv_at hl 0 rfl) ?_
        refine cq_geti (ci := 4) (k := 4) (f := 15) hX hC rfl in_X4 (by decide) wd_1069 (fun _ h9 => h9) (fun _ _ => rfl) dX6_closePart_35 h (fun z9 h => ?_)
        refine lv_if_le (tgt := 56) hx hb dX6_closePart_38 (by decide) (fun c10 => ?_) (fun c10 => ?_)
        · have h := h.1 c10
          refine lv_aload_n hx hb dX6_closePart_56 rfl (lv_at hl 0 rfl) ?_
          refine lv_iconst (v := 2) hx hb dX6_closePart_57 (by decide) ?_
          refine cq_puti (v := 2) (ci := 4) (k := 2) (f := 13) hX hC rfl in_X4 (by decide) wd_1063 (fun _ h9 => h9) tyX4 tyX4_ok nmX4 rfl rfl rfl (fun _ _ => Nat.le_of_ble_eq_true rfl) (fun _ _ _ => rfl) dX6_closePart_58 h.1 h.2 (fun S11 H locs hC h => ?_)
          refine lv_aload_n hx hb dX6_closePart_61 rfl (lv_at hl 0 rfl) ?_
          refine lv_bipush (v := 21) hx hb dX6_closePart_62 (by decide) ?_
          refine cq_puti (v := 21) (ci := 4) (k := 3) (f := 14) hX hC rfl in_X4 (by decide) wd_1066 (fun _ h9 => h9) tyX4 tyX4_ok nmX4 rfl rfl rfl (fun _ _ => Nat.le_of_ble_eq_true rfl) (fun _ _ _ => rfl) dX6_closePart_64 h.1 h.2 (fun S12 H locs hC h => ?_)
          exact cut67 t0 q2 S12 _ _ _ h hC (lv_sub hl [1, 0] rfl)
        · have h := h.2 c10
          refine lv_aload_n hx hb dX6_closePart_41 rfl (lv_at hl 1 rfl) ?_
          refine cq_getr (ci := 6) (k := 3) (f := 41) hX hC rfl in_X6 (by decide) wd_307 (fun _ h9 => h9) (fun _ _ => rfl) dX6_closePart_42 h (fun z13 h => ?_)
          refine lv_aload_n hx hb dX6_closePart_45 rfl (lv_at hl 0 rfl) ?_
          refine lv_aload_n hx hb dX6_closePart_46 rfl (lv_at hl 0 rfl) ?_
          refine cq_geti (ci := 4) (k := 4) (f := 15) hX hC rfl in_X4 (by decide) wd_1069 (fun _ h9 => h9) (fun _ _ => rfl) dX6_closePart_47 h (fun z14 h => ?_)
          obtain ⟨q15, e9, hh⟩ := h
          subst e9
          have h := hh
          clear hh
          refine kv_callv [.ref q2, .int z14] (rest := []) (ci := 1) rfl hX hC h.1 (kt_X1_setAlarm l S4 q15 q2 z14 _ h.2 E _) (cw_X6_260 hts (by omega) (by omega)) rfl hl.1 (Nat.le_of_ble_eq_true rfl) ⟨Nat.zero_le _, Nat.zero_le _⟩ dX6_closePart_50 (fun S16 H locs hC h => ?_)
          refine lv_goto (tgt := 67) hx hb dX6_closePart_53 (by decide) ?_
          exact cut67 t0 q2 S16 _ _ _ h hC (lv_sub hl [1, 0] rfl)
def wp_X6_come (t0 : Nat) (a0 : Nat) (a1 : Int32) (S : kS) (K : kS → Prop) : Prop := hasO S a0 4 ∧ ∀ S1 : kS, S1 = cI S 13 a0 1 → hasO S1 a0 4 ∧ ∀ S2 : kS, S2 = cI S1 14 a0 a1 → hasO S2 t0 6 ∧ wp_X6_tellAbout t0 a0 S2 (fun (S3 : kS) => K S3)
set_option maxHeartbeats 4000000 in
set_option maxRecDepth 100000 in
theorem kt_X6_come (l : Launch) (S : kS) (t0 : Nat) (a0 : Nat) (a1 : Int32) (K : kS → Prop) (h : wp_X6_come t0 a0 a1 S K) : kMv l yX6_come cX6_come 3 none 2 44 [.ref t0, .ref a0, .int a1] S K := by
  refine kv_ofv (own := RX6) (by decide) rfl (Nat.le_of_ble_eq_true rfl) ?_
  intro E p e R s m args below meth c A ls Q hRf hRl hX hC hl hret
  have hx := hX.1.1
  have hb := hX.1.2.1
  have hown := hX.1.2.2.2.1
  have hts := hX.1.2.2.2.2
  have hl : lv_has ls 3 [(0, .ref t0), (1, .ref a0), (2, .int a1)] := hl
  unfold wp_X6_come at h
  refine lv_aload_n hx hb dX6_come_0 rfl (lv_at hl 1 rfl) ?_
  refine lv_iconst (v := 1) hx hb dX6_come_1 (by decide) ?_
  refine cq_puti (v := 1) (ci := 4) (k := 2) (f := 13) hX hC rfl in_X4 (by decide) wd_1063 (fun _ h9 => h9) tyX4 tyX4_ok nmX4 rfl rfl rfl (fun _ _ => Nat.le_of_ble_eq_true rfl) (fun _ _ _ => rfl) dX6_come_2 h.1 h.2 (fun S1 H locs hC h => ?_)
  refine lv_aload_n hx hb dX6_come_5 rfl (lv_at hl 1 rfl) ?_
  refine lv_iload_n hx hb dX6_come_6 rfl (lv_at hl 2 rfl) ?_
  refine cq_puti (v := a1) (ci := 4) (k := 3) (f := 14) hX hC rfl in_X4 (by decide) wd_1066 (fun _ h9 => h9) tyX4 tyX4_ok nmX4 rfl rfl rfl (fun _ _ => Nat.le_of_ble_eq_true rfl) (fun _ _ _ => rfl) dX6_come_7 h.1 h.2 (fun S2 H locs hC h => ?_)
  refine lv_aload_n hx hb dX6_come_10 rfl (lv_at hl 0 rfl) ?_
  refine lv_aload_n hx hb dX6_come_11 rfl (lv_at hl 1 rfl) ?_
  refine kv_callv [.ref a0] (rest := []) (ci := 6) rfl hX hC h.1 (kt_X6_tellAbout l S2 t0 a0 _ h.2 E _) (cw_X6_284 hts (by omega) (by omega)) rfl hl.1 (Nat.le_of_ble_eq_true rfl) ⟨Nat.zero_le _, Nat.zero_le _⟩ dX6_come_12 (fun S3 H locs hC h => ?_)
  exact hret _ _ _ _ _ hC h dX6_come_15
def wp_X6_end (t0 : Nat) (a0 : Nat) (a1 : Int32) (a2 : Int32) (S : kS) (K : kS → Prop) : Prop := hasO S a0 9 ∧ ∀ S1 : kS, S1 = cI S 31 a0 a1 → hasO S1 a0 9 ∧ ∀ S2 : kS, S2 = cI S1 32 a0 a2 → hasO S2 t0 6 ∧ ∀ S3 : kS, S3 = cI S2 22 t0 3 → K S3
set_option maxHeartbeats 4000000 in
set_option maxRecDepth 100000 in
theorem kt_X6_end (l : Launch) (S : kS) (t0 : Nat) (a0 : Nat) (a1 : Int32) (a2 : Int32) (K : kS → Prop) (h : wp_X6_end t0 a0 a1 a2 S K) : kMv l yX6_end cX6_end 4 none 0 0 [.ref t0, .ref a0, .int a1, .int a2] S K := by
  refine kv_ofv (own := RX6) (by decide) rfl (Nat.le_of_ble_eq_true rfl) ?_
  intro E p e R s m args below meth c A ls Q hRf hRl hX hC hl hret
  have hx := hX.1.1
  have hb := hX.1.2.1
  have hown := hX.1.2.2.2.1
  have hts := hX.1.2.2.2.2
  have hl : lv_has ls 4 [(0, .ref t0), (1, .ref a0), (2, .int a1), (3, .int a2)] := hl
  unfold wp_X6_end at h
  refine lv_aload_n hx hb dX6_end_0 rfl (lv_at hl 1 rfl) ?_
  refine lv_iload_n hx hb dX6_end_1 rfl (lv_at hl 2 rfl) ?_
  refine cq_puti (v := a1) (ci := 9) (k := 5) (f := 31) hX hC rfl in_X9 (by decide) wd_878 (fun _ h9 => h9) tyX9 tyX9_ok nmX9 rfl rfl rfl (fun _ _ => Nat.le_of_ble_eq_true rfl) (fun _ _ _ => rfl) dX6_end_2 h.1 h.2 (fun S1 H locs hC h => ?_)
  refine lv_aload_n hx hb dX6_end_5 rfl (lv_at hl 1 rfl) ?_
  refine lv_iload_n hx hb dX6_end_6 rfl (lv_at hl 3 rfl) ?_
  refine cq_puti (v := a2) (ci := 9) (k := 6) (f := 32) hX hC rfl in_X9 (by decide) wd_881 (fun _ h9 => h9) tyX9 tyX9_ok nmX9 rfl rfl rfl (fun _ _ => Nat.le_of_ble_eq_true rfl) (fun _ _ _ => rfl) dX6_end_7 h.1 h.2 (fun S2 H locs hC h => ?_)
  refine lv_aload_n hx hb dX6_end_10 rfl (lv_at hl 0 rfl) ?_
  refine lv_iconst (v := 3) hx hb dX6_end_11 (by decide) ?_
  refine cq_puti (v := 3) (ci := 6) (k := 6) (f := 22) hX hC rfl in_X6 (by decide) wd_310 (fun _ h9 => h9) tyX6 tyX6_ok nmX6 rfl rfl rfl (fun _ _ => Nat.le_of_ble_eq_true rfl) (fun _ _ _ => rfl) dX6_end_12 h.1 h.2 (fun S3 H locs hC h => ?_)
  exact hret _ _ _ _ _ hC h dX6_end_15
