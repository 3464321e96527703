theorem wd_7 : (Jvm.Cond.initialized "Sleepers$Parser") ∈ tb := tb_at 7 (by decide +kernel) (by decide +kernel)
theorem wd_95 : (Jvm.Cond.fieldLink "Sleepers$Parser" (84 : Nat) "Sleepers$Tokens" "kind" "[I") ∈ tb := tb_at 95 (by decide +kernel) (by decide +kernel)
theorem wd_132 : (Jvm.Cond.fieldLink "Sleepers$Parser" (29 : Nat) "Sleepers$Parser" "program" "LSleepers$Program;") ∈ tb := tb_at 132 (by decide +kernel) (by decide +kernel)
theorem wd_133 : (Jvm.Cond.fieldLink "Sleepers$Parser" (42 : Nat) "Sleepers$Parser" "scopes" "LSleepers$Scopes;") ∈ tb := tb_at 133 (by decide +kernel) (by decide +kernel)
theorem wd_134 : (Jvm.Cond.fieldLink "Sleepers$Parser" (43 : Nat) "Sleepers$Parser" "at" "I") ∈ tb := tb_at 134 (by decide +kernel) (by decide +kernel)
theorem wd_135 : (Jvm.Cond.fieldLink "Sleepers$Parser" (47 : Nat) "Sleepers$Parser" "fault" "I") ∈ tb := tb_at 135 (by decide +kernel) (by decide +kernel)
theorem wd_136 : (Jvm.Cond.fieldLink "Sleepers$Parser" (50 : Nat) "Sleepers$Parser" "scope" "I") ∈ tb := tb_at 136 (by decide +kernel) (by decide +kernel)
theorem wd_137 : (Jvm.Cond.fieldLink "Sleepers$Parser" (53 : Nat) "Sleepers$Parser" "loop" "I") ∈ tb := tb_at 137 (by decide +kernel) (by decide +kernel)
theorem wd_138 : (Jvm.Cond.fieldLink "Sleepers$Parser" (56 : Nat) "Sleepers$Parser" "finishes" "I") ∈ tb := tb_at 138 (by decide +kernel) (by decide +kernel)
theorem wd_139 : (Jvm.Cond.fieldLink "Sleepers$Parser" (59 : Nat) "Sleepers$Parser" "children" "I") ∈ tb := tb_at 139 (by decide +kernel) (by decide +kernel)
theorem wd_209 : (Jvm.Cond.fieldLink "Sleepers$Hall" (183 : Nat) "Sleepers$Line" "first" "LSleepers$Part;") ∈ tb := tb_at 209 (by decide +kernel) (by decide +kernel)
theorem wd_410 : (Jvm.Cond.fieldLink "Sleepers$Parser" (38 : Nat) "Sleepers$Program" "scopes" "LSleepers$Scopes;") ∈ tb := tb_at 410 (by decide +kernel) (by decide +kernel)
theorem wd_600 : (Jvm.Cond.methodLink "Sleepers$Parser" (33 : Nat) ({ cls := "Sleepers$Program", name := "clear", desc := "()V" } : Jvm.MethodName)) ∈ tb := tb_at 600 (by decide +kernel) (by decide +kernel)
theorem wd_601 : (Jvm.Cond.instanceMethod ({ cls := "Sleepers$Program", name := "clear", desc := "()V" } : Jvm.MethodName)) ∈ tb := tb_at 601 (by decide +kernel) (by decide +kernel)
theorem wd_602 : (Jvm.Cond.selects "Sleepers$Program" ({ cls := "Sleepers$Program", name := "clear", desc := "()V" } : Jvm.MethodName) ({ cls := "Sleepers$Program", name := "clear", desc := "()V" } : Jvm.MethodName)) ∈ tb := tb_at 602 (by decide +kernel) (by decide +kernel)
theorem wd_603 : (Jvm.Cond.code ({ cls := "Sleepers$Program", name := "clear", desc := "()V" } : Jvm.MethodName) prog_7_method_2_code (1 : Nat) (Option.none : Option Jvm.ClassFile.FieldType)) ∈ tb := tb_at 603 (by decide +kernel) (by decide +kernel)
theorem wd_608 : (Jvm.Cond.methodLink "Sleepers$Parser" (62 : Nat) ({ cls := "Sleepers$Parser", name := "kind", desc := "()I" } : Jvm.MethodName)) ∈ tb := tb_at 608 (by decide +kernel) (by decide +kernel)
theorem wd_610 : (Jvm.Cond.instanceMethod ({ cls := "Sleepers$Parser", name := "kind", desc := "()I" } : Jvm.MethodName)) ∈ tb := tb_at 610 (by decide +kernel) (by decide +kernel)
theorem wd_611 : (Jvm.Cond.code ({ cls := "Sleepers$Parser", name := "kind", desc := "()I" } : Jvm.MethodName) prog_5_method_3_code (1 : Nat) (Option.some Jvm.ClassFile.FieldType.int)) ∈ tb := tb_at 611 (by decide +kernel) (by decide +kernel)
theorem wd_771 : (Jvm.Cond.methodLink "Sleepers$Parser" (81 : Nat) ({ cls := "Sleepers$Parser", name := "findChildren", desc := "()V" } : Jvm.MethodName)) ∈ tb := tb_at 771 (by decide +kernel) (by decide +kernel)
theorem wd_773 : (Jvm.Cond.instanceMethod ({ cls := "Sleepers$Parser", name := "findChildren", desc := "()V" } : Jvm.MethodName)) ∈ tb := tb_at 773 (by decide +kernel) (by decide +kernel)
theorem wd_774 : (Jvm.Cond.code ({ cls := "Sleepers$Parser", name := "findChildren", desc := "()V" } : Jvm.MethodName) prog_5_method_25_code (3 : Nat) (Option.none : Option Jvm.ClassFile.FieldType)) ∈ tb := tb_at 774 (by decide +kernel) (by decide +kernel)
theorem wd_1180 : (Jvm.Cond.constant "Sleepers$Hall" (193 : Nat) (1000000 : Int32)) ∈ tb := tb_at 1180 (by decide +kernel) (by decide +kernel)
theorem sl_X3_findChildren : Cond.selects RX3 yX3_findChildren yX3_findChildren ∈ tb := sl_of (y := ⟨"Sleepers$Parser", "findChildren", "()V"⟩) (n := 13) (by decide +kernel) (by decide +kernel)
theorem sl_X3_kind : Cond.selects RX3 yX3_kind yX3_kind ∈ tb := sl_of (y := ⟨"Sleepers$Parser", "kind", "()I"⟩) (n := 13) (by decide +kernel) (by decide +kernel)
theorem dX1_deliver_0 : decode cX1_deliver 0 = .ok (.iload_n 1, 1) := by decide +kernel
theorem dX1_deliver_1 : decode cX1_deliver 1 = .ok (.ifCond .lt 20, 3) := by decide +kernel
theorem dX1_deliver_4 : decode cX1_deliver 4 = .ok (.iload_n 1, 1) := by decide +kernel
theorem dX1_deliver_5 : decode cX1_deliver 5 = .ok (.bipush 8, 2) := by decide +kernel
theorem dX1_deliver_7 : decode cX1_deliver 7 = .ok (.if_icmp .ge 14, 3) := by decide +kernel
theorem dX1_deliver_10 : decode cX1_deliver 10 = .ok (.aload_n 0, 1) := by decide +kernel
theorem dX1_deliver_11 : decode cX1_deliver 11 = .ok (.getfield 24, 3) := by decide +kernel
theorem dX1_deliver_14 : decode cX1_deliver 14 = .ok (.iload_n 1, 1) := by decide +kernel
theorem dX1_deliver_15 : decode cX1_deliver 15 = .ok (.iaload, 1) := by decide +kernel
theorem dX1_deliver_16 : decode cX1_deliver 16 = .ok (.bipush 50, 2) := by decide +kernel
theorem dX1_deliver_18 : decode cX1_deliver 18 = .ok (.if_icmp .lt 6, 3) := by decide +kernel
theorem dX1_deliver_21 : decode cX1_deliver 21 = .ok (.bipush (-2), 2) := by decide +kernel
theorem dX1_deliver_23 : decode cX1_deliver 23 = .ok (.ireturn, 1) := by decide +kernel
theorem dX1_deliver_24 : decode cX1_deliver 24 = .ok (.aload_n 0, 1) := by decide +kernel
theorem dX1_deliver_25 : decode cX1_deliver 25 = .ok (.getfield 29, 3) := by decide +kernel
theorem dX1_deliver_28 : decode cX1_deliver 28 = .ok (.iload_n 1, 1) := by decide +kernel
theorem dX1_deliver_29 : decode cX1_deliver 29 = .ok (.aaload, 1) := by decide +kernel
theorem dX1_deliver_30 : decode cX1_deliver 30 = .ok (.getfield 183, 3) := by decide +kernel
theorem dX1_deliver_33 : decode cX1_deliver 33 = .ok (.astore_n 3, 1) := by decide +kernel
theorem dX1_deliver_34 : decode cX1_deliver 34 = .ok (.aload_n 3, 1) := by decide +kernel
theorem dX1_deliver_35 : decode cX1_deliver 35 = .ok (.ifnonnull 32, 3) := by decide +kernel
theorem dX1_deliver_38 : decode cX1_deliver 38 = .ok (.aload_n 0, 1) := by decide +kernel
theorem dX1_deliver_39 : decode cX1_deliver 39 = .ok (.getfield 21, 3) := by decide +kernel
theorem dX1_deliver_42 : decode cX1_deliver 42 = .ok (.iload_n 1, 1) := by decide +kernel
theorem dX1_deliver_43 : decode cX1_deliver 43 = .ok (.bipush 50, 2) := by decide +kernel
theorem dX1_deliver_45 : decode cX1_deliver 45 = .ok (.imul, 1) := by decide +kernel
theorem dX1_deliver_46 : decode cX1_deliver 46 = .ok (.aload_n 0, 1) := by decide +kernel
theorem dX1_deliver_47 : decode cX1_deliver 47 = .ok (.getfield 24, 3) := by decide +kernel
theorem dX1_deliver_50 : decode cX1_deliver 50 = .ok (.iload_n 1, 1) := by decide +kernel
theorem dX1_deliver_51 : decode cX1_deliver 51 = .ok (.iaload, 1) := by decide +kernel
theorem dX1_deliver_52 : decode cX1_deliver 52 = .ok (.iadd, 1) := by decide +kernel
theorem dX1_deliver_53 : decode cX1_deliver 53 = .ok (.iload_n 2, 1) := by decide +kernel
theorem dX1_deliver_54 : decode cX1_deliver 54 = .ok (.iastore, 1) := by decide +kernel
theorem dX1_deliver_55 : decode cX1_deliver 55 = .ok (.aload_n 0, 1) := by decide +kernel
theorem dX1_deliver_56 : decode cX1_deliver 56 = .ok (.getfield 24, 3) := by decide +kernel
theorem dX1_deliver_59 : decode cX1_deliver 59 = .ok (.iload_n 1, 1) := by decide +kernel
theorem dX1_deliver_60 : decode cX1_deliver 60 = .ok (.dup2, 1) := by decide +kernel
theorem dX1_deliver_61 : decode cX1_deliver 61 = .ok (.iaload, 1) := by decide +kernel
theorem dX1_deliver_62 : decode cX1_deliver 62 = .ok (.iconst 1, 1) := by decide +kernel
theorem dX1_deliver_63 : decode cX1_deliver 63 = .ok (.iadd, 1) := by decide +kernel
theorem dX1_deliver_64 : decode cX1_deliver 64 = .ok (.iastore, 1) := by decide +kernel
theorem dX1_deliver_65 : decode cX1_deliver 65 = .ok (.iconst (-1), 1) := by decide +kernel
theorem dX1_deliver_66 : decode cX1_deliver 66 = .ok (.ireturn, 1) := by decide +kernel
theorem dX1_deliver_67 : decode cX1_deliver 67 = .ok (.aload_n 0, 1) := by decide +kernel
theorem dX1_deliver_68 : decode cX1_deliver 68 = .ok (.aload_n 3, 1) := by decide +kernel
theorem dX1_deliver_69 : decode cX1_deliver 69 = .ok (.iconst 1, 1) := by decide +kernel
theorem dX1_deliver_70 : decode cX1_deliver 70 = .ok (.iload_n 2, 1) := by decide +kernel
theorem dX1_deliver_71 : decode cX1_deliver 71 = .ok (.invokevirtual 186, 3) := by decide +kernel
theorem dX1_deliver_74 : decode cX1_deliver 74 = .ok (.aload_n 0, 1) := by decide +kernel
theorem dX1_deliver_75 : decode cX1_deliver 75 = .ok (.invokevirtual 190, 3) := by decide +kernel
theorem dX1_deliver_78 : decode cX1_deliver 78 = .ok (.aload_n 3, 1) := by decide +kernel
theorem dX1_deliver_79 : decode cX1_deliver 79 = .ok (.getfield 138, 3) := by decide +kernel
theorem dX1_deliver_82 : decode cX1_deliver 82 = .ok (.getfield 125, 3) := by decide +kernel
theorem dX1_deliver_85 : decode cX1_deliver 85 = .ok (.ireturn, 1) := by decide +kernel
theorem dX1_pass_0 : decode cX1_pass 0 = .ok (.aload_n 0, 1) := by decide +kernel
theorem dX1_pass_1 : decode cX1_pass 1 = .ok (.getfield 66, 3) := by decide +kernel
theorem dX1_pass_4 : decode cX1_pass 4 = .ok (.iload_n 1, 1) := by decide +kernel
theorem dX1_pass_5 : decode cX1_pass 5 = .ok (.iadd, 1) := by decide +kernel
theorem dX1_pass_6 : decode cX1_pass 6 = .ok (.istore_n 2, 1) := by decide +kernel
theorem dX1_pass_7 : decode cX1_pass 7 = .ok (.iconst 0, 1) := by decide +kernel
theorem dX1_pass_8 : decode cX1_pass 8 = .ok (.istore_n 3, 1) := by decide +kernel
theorem dX1_pass_9 : decode cX1_pass 9 = .ok (.iload_n 3, 1) := by decide +kernel
theorem dX1_pass_10 : decode cX1_pass 10 = .ok (.ldc 193, 2) := by decide +kernel
theorem dX1_pass_12 : decode cX1_pass 12 = .ok (.if_icmp .ge 78, 3) := by decide +kernel
theorem dX1_pass_15 : decode cX1_pass 15 = .ok (.aload_n 0, 1) := by decide +kernel
theorem dX1_pass_16 : decode cX1_pass 16 = .ok (.getfield 34, 3) := by decide +kernel
theorem dX1_pass_19 : decode cX1_pass 19 = .ok (.getfield 183, 3) := by decide +kernel
theorem dX1_pass_22 : decode cX1_pass 22 = .ok (.astore 4, 2) := by decide +kernel
theorem dX1_pass_24 : decode cX1_pass 24 = .ok (.aload 4, 2) := by decide +kernel
theorem dX1_pass_26 : decode cX1_pass 26 = .ok (.ifnull 64, 3) := by decide +kernel
theorem dX1_pass_29 : decode cX1_pass 29 = .ok (.aload 4, 2) := by decide +kernel
theorem dX1_pass_31 : decode cX1_pass 31 = .ok (.getfield 153, 3) := by decide +kernel
theorem dX1_pass_34 : decode cX1_pass 34 = .ok (.iload_n 2, 1) := by decide +kernel
theorem dX1_pass_35 : decode cX1_pass 35 = .ok (.if_icmp .le 6, 3) := by decide +kernel
theorem dX1_pass_38 : decode cX1_pass 38 = .ok (.goto 52, 3) := by decide +kernel
theorem dX1_pass_41 : decode cX1_pass 41 = .ok (.aload_n 0, 1) := by decide +kernel
theorem dX1_pass_42 : decode cX1_pass 42 = .ok (.aload 4, 2) := by decide +kernel
theorem dX1_pass_44 : decode cX1_pass 44 = .ok (.getfield 153, 3) := by decide +kernel
theorem dX1_pass_47 : decode cX1_pass 47 = .ok (.putfield 66, 3) := by decide +kernel
theorem dX1_pass_50 : decode cX1_pass 50 = .ok (.aload 4, 2) := by decide +kernel
theorem dX1_pass_52 : decode cX1_pass 52 = .ok (.getfield 141, 3) := by decide +kernel
theorem dX1_pass_55 : decode cX1_pass 55 = .ok (.bipush 6, 2) := by decide +kernel
theorem dX1_pass_57 : decode cX1_pass 57 = .ok (.if_icmp .ne 15, 3) := by decide +kernel
theorem dX1_pass_60 : decode cX1_pass 60 = .ok (.aload_n 0, 1) := by decide +kernel
theorem dX1_pass_61 : decode cX1_pass 61 = .ok (.aload 4, 2) := by decide +kernel
theorem dX1_pass_63 : decode cX1_pass 63 = .ok (.iconst 2, 1) := by decide +kernel
theorem dX1_pass_64 : decode cX1_pass 64 = .ok (.bipush 21, 2) := by decide +kernel
theorem dX1_pass_66 : decode cX1_pass 66 = .ok (.invokevirtual 186, 3) := by decide +kernel
theorem dX1_pass_69 : decode cX1_pass 69 = .ok (.goto 11, 3) := by decide +kernel
theorem dX1_pass_72 : decode cX1_pass 72 = .ok (.aload_n 0, 1) := by decide +kernel
theorem dX1_pass_73 : decode cX1_pass 73 = .ok (.aload 4, 2) := by decide +kernel
theorem dX1_pass_75 : decode cX1_pass 75 = .ok (.iconst 1, 1) := by decide +kernel
theorem dX1_pass_76 : decode cX1_pass 76 = .ok (.iconst 0, 1) := by decide +kernel
theorem dX1_pass_77 : decode cX1_pass 77 = .ok (.invokevirtual 186, 3) := by decide +kernel
theorem dX1_pass_80 : decode cX1_pass 80 = .ok (.aload_n 0, 1) := by decide +kernel
theorem dX1_pass_81 : decode cX1_pass 81 = .ok (.invokevirtual 190, 3) := by decide +kernel
theorem dX1_pass_84 : decode cX1_pass 84 = .ok (.iinc 3 1, 3) := by decide +kernel
theorem dX1_pass_87 : decode cX1_pass 87 = .ok (.goto (-78), 3) := by decide +kernel
theorem dX1_pass_90 : decode cX1_pass 90 = .ok (.aload_n 0, 1) := by decide +kernel
theorem dX1_pass_91 : decode cX1_pass 91 = .ok (.iload_n 2, 1) := by decide +kernel
theorem dX1_pass_92 : decode cX1_pass 92 = .ok (.putfield 66, 3) := by decide +kernel
theorem dX1_pass_95 : decode cX1_pass 95 = .ok (.return_, 1) := by decide +kernel
theorem dX3_findChildren_0 : decode cX3_findChildren 0 = .ok (.iconst 0, 1) := by decide +kernel
theorem dX3_findChildren_1 : decode cX3_findChildren 1 = .ok (.istore_n 1, 1) := by decide +kernel
theorem dX3_findChildren_2 : decode cX3_findChildren 2 = .ok (.iload_n 1, 1) := by decide +kernel
theorem dX3_findChildren_3 : decode cX3_findChildren 3 = .ok (.aload_n 0, 1) := by decide +kernel
theorem dX3_findChildren_4 : decode cX3_findChildren 4 = .ok (.getfield 59, 3) := by decide +kernel
theorem dX3_findChildren_7 : decode cX3_findChildren 7 = .ok (.if_icmp .ge 105, 3) := by decide +kernel
theorem dX3_findChildren_10 : decode cX3_findChildren 10 = .ok (.aload_n 0, 1) := by decide +kernel
theorem dX3_findChildren_11 : decode cX3_findChildren 11 = .ok (.getfield 47, 3) := by decide +kernel
theorem dX3_findChildren_14 : decode cX3_findChildren 14 = .ok (.ifCond .ne 98, 3) := by decide +kernel
theorem dX3_findChildren_17 : decode cX3_findChildren 17 = .ok (.aload_n 0, 1) := by decide +kernel
theorem dX3_findChildren_18 : decode cX3_findChildren 18 = .ok (.getfield 29, 3) := by decide +kernel
theorem dX3_findChildren_21 : decode cX3_findChildren 21 = .ok (.aload_n 0, 1) := by decide +kernel
theorem dX3_findChildren_22 : decode cX3_findChildren 22 = .ok (.getfield 21, 3) := by decide +kernel
theorem dX3_findChildren_25 : decode cX3_findChildren 25 = .ok (.iload_n 1, 1) := by decide +kernel
theorem dX3_findChildren_26 : decode cX3_findChildren 26 = .ok (.laload, 1) := by decide +kernel
theorem dX3_findChildren_27 : decode cX3_findChildren 27 = .ok (.invokevirtual 109, 3) := by decide +kernel
theorem dX3_findChildren_30 : decode cX3_findChildren 30 = .ok (.istore_n 2, 1) := by decide +kernel
theorem dX3_findChildren_31 : decode cX3_findChildren 31 = .ok (.iload_n 2, 1) := by decide +kernel
theorem dX3_findChildren_32 : decode cX3_findChildren 32 = .ok (.iconst (-1), 1) := by decide +kernel
theorem dX3_findChildren_33 : decode cX3_findChildren 33 = .ok (.if_icmp .ne 21, 3) := by decide +kernel
theorem dX3_findChildren_36 : decode cX3_findChildren 36 = .ok (.aload_n 0, 1) := by decide +kernel
theorem dX3_findChildren_37 : decode cX3_findChildren 37 = .ok (.iconst 2, 1) := by decide +kernel
theorem dX3_findChildren_38 : decode cX3_findChildren 38 = .ok (.bipush 16, 2) := by decide +kernel
theorem dX3_findChildren_40 : decode cX3_findChildren 40 = .ok (.aload_n 0, 1) := by decide +kernel
theorem dX3_findChildren_41 : decode cX3_findChildren 41 = .ok (.getfield 15, 3) := by decide +kernel
theorem dX3_findChildren_44 : decode cX3_findChildren 44 = .ok (.iload_n 1, 1) := by decide +kernel
theorem dX3_findChildren_45 : decode cX3_findChildren 45 = .ok (.iaload, 1) := by decide +kernel
theorem dX3_findChildren_46 : decode cX3_findChildren 46 = .ok (.imul, 1) := by decide +kernel
theorem dX3_findChildren_47 : decode cX3_findChildren 47 = .ok (.iadd, 1) := by decide +kernel
theorem dX3_findChildren_48 : decode cX3_findChildren 48 = .ok (.putfield 47, 3) := by decide +kernel
theorem dX3_findChildren_51 : decode cX3_findChildren 51 = .ok (.goto 55, 3) := by decide +kernel
theorem dX3_findChildren_54 : decode cX3_findChildren 54 = .ok (.aload_n 0, 1) := by decide +kernel
theorem dX3_findChildren_55 : decode cX3_findChildren 55 = .ok (.getfield 29, 3) := by decide +kernel
theorem dX3_findChildren_58 : decode cX3_findChildren 58 = .ok (.getfield 130, 3) := by decide +kernel
theorem dX3_findChildren_61 : decode cX3_findChildren 61 = .ok (.iload_n 2, 1) := by decide +kernel
theorem dX3_findChildren_62 : decode cX3_findChildren 62 = .ok (.iaload, 1) := by decide +kernel
theorem dX3_findChildren_63 : decode cX3_findChildren 63 = .ok (.aload_n 0, 1) := by decide +kernel
theorem dX3_findChildren_64 : decode cX3_findChildren 64 = .ok (.getfield 18, 3) := by decide +kernel
theorem dX3_findChildren_67 : decode cX3_findChildren 67 = .ok (.iload_n 1, 1) := by decide +kernel
theorem dX3_findChildren_68 : decode cX3_findChildren 68 = .ok (.iaload, 1) := by decide +kernel
theorem dX3_findChildren_69 : decode cX3_findChildren 69 = .ok (.if_icmp .eq 22, 3) := by decide +kernel
theorem dX3_findChildren_72 : decode cX3_findChildren 72 = .ok (.aload_n 0, 1) := by decide +kernel
theorem dX3_findChildren_73 : decode cX3_findChildren 73 = .ok (.bipush 6, 2) := by decide +kernel
theorem dX3_findChildren_75 : decode cX3_findChildren 75 = .ok (.bipush 16, 2) := by decide +kernel
theorem dX3_findChildren_77 : decode cX3_findChildren 77 = .ok (.aload_n 0, 1) := by decide +kernel
theorem dX3_findChildren_78 : decode cX3_findChildren 78 = .ok (.getfield 15, 3) := by decide +kernel
theorem dX3_findChildren_81 : decode cX3_findChildren 81 = .ok (.iload_n 1, 1) := by decide +kernel
theorem dX3_findChildren_82 : decode cX3_findChildren 82 = .ok (.iaload, 1) := by decide +kernel
theorem dX3_findChildren_83 : decode cX3_findChildren 83 = .ok (.imul, 1) := by decide +kernel
theorem dX3_findChildren_84 : decode cX3_findChildren 84 = .ok (.iadd, 1) := by decide +kernel
theorem dX3_findChildren_85 : decode cX3_findChildren 85 = .ok (.putfield 47, 3) := by decide +kernel
theorem dX3_findChildren_88 : decode cX3_findChildren 88 = .ok (.goto 18, 3) := by decide +kernel
theorem dX3_findChildren_91 : decode cX3_findChildren 91 = .ok (.aload_n 0, 1) := by decide +kernel
theorem dX3_findChildren_92 : decode cX3_findChildren 92 = .ok (.getfield 29, 3) := by decide +kernel
theorem dX3_findChildren_95 : decode cX3_findChildren 95 = .ok (.getfield 188, 3) := by decide +kernel
theorem dX3_findChildren_98 : decode cX3_findChildren 98 = .ok (.aload_n 0, 1) := by decide +kernel
theorem dX3_findChildren_99 : decode cX3_findChildren 99 = .ok (.getfield 9, 3) := by decide +kernel
theorem dX3_findChildren_102 : decode cX3_findChildren 102 = .ok (.iload_n 1, 1) := by decide +kernel
theorem dX3_findChildren_103 : decode cX3_findChildren 103 = .ok (.iaload, 1) := by decide +kernel
theorem dX3_findChildren_104 : decode cX3_findChildren 104 = .ok (.iload_n 2, 1) := by decide +kernel
theorem dX3_findChildren_105 : decode cX3_findChildren 105 = .ok (.iastore, 1) := by decide +kernel
theorem dX3_findChildren_106 : decode cX3_findChildren 106 = .ok (.iinc 1 1, 3) := by decide +kernel
theorem dX3_findChildren_109 : decode cX3_findChildren 109 = .ok (.goto (-107), 3) := by decide +kernel
theorem dX3_findChildren_112 : decode cX3_findChildren 112 = .ok (.return_, 1) := by decide +kernel
theorem dX3_kind_0 : decode cX3_kind 0 = .ok (.aload_n 0, 1) := by decide +kernel
theorem dX3_kind_1 : decode cX3_kind 1 = .ok (.getfield 25, 3) := by decide +kernel
theorem dX3_kind_4 : decode cX3_kind 4 = .ok (.getfield 84, 3) := by decide +kernel
theorem dX3_kind_7 : decode cX3_kind 7 = .ok (.aload_n 0, 1) := by decide +kernel
theorem dX3_kind_8 : decode cX3_kind 8 = .ok (.getfield 43, 3) := by decide +kernel
theorem dX3_kind_11 : decode cX3_kind 11 = .ok (.iaload, 1) := by decide +kernel
theorem dX3_kind_12 : decode cX3_kind 12 = .ok (.ireturn, 1) := by decide +kernel
theorem dX3_read_0 : decode cX3_read 0 = .ok (.aload_n 0, 1) := by decide +kernel
theorem dX3_read_1 : decode cX3_read 1 = .ok (.aload_n 1, 1) := by decide +kernel
theorem dX3_read_2 : decode cX3_read 2 = .ok (.putfield 29, 3) := by decide +kernel
theorem dX3_read_5 : decode cX3_read 5 = .ok (.aload_n 0, 1) := by decide +kernel
theorem dX3_read_6 : decode cX3_read 6 = .ok (.getfield 29, 3) := by decide +kernel
theorem dX3_read_9 : decode cX3_read 9 = .ok (.invokevirtual 33, 3) := by decide +kernel
theorem dX3_read_12 : decode cX3_read 12 = .ok (.aload_n 0, 1) := by decide +kernel
theorem dX3_read_13 : decode cX3_read 13 = .ok (.aload_n 0, 1) := by decide +kernel
theorem dX3_read_14 : decode cX3_read 14 = .ok (.getfield 29, 3) := by decide +kernel
theorem dX3_read_17 : decode cX3_read 17 = .ok (.getfield 38, 3) := by decide +kernel
theorem dX3_read_20 : decode cX3_read 20 = .ok (.putfield 42, 3) := by decide +kernel
theorem dX3_read_23 : decode cX3_read 23 = .ok (.aload_n 0, 1) := by decide +kernel
theorem dX3_read_24 : decode cX3_read 24 = .ok (.iconst 0, 1) := by decide +kernel
theorem dX3_read_25 : decode cX3_read 25 = .ok (.putfield 43, 3) := by decide +kernel
theorem dX3_read_28 : decode cX3_read 28 = .ok (.aload_n 0, 1) := by decide +kernel
theorem dX3_read_29 : decode cX3_read 29 = .ok (.iconst 0, 1) := by decide +kernel
theorem dX3_read_30 : decode cX3_read 30 = .ok (.putfield 47, 3) := by decide +kernel
theorem dX3_read_33 : decode cX3_read 33 = .ok (.aload_n 0, 1) := by decide +kernel
theorem dX3_read_34 : decode cX3_read 34 = .ok (.iconst (-1), 1) := by decide +kernel
theorem dX3_read_35 : decode cX3_read 35 = .ok (.putfield 50, 3) := by decide +kernel
theorem dX3_read_38 : decode cX3_read 38 = .ok (.aload_n 0, 1) := by decide +kernel
theorem dX3_read_39 : decode cX3_read 39 = .ok (.iconst (-1), 1) := by decide +kernel
theorem dX3_read_40 : decode cX3_read 40 = .ok (.putfield 53, 3) := by decide +kernel
theorem dX3_read_43 : decode cX3_read 43 = .ok (.aload_n 0, 1) := by decide +kernel
theorem dX3_read_44 : decode cX3_read 44 = .ok (.iconst 0, 1) := by decide +kernel
theorem dX3_read_45 : decode cX3_read 45 = .ok (.putfield 56, 3) := by decide +kernel
theorem dX3_read_48 : decode cX3_read 48 = .ok (.aload_n 0, 1) := by decide +kernel
theorem dX3_read_49 : decode cX3_read 49 = .ok (.iconst 0, 1) := by decide +kernel
theorem dX3_read_50 : decode cX3_read 50 = .ok (.putfield 59, 3) := by decide +kernel
theorem dX3_read_53 : decode cX3_read 53 = .ok (.iconst 0, 1) := by decide +kernel
theorem dX3_read_54 : decode cX3_read 54 = .ok (.istore_n 2, 1) := by decide +kernel
theorem dX3_read_55 : decode cX3_read 55 = .ok (.iload_n 2, 1) := by decide +kernel
theorem dX3_read_56 : decode cX3_read 56 = .ok (.bipush 12, 2) := by decide +kernel
theorem dX3_read_58 : decode cX3_read 58 = .ok (.if_icmp .gt 35, 3) := by decide +kernel
theorem dX3_read_61 : decode cX3_read 61 = .ok (.aload_n 0, 1) := by decide +kernel
theorem dX3_read_62 : decode cX3_read 62 = .ok (.invokevirtual 62, 3) := by decide +kernel
theorem dX3_read_65 : decode cX3_read 65 = .ok (.sipush 200, 3) := by decide +kernel
theorem dX3_read_68 : decode cX3_read 68 = .ok (.if_icmp .ne 25, 3) := by decide +kernel
theorem dX3_read_71 : decode cX3_read 71 = .ok (.aload_n 0, 1) := by decide +kernel
theorem dX3_read_72 : decode cX3_read 72 = .ok (.invokevirtual 68, 3) := by decide +kernel
theorem dX3_read_75 : decode cX3_read 75 = .ok (.aload_n 0, 1) := by decide +kernel
theorem dX3_read_76 : decode cX3_read 76 = .ok (.iconst 0, 1) := by decide +kernel
theorem dX3_read_77 : decode cX3_read 77 = .ok (.invokevirtual 71, 3) := by decide +kernel
theorem dX3_read_80 : decode cX3_read 80 = .ok (.aload_n 0, 1) := by decide +kernel
theorem dX3_read_81 : decode cX3_read 81 = .ok (.getfield 29, 3) := by decide +kernel
theorem dX3_read_84 : decode cX3_read 84 = .ok (.invokevirtual 75, 3) := by decide +kernel
theorem dX3_read_87 : decode cX3_read 87 = .ok (.iinc 2 1, 3) := by decide +kernel
theorem dX3_read_90 : decode cX3_read 90 = .ok (.goto (-35), 3) := by decide +kernel
theorem dX3_read_93 : decode cX3_read 93 = .ok (.aload_n 0, 1) := by decide +kernel
theorem dX3_read_94 : decode cX3_read 94 = .ok (.invokevirtual 62, 3) := by decide +kernel
theorem dX3_read_97 : decode cX3_read 97 = .ok (.ifCond .eq 8, 3) := by decide +kernel
theorem dX3_read_100 : decode cX3_read 100 = .ok (.aload_n 0, 1) := by decide +kernel
theorem dX3_read_101 : decode cX3_read 101 = .ok (.iconst 1, 1) := by decide +kernel
theorem dX3_read_102 : decode cX3_read 102 = .ok (.invokevirtual 78, 3) := by decide +kernel
theorem dX3_read_105 : decode cX3_read 105 = .ok (.aload_n 0, 1) := by decide +kernel
theorem dX3_read_106 : decode cX3_read 106 = .ok (.invokevirtual 81, 3) := by decide +kernel
theorem dX3_read_109 : decode cX3_read 109 = .ok (.aload_n 0, 1) := by decide +kernel
theorem dX3_read_110 : decode cX3_read 110 = .ok (.getfield 47, 3) := by decide +kernel
theorem dX3_read_113 : decode cX3_read 113 = .ok (.ireturn, 1) := by decide +kernel
set_option maxHeartbeats 4000000 in
set_option maxRecDepth 100000 in
theorem ct_X1_deliver (l : Launch) (dC : Nat → ClassId) (dI : Nat → Nat → Nat) (h0 : Nat) (pv : Value) (xt : Nat) (xr : Nat) (le : Nat) (lc : Nat) (ln : Nat) (al : Nat) (lo : Nat) (xg : Nat) (kle : ClassId) (klc : ClassId) (kln : ClassId) (l0 : Nat) (l1 : Nat) (l2 : Nat) (l3 : Nat) (l4 : Nat) (l5 : Nat) (l6 : Nat) (l7 : Nat) (b : Int32) (v : Int32) (sz : Nat) : Met l yX1_deliver (.code yX1_deliver cX1_deliver 4 (some .int) :: tb) ({ frames := 0, cells := 0, slots := 0, locals := 0 }) (va_Pc [.ref h0, .int b, .int v] (fun U => U.heap.size = sz ∧ va_P (dC, dI) vwCl [(h0, .inr (1, [pv, .ref xt, .int 0, .int 0, .ref xr, .int 0, .int 0, .ref le, .ref lc, .ref ln, .ref al, .ref lo, .ref xg, .int 0, .null])), (le, .inl (kle, 400, .inl (fun _ => 0))), (lc, .inl (klc, 8, .inl (fun _ => 0))), (ln, .inl (kln, 8, .inr (.inr (.inr (.inr (fun i => [l0, l1, l2, l3, l4, l5, l6, l7][i]?)))))), (l0, .inr (2, [.null, .null])), (l1, .inr (2, [.null, .null])), (l2, .inr (2, [.null, .null])), (l3, .inr (2, [.null, .null])), (l4, .inr (2, [.null, .null])), (l5, .inr (2, [.null, .null])), (l6, .inr (2, [.null, .null])), (l7, .inr (2, [.null, .null]))] U.heap ∧ va_K (dC, dI) vwCl [(kle, .int), (klc, .int), (kln, .object RX2)] U ∧ va_D (fun _ => True) [(h0, .inr (1, [pv, .ref xt, .int 0, .int 0, .ref xr, .int 0, .int 0, .ref le, .ref lc, .ref ln, .ref al, .ref lo, .ref xg, .int 0, .null])), (le, .inl (kle, 400, .inl (fun _ => 0))), (lc, .inl (klc, 8, .inl (fun _ => 0))), (ln, .inl (kln, 8, .inr (.inr (.inr (.inr (fun i => [l0, l1, l2, l3, l4, l5, l6, l7][i]?)))))), (l0, .inr (2, [.null, .null])), (l1, .inr (2, [.null, .null])), (l2, .inr (2, [.null, .null])), (l3, .inr (2, [.null, .null])), (l4, .inr (2, [.null, .null])), (l5, .inr (2, [.null, .null])), (l6, .inr (2, [.null, .null])), (l7, .inr (2, [.null, .null]))])) (va_Qi (fun (r : Int32) (_ : Unit) => r = if b < 0 then -2 else if b < 8 then -1 else -2) (fun (_ : Unit) t => va_P (dC, dI) vwCl [] t.heap ∧ va_K (dC, dI) vwCl [] t ∧ va_D (va_A [(h0, .inr (1, [pv, .ref xt, .int 0, .int 0, .ref xr, .int 0, .int 0, .ref le, .ref lc, .ref ln, .ref al, .ref lo, .ref xg, .int 0, .null])), (le, .inl (kle, 400, .inl (fun _ => 0))), (lc, .inl (klc, 8, .inl (fun _ => 0))), (ln, .inl (kln, 8, .inr (.inr (.inr (.inr (fun i => [l0, l1, l2, l3, l4, l5, l6, l7][i]?)))))), (l0, .inr (2, [.null, .null])), (l1, .inr (2, [.null, .null])), (l2, .inr (2, [.null, .null])), (l3, .inr (2, [.null, .null])), (l4, .inr (2, [.null, .null])), (l5, .inr (2, [.null, .null])), (l6, .inr (2, [.null, .null])), (l7, .inr (2, [.null, .null]))] sz) []) (va_A [(h0, .inr (1, [pv, .ref xt, .int 0, .int 0, .ref xr, .int 0, .int 0, .ref le, .ref lc, .ref ln, .ref al, .ref lo, .ref xg, .int 0, .null])), (le, .inl (kle, 400, .inl (fun _ => 0))), (lc, .inl (klc, 8, .inl (fun _ => 0))), (ln, .inl (kln, 8, .inr (.inr (.inr (.inr (fun i => [l0, l1, l2, l3, l4, l5, l6, l7][i]?)))))), (l0, .inr (2, [.null, .null])), (l1, .inr (2, [.null, .null])), (l2, .inr (2, [.null, .null])), (l3, .inr (2, [.null, .null])), (l4, .inr (2, [.null, .null])), (l5, .inr (2, [.null, .null])), (l6, .inr (2, [.null, .null])), (l7, .inr (2, [.null, .null]))] sz)) 0 0 (va_A [(h0, .inr (1, [pv, .ref xt, .int 0, .int 0, .ref xr, .int 0, .int 0, .ref le, .ref lc, .ref ln, .ref al, .ref lo, .ref xg, .int 0, .null])), (le, .inl (kle, 400, .inl (fun _ => 0))), (lc, .inl (klc, 8, .inl (fun _ => 0))), (ln, .inl (kln, 8, .inr (.inr (.inr (.inr (fun i => [l0, l1, l2, l3, l4, l5, l6, l7][i]?)))))), (l0, .inr (2, [.null, .null])), (l1, .inr (2, [.null, .null])), (l2, .inr (2, [.null, .null])), (l3, .inr (2, [.null, .null])), (l4, .inr (2, [.null, .null])), (l5, .inr (2, [.null, .null])), (l6, .inr (2, [.null, .null])), (l7, .inr (2, [.null, .null]))] sz) := by
  refine Met.ofW (cc := cX1_deliver) (maxL := 4) (ret := (some .int)) (by decide) rfl ?_
  intro p e s m args below meth c s₁ B hml hv
  obtain ⟨rfl, hsz, hP, hK, hD0⟩ := hv
  have hx := B.exec
  have hb := B.bytes
  have hr := B.returns
  have hts : ∀ w ∈ tb, w.before _ s = true := fun w h => atoms_spec (ws := (.code yX1_deliver cX1_deliver 4 (some .int) :: tb)) B.pre w (List.mem_cons_of_mem _ h)
  have hown : s.vm.findClass RX1 = some m.cls := findClass_of_methodNamed B.named
  have hlocks := B.notSynchronized
  subst hsz
  have hD := hD0.self (sz := s.heap.size)
  generalize hAe : va_A [(h0, .inr (1, [pv, .ref xt, .int 0, .int 0, .ref xr, .int 0, .int 0, .ref le, .ref lc, .ref ln, .ref al, .ref lo, .ref xg, .int 0, .null])), (le, .inl (kle, 400, .inl (fun _ => 0))), (lc, .inl (klc, 8, .inl (fun _ => 0))), (ln, .inl (kln, 8, .inr (.inr (.inr (.inr (fun i => [l0, l1, l2, l3, l4, l5, l6, l7][i]?)))))), (l0, .inr (2, [.null, .null])), (l1, .inr (2, [.null, .null])), (l2, .inr (2, [.null, .null])), (l3, .inr (2, [.null, .null])), (l4, .inr (2, [.null, .null])), (l5, .inr (2, [.null, .null])), (l6, .inr (2, [.null, .null])), (l7, .inr (2, [.null, .null]))] s.heap.size = A at hD ⊢
  have hA : ∀ q : Nat, s.heap.size ≤ q → A q := fun q h => by rw [← hAe]; exact Or.inr h
  have hS : va_S A s.heap s.heap [] := va_S.rf
  have hP : va_P (dC, dI) vwCl [(h0, .inr (1, [pv, .ref xt, .int 0, .int 0, .ref xr, .int 0, .int 0, .ref le, .ref lc, .ref ln, .ref al, .ref lo, .ref xg, .int 0, .null])), (le, .inl (kle, 400, .inl (fun _ => 0))), (lc, .inl (klc, 8, .inl (fun _ => 0))), (ln, .inl (kln, 8, .inr (.inr (.inr (.inr (fun i => [l0, l1, l2, l3, l4, l5, l6, l7][i]?)))))), (l0, .inr (2, [.null, .null])), (l1, .inr (2, [.null, .null])), (l2, .inr (2, [.null, .null])), (l3, .inr (2, [.null, .null])), (l4, .inr (2, [.null, .null])), (l5, .inr (2, [.null, .null])), (l6, .inr (2, [.null, .null])), (l7, .inr (2, [.null, .null]))] s.heap := hP
  have hl := lv_entry ([.ref h0, .int b, .int v]) (n := 4) (Nat.le_of_ble_eq_true rfl)
  rw [lg_entry_eq]
  generalize (lg_sl ([.ref h0, .int b, .int v]) ++ List.replicate (4 - (lg_sl ([.ref h0, .int b, .int v])).length) Slot.unset).toArray = ls at hl ⊢
  have hl : lv_has ls 4 [(0, .ref h0), (1, .int b), (2, .int v)] := hl
  refine lv_iload_n hx hb dX1_deliver_0 rfl (lv_at hl 1 rfl) ?_
  refine lv_if_lt (tgt := 21) hx hb dX1_deliver_1 (by decide) (fun c1 => ?_) (fun c1 => ?_)
  · refine lv_bipush (v := -2) hx hb dX1_deliver_21 (by decide) ?_
    have hP9 := hP.sub (ws' := []) [] rfl
    have hD9 := hD.sub (ws' := []) [] (by decide) rfl
    have hK9 := hK.sub (tys' := []) [] rfl
    refine W.widen (k := 0) (n := 0) (Nat.le_of_ble_eq_true rfl) (Nat.le_of_ble_eq_true rfl) ?_
    exact W.iret (v := -2) hx hb hr (fun t ht hW => ⟨⟨-2, (), rfl, ((if_pos c1)).symm, by rw [ht]; exact hP9, va_K.moved hW.alike hK9, hD9⟩, hS.F ht⟩) hS.2.2 dX1_deliver_23
  · refine lv_iload_n hx hb dX1_deliver_4 rfl (lv_at hl 1 rfl) ?_
    refine lv_bipush (v := 8) hx hb dX1_deliver_5 (by decide) ?_
    refine lv_icmp_ge (tgt := 21) hx hb dX1_deliver_7 (by decide) (fun c2 => ?_) (fun c2 => ?_)
    · refine lv_bipush (v := -2) hx hb dX1_deliver_21 (by decide) ?_
      have hP9 := hP.sub (ws' := []) [] rfl
      have hD9 := hD.sub (ws' := []) [] (by decide) rfl
      have hK9 := hK.sub (tys' := []) [] rfl
      refine W.widen (k := 0) (n := 0) (Nat.le_of_ble_eq_true rfl) (Nat.le_of_ble_eq_true rfl) ?_
      exact W.iret (v := -2) hx hb hr (fun t ht hW => ⟨⟨-2, (), rfl, ((Eq.trans (if_neg c1) (if_neg (Int32.not_lt.mpr c2)))).symm, by rw [ht]; exact hP9, va_K.moved hW.alike hK9, hD9⟩, hS.F ht⟩) hS.2.2 dX1_deliver_23
    · refine lv_aload_n hx hb dX1_deliver_10 rfl (lv_at hl 0 rfl) ?_
      refine va_get (D := (dC, dI)) (ci := 1) (v := .ref lc) (C := RX1) (T := TX1) (N := 15) hx hb hts in_X1 hown hK hP 0 rfl rfl 8 (by decide) (hts _ wd_250) (fun _ h9 => h9) rfl dX1_deliver_11 ?_
      refine lv_iload_n hx hb dX1_deliver_14 rfl (lv_at hl 1 rfl) ?_
      refine va_iald hx hb hK hP 2 1 rfl rfl (px_inb (N := 8) rfl c1 c2) dX1_deliver_15 ?_
      refine lv_topi (fun z3 ez3 => ?_)
      obtain rfl : z3 = 0 := ez3.trans (by first | rfl | decide)
      refine lv_bipush (v := 50) hx hb dX1_deliver_16 (by decide) ?_
      refine lv_icmp_lt (tgt := 24) hx hb dX1_deliver_18 (by decide) (fun _ => ?_) (fun h => absurd (by decide) h)
      rcases px_8 (px_inb (N := 8) rfl c1 c2) with rfl | rfl | rfl | rfl | rfl | rfl | rfl | rfl
      · refine lv_aload_n hx hb dX1_deliver_24 rfl (lv_at hl 0 rfl) ?_
        refine va_get (D := (dC, dI)) (ci := 1) (v := .ref ln) (C := RX1) (T := TX1) (N := 15) hx hb hts in_X1 hown hK hP 0 rfl rfl 9 (by decide) (hts _ wd_253) (fun _ h9 => h9) rfl dX1_deliver_25 ?_
        refine lv_iload_n hx hb dX1_deliver_28 rfl (lv_at hl 1 rfl) ?_
        refine va_aldq hx hb hK hP 3 2 rfl rfl (px_in 0 8 (by decide +kernel)) dX1_deliver_29 ?_
        refine W.eq (g2 := F0 m 30 ls [.ref l0]) rfl ?_
        refine va_get (D := (dC, dI)) (ci := 2) (v := .null) (C := RX2) (T := TX2) (N := 2) hx hb hts in_X2 hown hK hP 4 rfl rfl 0 (by decide) (hts _ wd_209) (fun _ h9 => h9) rfl dX1_deliver_30 ?_
        refine lv_astore_nN (lv' := [(3, .null), (0, .ref h0), (1, .int 0), (2, .int v)]) hx hb dX1_deliver_33 rfl hl (by decide) rfl (fun ls hl => ?_)
        refine lv_aload_nN hx hb dX1_deliver_34 rfl (lv_at hl 0 rfl) ?_
        refine lv_ifnonnullN hx hb dX1_deliver_35 ?_
        refine lv_aload_n hx hb dX1_deliver_38 rfl (lv_at hl 1 rfl) ?_
        refine va_get (D := (dC, dI)) (ci := 1) (v := .ref le) (C := RX1) (T := TX1) (N := 15) hx hb hts in_X1 hown hK hP 0 rfl rfl 7 (by decide) (hts _ wd_248) (fun _ h9 => h9) rfl dX1_deliver_39 ?_
        refine lv_iload_n hx hb dX1_deliver_42 rfl (lv_at hl 2 rfl) ?_
        refine lv_bipush (v := 50) hx hb dX1_deliver_43 (by decide) ?_
        refine lv_imul hx hb dX1_deliver_45 ?_
        refine lv_topi (fun z4 ez4 => ?_)
        obtain rfl : z4 = 0 := ez4.trans (by decide)
        refine lv_aload_n hx hb dX1_deliver_46 rfl (lv_at hl 1 rfl) ?_
        refine va_get (D := (dC, dI)) (ci := 1) (v := .ref lc) (C := RX1) (T := TX1) (N := 15) hx hb hts in_X1 hown hK hP 0 rfl rfl 8 (by decide) (hts _ wd_250) (fun _ h9 => h9) rfl dX1_deliver_47 ?_
        refine lv_iload_n hx hb dX1_deliver_50 rfl (lv_at hl 2 rfl) ?_
        refine va_iald hx hb hK hP 2 1 rfl rfl (px_in 0 8 (by decide +kernel)) dX1_deliver_51 ?_
        refine lv_topi (fun z5 ez5 => ?_)
        obtain rfl : z5 = 0 := ez5.trans (by first | rfl | decide)
        refine lv_iadd hx hb dX1_deliver_52 ?_
        refine lv_topi (fun z6 ez6 => ?_)
        obtain rfl : z6 = 0 := ez6.trans (by decide)
        refine lv_iload_n hx hb dX1_deliver_53 rfl (lv_at hl 3 rfl) ?_
        refine va_iast hx hb hK hP hD hS 1 0 rfl rfl (px_in 0 400 (by decide +kernel)) dX1_deliver_54 (fun H locs hP hD hS => ?_)
        have hP : va_P (dC, dI) vwCl [(h0, .inr (1, [pv, .ref xt, .int 0, .int 0, .ref xr, .int 0, .int 0, .ref le, .ref lc, .ref ln, .ref al, .ref lo, .ref xg, .int 0, .null])), (le, .inl (kle, 400, .inl (upd (fun _ => 0) (0 : Int32).toNatClampNeg v))), (lc, .inl (klc, 8, .inl (fun _ => 0))), (ln, .inl (kln, 8, .inr (.inr (.inr (.inr (fun i => [l0, l1, l2, l3, l4, l5, l6, l7][i]?)))))), (l0, .inr (2, [.null, .null])), (l1, .inr (2, [.null, .null])), (l2, .inr (2, [.null, .null])), (l3, .inr (2, [.null, .null])), (l4, .inr (2, [.null, .null])), (l5, .inr (2, [.null, .null])), (l6, .inr (2, [.null, .null])), (l7, .inr (2, [.null, .null]))] H := hP
        have hD : va_D A [(h0, .inr (1, [pv, .ref xt, .int 0, .int 0, .ref xr, .int 0, .int 0, .ref le, .ref lc, .ref ln, .ref al, .ref lo, .ref xg, .int 0, .null])), (le, .inl (kle, 400, .inl (upd (fun _ => 0) (0 : Int32).toNatClampNeg v))), (lc, .inl (klc, 8, .inl (fun _ => 0))), (ln, .inl (kln, 8, .inr (.inr (.inr (.inr (fun i => [l0, l1, l2, l3, l4, l5, l6, l7][i]?)))))), (l0, .inr (2, [.null, .null])), (l1, .inr (2, [.null, .null])), (l2, .inr (2, [.null, .null])), (l3, .inr (2, [.null, .null])), (l4, .inr (2, [.null, .null])), (l5, .inr (2, [.null, .null])), (l6, .inr (2, [.null, .null])), (l7, .inr (2, [.null, .null]))] := hD
        obtain ⟨f7, ef7⟩ : ∃ g : Nat → Int32, g = (upd (fun _ => 0) (0 : Int32).toNatClampNeg v) := ⟨_, rfl⟩
        rw [← ef7] at hP hD
        have hP : va_P (dC, dI) vwCl [(h0, .inr (1, [pv, .ref xt, .int 0, .int 0, .ref xr, .int 0, .int 0, .ref le, .ref lc, .ref ln, .ref al, .ref lo, .ref xg, .int 0, .null])), (le, .inl (kle, 400, .inl (f7))), (lc, .inl (klc, 8, .inl (fun _ => 0))), (ln, .inl (kln, 8, .inr (.inr (.inr (.inr (fun i => [l0, l1, l2, l3, l4, l5, l6, l7][i]?)))))), (l0, .inr (2, [.null, .null])), (l1, .inr (2, [.null, .null])), (l2, .inr (2, [.null, .null])), (l3, .inr (2, [.null, .null])), (l4, .inr (2, [.null, .null])), (l5, .inr (2, [.null, .null])), (l6, .inr (2, [.null, .null])), (l7, .inr (2, [.null, .null]))] H := hP
        have hD : va_D A [(h0, .inr (1, [pv, .ref xt, .int 0, .int 0, .ref xr, .int 0, .int 0, .ref le, .ref lc, .ref ln, .ref al, .ref lo, .ref xg, .int 0, .null])), (le, .inl (kle, 400, .inl (f7))), (lc, .inl (klc, 8, .inl (fun _ => 0))), (ln, .inl (kln, 8, .inr (.inr (.inr (.inr (fun i => [l0, l1, l2, l3, l4, l5, l6, l7][i]?)))))), (l0, .inr (2, [.null, .null])), (l1, .inr (2, [.null, .null])), (l2, .inr (2, [.null, .null])), (l3, .inr (2, [.null, .null])), (l4, .inr (2, [.null, .null])), (l5, .inr (2, [.null, .null])), (l6, .inr (2, [.null, .null])), (l7, .inr (2, [.null, .null]))] := hD
        refine lv_aload_n hx hb dX1_deliver_55 rfl (lv_at hl 1 rfl) ?_
        refine va_get (D := (dC, dI)) (ci := 1) (v := .ref lc) (C := RX1) (T := TX1) (N := 15) hx hb hts in_X1 hown hK hP 0 rfl rfl 8 (by decide) (hts _ wd_250) (fun _ h9 => h9) rfl dX1_deliver_56 ?_
        refine lv_iload_n hx hb dX1_deliver_59 rfl (lv_at hl 2 rfl) ?_
        refine lv_dup2_11 hx hb dX1_deliver_60 rfl rfl ?_
        refine va_iald hx hb hK hP 2 1 rfl rfl (px_in 0 8 (by decide +kernel)) dX1_deliver_61 ?_
        refine lv_topi (fun z8 ez8 => ?_)
        obtain rfl : z8 = 0 := ez8.trans (by first | rfl | decide)
        refine lv_iconst (v := 1) hx hb dX1_deliver_62 (by decide) ?_
        refine lv_iadd hx hb dX1_deliver_63 ?_
        refine lv_topi (fun z9 ez9 => ?_)
        obtain rfl : z9 = 1 := ez9.trans (by decide)
        refine va_iast hx hb hK hP hD hS 2 1 rfl rfl (px_in 0 8 (by decide +kernel)) dX1_deliver_64 (fun H locs hP hD hS => ?_)
        have hP : va_P (dC, dI) vwCl [(h0, .inr (1, [pv, .ref xt, .int 0, .int 0, .ref xr, .int 0, .int 0, .ref le, .ref lc, .ref ln, .ref al, .ref lo, .ref xg, .int 0, .null])), (le, .inl (kle, 400, .inl (f7))), (lc, .inl (klc, 8, .inl (upd (fun _ => 0) (0 : Int32).toNatClampNeg 1))), (ln, .inl (kln, 8, .inr (.inr (.inr (.inr (fun i => [l0, l1, l2, l3, l4, l5, l6, l7][i]?)))))), (l0, .inr (2, [.null, .null])), (l1, .inr (2, [.null, .null])), (l2, .inr (2, [.null, .null])), (l3, .inr (2, [.null, .null])), (l4, .inr (2, [.null, .null])), (l5, .inr (2, [.null, .null])), (l6, .inr (2, [.null, .null])), (l7, .inr (2, [.null, .null]))] H := hP
        have hD : va_D A [(h0, .inr (1, [pv, .ref xt, .int 0, .int 0, .ref xr, .int 0, .int 0, .ref le, .ref lc, .ref ln, .ref al, .ref lo, .ref xg, .int 0, .null])), (le, .inl (kle, 400, .inl (f7))), (lc, .inl (klc, 8, .inl (upd (fun _ => 0) (0 : Int32).toNatClampNeg 1))), (ln, .inl (kln, 8, .inr (.inr (.inr (.inr (fun i => [l0, l1, l2, l3, l4, l5, l6, l7][i]?)))))), (l0, .inr (2, [.null, .null])), (l1, .inr (2, [.null, .null])), (l2, .inr (2, [.null, .null])), (l3, .inr (2, [.null, .null])), (l4, .inr (2, [.null, .null])), (l5, .inr (2, [.null, .null])), (l6, .inr (2, [.null, .null])), (l7, .inr (2, [.null, .null]))] := hD
        refine lv_iconst (v := -1) hx hb dX1_deliver_65 (by decide) ?_
        have hP9 := hP.sub (ws' := []) [] rfl
        have hD9 := hD.sub (ws' := []) [] (by decide) rfl
        have hK9 := hK.sub (tys' := []) [] rfl
        refine W.widen (k := 0) (n := 0) (Nat.le_of_ble_eq_true rfl) (Nat.le_of_ble_eq_true rfl) ?_
        exact W.iret (v := -1) hx hb hr (fun t ht hW => ⟨⟨-1, (), rfl, (by decide), by rw [ht]; exact hP9, va_K.moved hW.alike hK9, hD9⟩, hS.F ht⟩) hS.2.2 dX1_deliver_66
      · refine lv_aload_n hx hb dX1_deliver_24 rfl (lv_at hl 0 rfl) ?_
        refine va_get (D := (dC, dI)) (ci := 1) (v := .ref ln) (C := RX1) (T := TX1) (N := 15) hx hb hts in_X1 hown hK hP 0 rfl rfl 9 (by decide) (hts _ wd_253) (fun _ h9 => h9) rfl dX1_deliver_25 ?_
        refine lv_iload_n hx hb dX1_deliver_28 rfl (lv_at hl 1 rfl) ?_
        refine va_aldq hx hb hK hP 3 2 rfl rfl (px_in 1 8 (by decide +kernel)) dX1_deliver_29 ?_
        refine W.eq (g2 := F0 m 30 ls [.ref l1]) rfl ?_
        refine va_get (D := (dC, dI)) (ci := 2) (v := .null) (C := RX2) (T := TX2) (N := 2) hx hb hts in_X2 hown hK hP 5 rfl rfl 0 (by decide) (hts _ wd_209) (fun _ h9 => h9) rfl dX1_deliver_30 ?_
        refine lv_astore_nN (lv' := [(3, .null), (0, .ref h0), (1, .int 1), (2, .int v)]) hx hb dX1_deliver_33 rfl hl (by decide) rfl (fun ls hl => ?_)
        refine lv_aload_nN hx hb dX1_deliver_34 rfl (lv_at hl 0 rfl) ?_
        refine lv_ifnonnullN hx hb dX1_deliver_35 ?_
        refine lv_aload_n hx hb dX1_deliver_38 rfl (lv_at hl 1 rfl) ?_
        refine va_get (D := (dC, dI)) (ci := 1) (v := .ref le) (C := RX1) (T := TX1) (N := 15) hx hb hts in_X1 hown hK hP 0 rfl rfl 7 (by decide) (hts _ wd_248) (fun _ h9 => h9) rfl dX1_deliver_39 ?_
        refine lv_iload_n hx hb dX1_deliver_42 rfl (lv_at hl 2 rfl) ?_
        refine lv_bipush (v := 50) hx hb dX1_deliver_43 (by decide) ?_
        refine lv_imul hx hb dX1_deliver_45 ?_
        refine lv_topi (fun z10 ez10 => ?_)
        obtain rfl : z10 = 50 := ez10.trans (by decide)
        refine lv_aload_n hx hb dX1_deliver_46 rfl (lv_at hl 1 rfl) ?_
        refine va_get (D := (dC, dI)) (ci := 1) (v := .ref lc) (C := RX1) (T := TX1) (N := 15) hx hb hts in_X1 hown hK hP 0 rfl rfl 8 (by decide) (hts _ wd_250) (fun _ h9 => h9) rfl dX1_deliver_47 ?_
        refine lv_iload_n hx hb dX1_deliver_50 rfl (lv_at hl 2 rfl) ?_
        refine va_iald hx hb hK hP 2 1 rfl rfl (px_in 1 8 (by decide +kernel)) dX1_deliver_51 ?_
        refine lv_topi (fun z11 ez11 => ?_)
        obtain rfl : z11 = 0 := ez11.trans (by first | rfl | decide)
        refine lv_iadd hx hb dX1_deliver_52 ?_
        refine lv_topi (fun z12 ez12 => ?_)
        obtain rfl : z12 = 50 := ez12.trans (by decide)
        refine lv_iload_n hx hb dX1_deliver_53 rfl (lv_at hl 3 rfl) ?_
        refine va_iast hx hb hK hP hD hS 1 0 rfl rfl (px_in 50 400 (by decide +kernel)) dX1_deliver_54 (fun H locs hP hD hS => ?_)
        have hP : va_P (dC, dI) vwCl [(h0, .inr (1, [pv, .ref xt, .int 0, .int 0, .ref xr, .int 0, .int 0, .ref le, .ref lc, .ref ln, .ref al, .ref lo, .ref xg, .int 0, .null])), (le, .inl (kle, 400, .inl (upd (fun _ => 0) (50 : Int32).toNatClampNeg v))), (lc, .inl (klc, 8, .inl (fun _ => 0))), (ln, .inl (kln, 8, .inr (.inr (.inr (.inr (fun i => [l0, l1, l2, l3, l4, l5, l6, l7][i]?)))))), (l0, .inr (2, [.null, .null])), (l1, .inr (2, [.null, .null])), (l2, .inr (2, [.null, .null])), (l3, .inr (2, [.null, .null])), (l4, .inr (2, [.null, .null])), (l5, .inr (2, [.null, .null])), (l6, .inr (2, [.null, .null])), (l7, .inr (2, [.null, .null]))] H := hP
        have hD : va_D A [(h0, .inr (1, [pv, .ref xt, .int 0, .int 0, .ref xr, .int 0, .int 0, .ref le, .ref lc, .ref ln, .ref al, .ref lo, .ref xg, .int 0, .null])), (le, .inl (kle, 400, .inl (upd (fun _ => 0) (50 : Int32).toNatClampNeg v))), (lc, .inl (klc, 8, .inl (fun _ => 0))), (ln, .inl (kln, 8, .inr (.inr (.inr (.inr (fun i => [l0, l1, l2, l3, l4, l5, l6, l7][i]?)))))), (l0, .inr (2, [.null, .null])), (l1, .inr (2, [.null, .null])), (l2, .inr (2, [.null, .null])), (l3, .inr (2, [.null, .null])), (l4, .inr (2, [.null, .null])), (l5, .inr (2, [.null, .null])), (l6, .inr (2, [.null, .null])), (l7, .inr (2, [.null, .null]))] := hD
        obtain ⟨f13, ef13⟩ : ∃ g : Nat → Int32, g = (upd (fun _ => 0) (50 : Int32).toNatClampNeg v) := ⟨_, rfl⟩
        rw [← ef13] at hP hD
        have hP : va_P (dC, dI) vwCl [(h0, .inr (1, [pv, .ref xt, .int 0, .int 0, .ref xr, .int 0, .int 0, .ref le, .ref lc, .ref ln, .ref al, .ref lo, .ref xg, .int 0, .null])), (le, .inl (kle, 400, .inl (f13))), (lc, .inl (klc, 8, .inl (fun _ => 0))), (ln, .inl (kln, 8, .inr (.inr (.inr (.inr (fun i => [l0, l1, l2, l3, l4, l5, l6, l7][i]?)))))), (l0, .inr (2, [.null, .null])), (l1, .inr (2, [.null, .null])), (l2, .inr (2, [.null, .null])), (l3, .inr (2, [.null, .null])), (l4, .inr (2, [.null, .null])), (l5, .inr (2, [.null, .null])), (l6, .inr (2, [.null, .null])), (l7, .inr (2, [.null, .null]))] H := hP
        have hD : va_D A [(h0, .inr (1, [pv, .ref xt, .int 0, .int 0, .ref xr, .int 0, .int 0, .ref le, .ref lc, .ref ln, .ref al, .ref lo, .ref xg, .int 0, .null])), (le, .inl (kle, 400, .inl (f13))), (lc, .inl (klc, 8, .inl (fun _ => 0))), (ln, .inl (kln, 8, .inr (.inr (.inr (.inr (fun i => [l0, l1, l2, l3, l4, l5, l6, l7][i]?)))))), (l0, .inr (2, [.null, .null])), (l1, .inr (2, [.null, .null])), (l2, .inr (2, [.null, .null])), (l3, .inr (2, [.null, .null])), (l4, .inr (2, [.null, .null])), (l5, .inr (2, [.null, .null])), (l6, .inr (2, [.null, .null])), (l7, .inr (2, [.null, .null]))] := hD
        refine lv_aload_n hx hb dX1_deliver_55 rfl (lv_at hl 1 rfl) ?_
        refine va_get (D := (dC, dI)) (ci := 1) (v := .ref lc) (C := RX1) (T := TX1) (N := 15) hx hb hts in_X1 hown hK hP 0 rfl rfl 8 (by decide) (hts _ wd_250) (fun _ h9 => h9) rfl dX1_deliver_56 ?_
        refine lv_iload_n hx hb dX1_deliver_59 rfl (lv_at hl 2 rfl) ?_
        refine lv_dup2_11 hx hb dX1_deliver_60 rfl rfl ?_
        refine va_iald hx hb hK hP 2 1 rfl rfl (px_in 1 8 (by decide +kernel)) dX1_deliver_61 ?_
        refine lv_topi (fun z14 ez14 => ?_)
        obtain rfl : z14 = 0 := ez14.trans (by first | rfl | decide)
        refine lv_iconst (v := 1) hx hb dX1_deliver_62 (by decide) ?_
        refine lv_iadd hx hb dX1_deliver_63 ?_
        refine lv_topi (fun z15 ez15 => ?_)
        obtain rfl : z15 = 1 := ez15.trans (by decide)
        refine va_iast hx hb hK hP hD hS 2 1 rfl rfl (px_in 1 8 (by decide +kernel)) dX1_deliver_64 (fun H locs hP hD hS => ?_)
        have hP : va_P (dC, dI) vwCl [(h0, .inr (1, [pv, .ref xt, .int 0, .int 0, .ref xr, .int 0, .int 0, .ref le, .ref lc, .ref ln, .ref al, .ref lo, .ref xg, .int 0, .null])), (le, .inl (kle, 400, .inl (f13))), (lc, .inl (klc, 8, .inl (upd (fun _ => 0) (1 : Int32).toNatClampNeg 1))), (ln, .inl (kln, 8, .inr (.inr (.inr (.inr (fun i => [l0, l1, l2, l3, l4, l5, l6, l7][i]?)))))), (l0, .inr (2, [.null, .null])), (l1, .inr (2, [.null, .null])), (l2, .inr (2, [.null, .null])), (l3, .inr (2, [.null, .null])), (l4, .inr (2, [.null, .null])), (l5, .inr (2, [.null, .null])), (l6, .inr (2, [.null, .null])), (l7, .inr (2, [.null, .null]))] H := hP
        have hD : va_D A [(h0, .inr (1, [pv, .ref xt, .int 0, .int 0, .ref xr, .int 0, .int 0, .ref le, .ref lc, .ref ln, .ref al, .ref lo, .ref xg, .int 0, .null])), (le, .inl (kle, 400, .inl (f13))), (lc, .inl (klc, 8, .inl (upd (fun _ => 0) (1 : Int32).toNatClampNeg 1))), (ln, .inl (kln, 8, .inr (.inr (.inr (.inr (fun i => [l0, l1, l2, l3, l4, l5, l6, l7][i]?)))))), (l0, .inr (2, [.null, .null])), (l1, .inr (2, [.null, .null])), (l2, .inr (2, [.null, .null])), (l3, .inr (2, [.null, .null])), (l4, .inr (2, [.null, .null])), (l5, .inr (2, [.null, .null])), (l6, .inr (2, [.null, .null])), (l7, .inr (2, [.null, .null]))] := hD
        refine lv_iconst (v := -1) hx hb dX1_deliver_65 (by decide) ?_
        have hP9 := hP.sub (ws' := []) [] rfl
        have hD9 := hD.sub (ws' := []) [] (by decide) rfl
        have hK9 := hK.sub (tys' := []) [] rfl
        refine W.widen (k := 0) (n := 0) (Nat.le_of_ble_eq_true rfl) (Nat.le_of_ble_eq_true rfl) ?_
        exact W.iret (v := -1) hx hb hr (fun t ht hW => ⟨⟨-1, (), rfl, (by decide), by rw [ht]; exact hP9, va_K.moved hW.alike hK9, hD9⟩, hS.F ht⟩) hS.2.2 dX1_deliver_66
      · refine lv_aload_n hx hb dX1_deliver_24 rfl (lv_at hl 0 rfl) ?_
        refine va_get (D := (dC, dI)) (ci := 1) (v := .ref ln) (C := RX1) (T := TX1) (N := 15) hx hb hts in_X1 hown hK hP 0 rfl rfl 9 (by decide) (hts _ wd_253) (fun _ h9 => h9) rfl dX1_deliver_25 ?_
        refine lv_iload_n hx hb dX1_deliver_28 rfl (lv_at hl 1 rfl) ?_
        refine va_aldq hx hb hK hP 3 2 rfl rfl (px_in 2 8 (by decide +kernel)) dX1_deliver_29 ?_
        refine W.eq (g2 := F0 m 30 ls [.ref l2]) rfl ?_
        refine va_get (D := (dC, dI)) (ci := 2) (v := .null) (C := RX2) (T := TX2) (N := 2) hx hb hts in_X2 hown hK hP 6 rfl rfl 0 (by decide) (hts _ wd_209) (fun _ h9 => h9) rfl dX1_deliver_30 ?_
        refine lv_astore_nN (lv' := [(3, .null), (0, .ref h0), (1, .int 2), (2, .int v)]) hx hb dX1_deliver_33 rfl hl (by decide) rfl (fun ls hl => ?_)
        refine lv_aload_nN hx hb dX1_deliver_34 rfl (lv_at hl 0 rfl) ?_
        refine lv_ifnonnullN hx hb dX1_deliver_35 ?_
        refine lv_aload_n hx hb dX1_deliver_38 rfl (lv_at hl 1 rfl) ?_
        refine va_get (D := (dC, dI)) (ci := 1) (v := .ref le) (C := RX1) (T := TX1) (N := 15) hx hb hts in_X1 hown hK hP 0 rfl rfl 7 (by decide) (hts _ wd_248) (fun _ h9 => h9) rfl dX1_deliver_39 ?_
        refine lv_iload_n hx hb dX1_deliver_42 rfl (lv_at hl 2 rfl) ?_
        refine lv_bipush (v := 50) hx hb dX1_deliver_43 (by decide) ?_
        refine lv_imul hx hb dX1_deliver_45 ?_
        refine lv_topi (fun z16 ez16 => ?_)
        obtain rfl : z16 = 100 := ez16.trans (by decide)
        refine lv_aload_n hx hb dX1_deliver_46 rfl (lv_at hl 1 rfl) ?_
        refine va_get (D := (dC, dI)) (ci := 1) (v := .ref lc) (C := RX1) (T := TX1) (N := 15) hx hb hts in_X1 hown hK hP 0 rfl rfl 8 (by decide) (hts _ wd_250) (fun _ h9 => h9) rfl dX1_deliver_47 ?_
        refine lv_iload_n hx hb dX1_deliver_50 rfl (lv_at hl 2 rfl) ?_
        refine va_iald hx hb hK hP 2 1 rfl rfl (px_in 2 8 (by decide +kernel)) dX1_deliver_51 ?_
        refine lv_topi (fun z17 ez17 => ?_)
        obtain rfl : z17 = 0 := ez17.trans (by first | rfl | decide)
        refine lv_iadd hx hb dX1_deliver_52 ?_
        refine lv_topi (fun z18 ez18 => ?_)
        obtain rfl : z18 = 100 := ez18.trans (by decide)
        refine lv_iload_n hx hb dX1_deliver_53 rfl (lv_at hl 3 rfl) ?_
        refine va_iast hx hb hK hP hD hS 1 0 rfl rfl (px_in 100 400 (by decide +kernel)) dX1_deliver_54 (fun H locs hP hD hS => ?_)
        have hP : va_P (dC, dI) vwCl [(h0, .inr (1, [pv, .ref xt, .int 0, .int 0, .ref xr, .int 0, .int 0, .ref le, .ref lc, .ref ln, .ref al, .ref lo, .ref xg, .int 0, .null])), (le, .inl (kle, 400, .inl (upd (fun _ => 0) (100 : Int32).toNatClampNeg v))), (lc, .inl (klc, 8, .inl (fun _ => 0))), (ln, .inl (kln, 8, .inr (.inr (.inr (.inr (fun i => [l0, l1, l2, l3, l4, l5, l6, l7][i]?)))))), (l0, .inr (2, [.null, .null])), (l1, .inr (2, [.null, .null])), (l2, .inr (2, [.null, .null])), (l3, .inr (2, [.null, .null])), (l4, .inr (2, [.null, .null])), (l5, .inr (2, [.null, .null])), (l6, .inr (2, [.null, .null])), (l7, .inr (2, [.null, .null]))] H := hP
        have hD : va_D A [(h0, .inr (1, [pv, .ref xt, .int 0, .int 0, .ref xr, .int 0, .int 0, .ref le, .ref lc, .ref ln, .ref al, .ref lo, .ref xg, .int 0, .null])), (le, .inl (kle, 400, .inl (upd (fun _ => 0) (100 : Int32).toNatClampNeg v))), (lc, .inl (klc, 8, .inl (fun _ => 0))), (ln, .inl (kln, 8, .inr (.inr (.inr (.inr (fun i => [l0, l1, l2, l3, l4, l5, l6, l7][i]?)))))), (l0, .inr (2, [.null, .null])), (l1, .inr (2, [.null, .null])), (l2, .inr (2, [.null, .null])), (l3, .inr (2, [.null, .null])), (l4, .inr (2, [.null, .null])), (l5, .inr (2, [.null, .null])), (l6, .inr (2, [.null, .null])), (l7, .inr (2, [.null, .null]))] := hD
        obtain ⟨f19, ef19⟩ : ∃ g : Nat → Int32, g = (upd (fun _ => 0) (100 : Int32).toNatClampNeg v) := ⟨_, rfl⟩
        rw [← ef19] at hP hD
        have hP : va_P (dC, dI) vwCl [(h0, .inr (1, [pv, .ref xt, .int 0, .int 0, .ref xr, .int 0, .int 0, .ref le, .ref lc, .ref ln, .ref al, .ref lo, .ref xg, .int 0, .null])), (le, .inl (kle, 400, .inl (f19))), (lc, .inl (klc, 8, .inl (fun _ => 0))), (ln, .inl (kln, 8, .inr (.inr (.inr (.inr (fun i => [l0, l1, l2, l3, l4, l5, l6, l7][i]?)))))), (l0, .inr (2, [.null, .null])), (l1, .inr (2, [.null, .null])), (l2, .inr (2, [.null, .null])), (l3, .inr (2, [.null, .null])), (l4, .inr (2, [.null, .null])), (l5, .inr (2, [.null, .null])), (l6, .inr (2, [.null, .null])), (l7, .inr (2, [.null, .null]))] H := hP
        have hD : va_D A [(h0, .inr (1, [pv, .ref xt, .int 0, .int 0, .ref xr, .int 0, .int 0, .ref le, .ref lc, .ref ln, .ref al, .ref lo, .ref xg, .int 0, .null])), (le, .inl (kle, 400, .inl (f19))), (lc, .inl (klc, 8, .inl (fun _ => 0))), (ln, .inl (kln, 8, .inr (.inr (.inr (.inr (fun i => [l0, l1, l2, l3, l4, l5, l6, l7][i]?)))))), (l0, .inr (2, [.null, .null])), (l1, .inr (2, [.null, .null])), (l2, .inr (2, [.null, .null])), (l3, .inr (2, [.null, .null])), (l4, .inr (2, [.null, .null])), (l5, .inr (2, [.null, .null])), (l6, .inr (2, [.null, .null])), (l7, .inr (2, [.null, .null]))] := hD
        refine lv_aload_n hx hb dX1_deliver_55 rfl (lv_at hl 1 rfl) ?_
        refine va_get (D := (dC, dI)) (ci := 1) (v := .ref lc) (C := RX1) (T := TX1) (N := 15) hx hb hts in_X1 hown hK hP 0 rfl rfl 8 (by decide) (hts _ wd_250) (fun _ h9 => h9) rfl dX1_deliver_56 ?_
        refine lv_iload_n hx hb dX1_deliver_59 rfl (lv_at hl 2 rfl) ?_
        refine lv_dup2_11 hx hb dX1_deliver_60 rfl rfl ?_
        refine va_iald hx hb hK hP 2 1 rfl rfl (px_in 2 8 (by decide +kernel)) dX1_deliver_61 ?_
        refine lv_topi (fun z20 ez20 => ?_)
        obtain rfl : z20 = 0 := ez20.trans (by first | rfl | decide)
        refine lv_iconst (v := 1) hx hb dX1_deliver_62 (by decide) ?_
        refine lv_iadd hx hb dX1_deliver_63 ?_
        refine lv_topi (fun z21 ez21 => ?_)
        obtain rfl : z21 = 1 := ez21.trans (by decide)
        refine va_iast hx hb hK hP hD hS 2 1 rfl rfl (px_in 2 8 (by decide +kernel)) dX1_deliver_64 (fun H locs hP hD hS => ?_)
        have hP : va_P (dC, dI) vwCl [(h0, .inr (1, [pv, .ref xt, .int 0, .int 0, .ref xr, .int 0, .int 0, .ref le, .ref lc, .ref ln, .ref al, .ref lo, .ref xg, .int 0, .null])), (le, .inl (kle, 400, .inl (f19))), (lc, .inl (klc, 8, .inl (upd (fun _ => 0) (2 : Int32).toNatClampNeg 1))), (ln, .inl (kln, 8, .inr (.inr (.inr (.inr (fun i => [l0, l1, l2, l3, l4, l5, l6, l7][i]?)))))), (l0, .inr (2, [.null, .null])), (l1, .inr (2, [.null, .null])), (l2, .inr (2, [.null, .null])), (l3, .inr (2, [.null, .null])), (l4, .inr (2, [.null, .null])), (l5, .inr (2, [.null, .null])), (l6, .inr (2, [.null, .null])), (l7, .inr (2, [.null, .null]))] H := hP
        have hD : va_D A [(h0, .inr (1, [pv, .ref xt, .int 0, .int 0, .ref xr, .int 0, .int 0, .ref le, .ref lc, .ref ln, .ref al, .ref lo, .ref xg, .int 0, .null])), (le, .inl (kle, 400, .inl (f19))), (lc, .inl (klc, 8, .inl (upd (fun _ => 0) (2 : Int32).toNatClampNeg 1))), (ln, .inl (kln, 8, .inr (.inr (.inr (.inr (fun i => [l0, l1, l2, l3, l4, l5, l6, l7][i]?)))))), (l0, .inr (2, [.null, .null])), (l1, .inr (2, [.null, .null])), (l2, .inr (2, [.null, .null])), (l3, .inr (2, [.null, .null])), (l4, .inr (2, [.null, .null])), (l5, .inr (2, [.null, .null])), (l6, .inr (2, [.null, .null])), (l7, .inr (2, [.null, .null]))] := hD
        refine lv_iconst (v := -1) hx hb dX1_deliver_65 (by decide) ?_
        have hP9 := hP.sub (ws' := []) [] rfl
        have hD9 := hD.sub (ws' := []) [] (by decide) rfl
        have hK9 := hK.sub (tys' := []) [] rfl
        refine W.widen (k := 0) (n := 0) (Nat.le_of_ble_eq_true rfl) (Nat.le_of_ble_eq_true rfl) ?_
        exact W.iret (v := -1) hx hb hr (fun t ht hW => ⟨⟨-1, (), rfl, (by decide), by rw [ht]; exact hP9, va_K.moved hW.alike hK9, hD9⟩, hS.F ht⟩) hS.2.2 dX1_deliver_66
      · refine lv_aload_n hx hb dX1_deliver_24 rfl (lv_at hl 0 rfl) ?_
        refine va_get (D := (dC, dI)) (ci := 1) (v := .ref ln) (C := RX1) (T := TX1) (N := 15) hx hb hts in_X1 hown hK hP 0 rfl rfl 9 (by decide) (hts _ wd_253) (fun _ h9 => h9) rfl dX1_deliver_25 ?_
        refine lv_iload_n hx hb dX1_deliver_28 rfl (lv_at hl 1 rfl) ?_
        refine va_aldq hx hb hK hP 3 2 rfl rfl (px_in 3 8 (by decide +kernel)) dX1_deliver_29 ?_
        refine W.eq (g2 := F0 m 30 ls [.ref l3]) rfl ?_
        refine va_get (D := (dC, dI)) (ci := 2) (v := .null) (C := RX2) (T := TX2) (N := 2) hx hb hts in_X2 hown hK hP 7 rfl rfl 0 (by decide) (hts _ wd_209) (fun _ h9 => h9) rfl dX1_deliver_30 ?_
        refine lv_astore_nN (lv' := [(3, .null), (0, .ref h0), (1, .int 3), (2, .int v)]) hx hb dX1_deliver_33 rfl hl (by decide) rfl (fun ls hl => ?_)
        refine lv_aload_nN hx hb dX1_deliver_34 rfl (lv_at hl 0 rfl) ?_
        refine lv_ifnonnullN hx hb dX1_deliver_35 ?_
        refine lv_aload_n hx hb dX1_deliver_38 rfl (lv_at hl 1 rfl) ?_
        refine va_get (D := (dC, dI)) (ci := 1) (v := .ref le) (C := RX1) (T := TX1) (N := 15) hx hb hts in_X1 hown hK hP 0 rfl rfl 7 (by decide) (hts _ wd_248) (fun _ h9 => h9) rfl dX1_deliver_39 ?_
        refine lv_iload_n hx hb dX1_deliver_42 rfl (lv_at hl 2 rfl) ?_
        refine lv_bipush (v := 50) hx hb dX1_deliver_43 (by decide) ?_
        refine lv_imul hx hb dX1_deliver_45 ?_
        refine lv_topi (fun z22 ez22 => ?_)
        obtain rfl : z22 = 150 := ez22.trans (by decide)
        refine lv_aload_n hx hb dX1_deliver_46 rfl (lv_at hl 1 rfl) ?_
        refine va_get (D := (dC, dI)) (ci := 1) (v := .ref lc) (C := RX1) (T := TX1) (N := 15) hx hb hts in_X1 hown hK hP 0 rfl rfl 8 (by decide) (hts _ wd_250) (fun _ h9 => h9) rfl dX1_deliver_47 ?_
        refine lv_iload_n hx hb dX1_deliver_50 rfl (lv_at hl 2 rfl) ?_
        refine va_iald hx hb hK hP 2 1 rfl rfl (px_in 3 8 (by decide +kernel)) dX1_deliver_51 ?_
        refine lv_topi (fun z23 ez23 => ?_)
        obtain rfl : z23 = 0 := ez23.trans (by first | rfl | decide)
        refine lv_iadd hx hb dX1_deliver_52 ?_
        refine lv_topi (fun z24 ez24 => ?_)
        obtain rfl : z24 = 150 := ez24.trans (by decide)
        refine lv_iload_n hx hb dX1_deliver_53 rfl (lv_at hl 3 rfl) ?_
        refine va_iast hx hb hK hP hD hS 1 0 rfl rfl (px_in 150 400 (by decide +kernel)) dX1_deliver_54 (fun H locs hP hD hS => ?_)
        have hP : va_P (dC, dI) vwCl [(h0, .inr (1, [pv, .ref xt, .int 0, .int 0, .ref xr, .int 0, .int 0, .ref le, .ref lc, .ref ln, .ref al, .ref lo, .ref xg, .int 0, .null])), (le, .inl (kle, 400, .inl (upd (fun _ => 0) (150 : Int32).toNatClampNeg v))), (lc, .inl (klc, 8, .inl (fun _ => 0))), (ln, .inl (kln, 8, .inr (.inr (.inr (.inr (fun i => [l0, l1, l2, l3, l4, l5, l6, l7][i]?)))))), (l0, .inr (2, [.null, .null])), (l1, .inr (2, [.null, .null])), (l2, .inr (2, [.null, .null])), (l3, .inr (2, [.null, .null])), (l4, .inr (2, [.null, .null])), (l5, .inr (2, [.null, .null])), (l6, .inr (2, [.null, .null])), (l7, .inr (2, [.null, .null]))] H := hP
        have hD : va_D A [(h0, .inr (1, [pv, .ref xt, .int 0, .int 0, .ref xr, .int 0, .int 0, .ref le, .ref lc, .ref ln, .ref al, .ref lo, .ref xg, .int 0, .null])), (le, .inl (kle, 400, .inl (upd (fun _ => 0) (150 : Int32).toNatClampNeg v))), (lc, .inl (klc, 8, .inl (fun _ => 0))), (ln, .inl (kln, 8, .inr (.inr (.inr (.inr (fun i => [l0, l1, l2, l3, l4, l5, l6, l7][i]?)))))), (l0, .inr (2, [.null, .null])), (l1, .inr (2, [.null, .null])), (l2, .inr (2, [.null, .null])), (l3, .inr (2, [.null, .null])), (l4, .inr (2, [.null, .null])), (l5, .inr (2, [.null, .null])), (l6, .inr (2, [.null, .null])), (l7, .inr (2, [.null, .null]))] := hD
        obtain ⟨f25, ef25⟩ : ∃ g : Nat → Int32, g = (upd (fun _ => 0) (150 : Int32).toNatClampNeg v) := ⟨_, rfl⟩
        rw [← ef25] at hP hD
        have hP : va_P (dC, dI) vwCl [(h0, .inr (1, [pv, .ref xt, .int 0, .int 0, .ref xr, .int 0, .int 0, .ref le, .ref lc, .ref ln, .ref al, .ref lo, .ref xg, .int 0, .null])), (le, .inl (kle, 400, .inl (f25))), (lc, .inl (klc, 8, .inl (fun _ => 0))), (ln, .inl (kln, 8, .inr (.inr (.inr (.inr (fun i => [l0, l1, l2, l3, l4, l5, l6, l7][i]?)))))), (l0, .inr (2, [.null, .null])), (l1, .inr (2, [.null, .null])), (l2, .inr (2, [.null, .null])), (l3, .inr (2, [.null, .null])), (l4, .inr (2, [.null, .null])), (l5, .inr (2, [.null, .null])), (l6, .inr (2, [.null, .null])), (l7, .inr (2, [.null, .null]))] H := hP
        have hD : va_D A [(h0, .inr (1, [pv, .ref xt, .int 0, .int 0, .ref xr, .int 0, .int 0, .ref le, .ref lc, .ref ln, .ref al, .ref lo, .ref xg, .int 0, .null])), (le, .inl (kle, 400, .inl (f25))), (lc, .inl (klc, 8, .inl (fun _ => 0))), (ln, .inl (kln, 8, .inr (.inr (.inr (.inr (fun i => [l0, l1, l2, l3, l4, l5, l6, l7][i]?)))))), (l0, .inr (2, [.null, .null])), (l1, .inr (2, [.null, .null])), (l2, .inr (2, [.null, .null])), (l3, .inr (2, [.null, .null])), (l4, .inr (2, [.null, .null])), (l5, .inr (2, [.null, .null])), (l6, .inr (2, [.null, .null])), (l7, .inr (2, [.null, .null]))] := hD
        refine lv_aload_n hx hb dX1_deliver_55 rfl (lv_at hl 1 rfl) ?_
        refine va_get (D := (dC, dI)) (ci := 1) (v := .ref lc) (C := RX1) (T := TX1) (N := 15) hx hb hts in_X1 hown hK hP 0 rfl rfl 8 (by decide) (hts _ wd_250) (fun _ h9 => h9) rfl dX1_deliver_56 ?_
        refine lv_iload_n hx hb dX1_deliver_59 rfl (lv_at hl 2 rfl) ?_
        refine lv_dup2_11 hx hb dX1_deliver_60 rfl rfl ?_
        refine va_iald hx hb hK hP 2 1 rfl rfl (px_in 3 8 (by decide +kernel)) dX1_deliver_61 ?_
        refine lv_topi (fun z26 ez26 => ?_)
        obtain rfl : z26 = 0 := ez26.trans (by first | rfl | decide)
        refine lv_iconst (v := 1) hx hb dX1_deliver_62 (by decide) ?_
        refine lv_iadd hx hb dX1_deliver_63 ?_
        refine lv_topi (fun z27 ez27 => ?_)
        obtain rfl : z27 = 1 := ez27.trans (by decide)
        refine va_iast hx hb hK hP hD hS 2 1 rfl rfl (px_in 3 8 (by decide +kernel)) dX1_deliver_64 (fun H locs hP hD hS => ?_)
        have hP : va_P (dC, dI) vwCl [(h0, .inr (1, [pv, .ref xt, .int 0, .int 0, .ref xr, .int 0, .int 0, .ref le, .ref lc, .ref ln, .ref al, .ref lo, .ref xg, .int 0, .null])), (le, .inl (kle, 400, .inl (f25))), (lc, .inl (klc, 8, .inl (upd (fun _ => 0) (3 : Int32).toNatClampNeg 1))), (ln, .inl (kln, 8, .inr (.inr (.inr (.inr (fun i => [l0, l1, l2, l3, l4, l5, l6, l7][i]?)))))), (l0, .inr (2, [.null, .null])), (l1, .inr (2, [.null, .null])), (l2, .inr (2, [.null, .null])), (l3, .inr (2, [.null, .null])), (l4, .inr (2, [.null, .null])), (l5, .inr (2, [.null, .null])), (l6, .inr (2, [.null, .null])), (l7, .inr (2, [.null, .null]))] H := hP
        have hD : va_D A [(h0, .inr (1, [pv, .ref xt, .int 0, .int 0, .ref xr, .int 0, .int 0, .ref le, .ref lc, .ref ln, .ref al, .ref lo, .ref xg, .int 0, .null])), (le, .inl (kle, 400, .inl (f25))), (lc, .inl (klc, 8, .inl (upd (fun _ => 0) (3 : Int32).toNatClampNeg 1))), (ln, .inl (kln, 8, .inr (.inr (.inr (.inr (fun i => [l0, l1, l2, l3, l4, l5, l6, l7][i]?)))))), (l0, .inr (2, [.null, .null])), (l1, .inr (2, [.null, .null])), (l2, .inr (2, [.null, .null])), (l3, .inr (2, [.null, .null])), (l4, .inr (2, [.null, .null])), (l5, .inr (2, [.null, .null])), (l6, .inr (2, [.null, .null])), (l7, .inr (2, [.null, .null]))] := hD
        refine lv_iconst (v := -1) hx hb dX1_deliver_65 (by decide) ?_
        have hP9 := hP.sub (ws' := []) [] rfl
        have hD9 := hD.sub (ws' := []) [] (by decide) rfl
        have hK9 := hK.sub (tys' := []) [] rfl
        refine W.widen (k := 0) (n := 0) (Nat.le_of_ble_eq_true rfl) (Nat.le_of_ble_eq_true rfl) ?_
        exact W.iret (v := -1) hx hb hr (fun t ht hW => ⟨⟨-1, (), rfl, (by decide), by rw [ht]; exact hP9, va_K.moved hW.alike hK9, hD9⟩, hS.F ht⟩) hS.2.2 dX1_deliver_66
      · refine lv_aload_n hx hb dX1_deliver_24 rfl (lv_at hl 0 rfl) ?_
        refine va_get (D := (dC, dI)) (ci := 1) (v := .ref ln) (C := RX1) (T := TX1) (N := 15) hx hb hts in_X1 hown hK hP 0 rfl rfl 9 (by decide) (hts _ wd_253) (fun _ h9 => h9) rfl dX1_deliver_25 ?_
        refine lv_iload_n hx hb dX1_deliver_28 rfl (lv_at hl 1 rfl) ?_
        refine va_aldq hx hb hK hP 3 2 rfl rfl (px_in 4 8 (by decide +kernel)) dX1_deliver_29 ?_
        refine W.eq (g2 := F0 m 30 ls [.ref l4]) rfl ?_
        refine va_get (D := (dC, dI)) (ci := 2) (v := .null) (C := RX2) (T := TX2) (N := 2) hx hb hts in_X2 hown hK hP 8 rfl rfl 0 (by decide) (hts _ wd_209) (fun _ h9 => h9) rfl dX1_deliver_30 ?_
        refine lv_astore_nN (lv' := [(3, .null), (0, .ref h0), (1, .int 4), (2, .int v)]) hx hb dX1_deliver_33 rfl hl (by decide) rfl (fun ls hl => ?_)
        refine lv_aload_nN hx hb dX1_deliver_34 rfl (lv_at hl 0 rfl) ?_
        refine lv_ifnonnullN hx hb dX1_deliver_35 ?_
        refine lv_aload_n hx hb dX1_deliver_38 rfl (lv_at hl 1 rfl) ?_
        refine va_get (D := (dC, dI)) (ci := 1) (v := .ref le) (C := RX1) (T := TX1) (N := 15) hx hb hts in_X1 hown hK hP 0 rfl rfl 7 (by decide) (hts _ wd_248) (fun _ h9 => h9) rfl dX1_deliver_39 ?_
        refine lv_iload_n hx hb dX1_deliver_42 rfl (lv_at hl 2 rfl) ?_
        refine lv_bipush (v := 50) hx hb dX1_deliver_43 (by decide) ?_
        refine lv_imul hx hb dX1_deliver_45 ?_
        refine lv_topi (fun z28 ez28 => ?_)
        obtain rfl : z28 = 200 := ez28.trans (by decide)
        refine lv_aload_n hx hb dX1_deliver_46 rfl (lv_at hl 1 rfl) ?_
        refine va_get (D := (dC, dI)) (ci := 1) (v := .ref lc) (C := RX1) (T := TX1) (N := 15) hx hb hts in_X1 hown hK hP 0 rfl rfl 8 (by decide) (hts _ wd_250) (fun _ h9 => h9) rfl dX1_deliver_47 ?_
        refine lv_iload_n hx hb dX1_deliver_50 rfl (lv_at hl 2 rfl) ?_
        refine va_iald hx hb hK hP 2 1 rfl rfl (px_in 4 8 (by decide +kernel)) dX1_deliver_51 ?_
        refine lv_topi (fun z29 ez29 => ?_)
        obtain rfl : z29 = 0 := ez29.trans (by first | rfl | decide)
        refine lv_iadd hx hb dX1_deliver_52 ?_
        refine lv_topi (fun z30 ez30 => ?_)
        obtain rfl : z30 = 200 := ez30.trans (by decide)
        refine lv_iload_n hx hb dX1_deliver_53 rfl (lv_at hl 3 rfl) ?_
        refine va_iast hx hb hK hP hD hS 1 0 rfl rfl (px_in 200 400 (by decide +kernel)) dX1_deliver_54 (fun H locs hP hD hS => ?_)
        have hP : va_P (dC, dI) vwCl [(h0, .inr (1, [pv, .ref xt, .int 0, .int 0, .ref xr, .int 0, .int 0, .ref le, .ref lc, .ref ln, .ref al, .ref lo, .ref xg, .int 0, .null])), (le, .inl (kle, 400, .inl (upd (fun _ => 0) (200 : Int32).toNatClampNeg v))), (lc, .inl (klc, 8, .inl (fun _ => 0))), (ln, .inl (kln, 8, .inr (.inr (.inr (.inr (fun i => [l0, l1, l2, l3, l4, l5, l6, l7][i]?)))))), (l0, .inr (2, [.null, .null])), (l1, .inr (2, [.null, .null])), (l2, .inr (2, [.null, .null])), (l3, .inr (2, [.null, .null])), (l4, .inr (2, [.null, .null])), (l5, .inr (2, [.null, .null])), (l6, .inr (2, [.null, .null])), (l7, .inr (2, [.null, .null]))] H := hP
        have hD : va_D A [(h0, .inr (1, [pv, .ref xt, .int 0, .int 0, .ref xr, .int 0, .int 0, .ref le, .ref lc, .ref ln, .ref al, .ref lo, .ref xg, .int 0, .null])), (le, .inl (kle, 400, .inl (upd (fun _ => 0) (200 : Int32).toNatClampNeg v))), (lc, .inl (klc, 8, .inl (fun _ => 0))), (ln, .inl (kln, 8, .inr (.inr (.inr (.inr (fun i => [l0, l1, l2, l3, l4, l5, l6, l7][i]?)))))), (l0, .inr (2, [.null, .null])), (l1, .inr (2, [.null, .null])), (l2, .inr (2, [.null, .null])), (l3, .inr (2, [.null, .null])), (l4, .inr (2, [.null, .null])), (l5, .inr (2, [.null, .null])), (l6, .inr (2, [.null, .null])), (l7, .inr (2, [.null, .null]))] := hD
        obtain ⟨f31, ef31⟩ : ∃ g : Nat → Int32, g = (upd (fun _ => 0) (200 : Int32).toNatClampNeg v) := ⟨_, rfl⟩
        rw [← ef31] at hP hD
        have hP : va_P (dC, dI) vwCl [(h0, .inr (1, [pv, .ref xt, .int 0, .int 0, .ref xr, .int 0, .int 0, .ref le, .ref lc, .ref ln, .ref al, .ref lo, .ref xg, .int 0, .null])), (le, .inl (kle, 400, .inl (f31))), (lc, .inl (klc, 8, .inl (fun _ => 0))), (ln, .inl (kln, 8, .inr (.inr (.inr (.inr (fun i => [l0, l1, l2, l3, l4, l5, l6, l7][i]?)))))), (l0, .inr (2, [.null, .null])), (l1, .inr (2, [.null, .null])), (l2, .inr (2, [.null, .null])), (l3, .inr (2, [.null, .null])), (l4, .inr (2, [.null, .null])), (l5, .inr (2, [.null, .null])), (l6, .inr (2, [.null, .null])), (l7, .inr (2, [.null, .null]))] H := hP
        have hD : va_D A [(h0, .inr (1, [pv, .ref xt, .int 0, .int 0, .ref xr, .int 0, .int 0, .ref le, .ref lc, .ref ln, .ref al, .ref lo, .ref xg, .int 0, .null])), (le, .inl (kle, 400, .inl (f31))), (lc, .inl (klc, 8, .inl (fun _ => 0))), (ln, .inl (kln, 8, .inr (.inr (.inr (.inr (fun i => [l0, l1, l2, l3, l4, l5, l6, l7][i]?)))))), (l0, .inr (2, [.null, .null])), (l1, .inr (2, [.null, .null])), (l2, .inr (2, [.null, .null])), (l3, .inr (2, [.null, .null])), (l4, .inr (2, [.null, .null])), (l5, .inr (2, [.null, .null])), (l6, .inr (2, [.null, .null])), (l7, .inr (2, [.null, .null]))] := hD
        refine lv_aload_n hx hb dX1_deliver_55 rfl (lv_at hl 1 rfl) ?_
        refine va_get (D := (dC, dI)) (ci := 1) (v := .ref lc) (C := RX1) (T := TX1) (N := 15) hx hb hts in_X1 hown hK hP 0 rfl rfl 8 (by decide) (hts _ wd_250) (fun _ h9 => h9) rfl dX1_deliver_56 ?_
        refine lv_iload_n hx hb dX1_deliver_59 rfl (lv_at hl 2 rfl) ?_
        refine lv_dup2_11 hx hb dX1_deliver_60 rfl rfl ?_
        refine va_iald hx hb hK hP 2 1 rfl rfl (px_in 4 8 (by decide +kernel)) dX1_deliver_61 ?_
        refine lv_topi (fun z32 ez32 => ?_)
        obtain rfl : z32 = 0 := ez32.trans (by first | rfl | decide)
        refine lv_iconst (v := 1) hx hb dX1_deliver_62 (by decide) ?_
        refine lv_iadd hx hb dX1_deliver_63 ?_
        refine lv_topi (fun z33 ez33 => ?_)
        obtain rfl : z33 = 1 := ez33.trans (by decide)
        refine va_iast hx hb hK hP hD hS 2 1 rfl rfl (px_in 4 8 (by decide +kernel)) dX1_deliver_64 (fun H locs hP hD hS => ?_)
        have hP : va_P (dC, dI) vwCl [(h0, .inr (1, [pv, .ref xt, .int 0, .int 0, .ref xr, .int 0, .int 0, .ref le, .ref lc, .ref ln, .ref al, .ref lo, .ref xg, .int 0, .null])), (le, .inl (kle, 400, .inl (f31))), (lc, .inl (klc, 8, .inl (upd (fun _ => 0) (4 : Int32).toNatClampNeg 1))), (ln, .inl (kln, 8, .inr (.inr (.inr (.inr (fun i => [l0, l1, l2, l3, l4, l5, l6, l7][i]?)))))), (l0, .inr (2, [.null, .null])), (l1, .inr (2, [.null, .null])), (l2, .inr (2, [.null, .null])), (l3, .inr (2, [.null, .null])), (l4, .inr (2, [.null, .null])), (l5, .inr (2, [.null, .null])), (l6, .inr (2, [.null, .null])), (l7, .inr (2, [.null, .null]))] H := hP
        have hD : va_D A [(h0, .inr (1, [pv, .ref xt, .int 0, .int 0, .ref xr, .int 0, .int 0, .ref le, .ref lc, .ref ln, .ref al, .ref lo, .ref xg, .int 0, .null])), (le, .inl (kle, 400, .inl (f31))), (lc, .inl (klc, 8, .inl (upd (fun _ => 0) (4 : Int32).toNatClampNeg 1))), (ln, .inl (kln, 8, .inr (.inr (.inr (.inr (fun i => [l0, l1, l2, l3, l4, l5, l6, l7][i]?)))))), (l0, .inr (2, [.null, .null])), (l1, .inr (2, [.null, .null])), (l2, .inr (2, [.null, .null])), (l3, .inr (2, [.null, .null])), (l4, .inr (2, [.null, .null])), (l5, .inr (2, [.null, .null])), (l6, .inr (2, [.null, .null])), (l7, .inr (2, [.null, .null]))] := hD
        refine lv_iconst (v := -1) hx hb dX1_deliver_65 (by decide) ?_
        have hP9 := hP.sub (ws' := []) [] rfl
        have hD9 := hD.sub (ws' := []) [] (by decide) rfl
        have hK9 := hK.sub (tys' := []) [] rfl
        refine W.widen (k := 0) (n := 0) (Nat.le_of_ble_eq_true rfl) (Nat.le_of_ble_eq_true rfl) ?_
        exact W.iret (v := -1) hx hb hr (fun t ht hW => ⟨⟨-1, (), rfl, (by decide), by rw [ht]; exact hP9, va_K.moved hW.alike hK9, hD9⟩, hS.F ht⟩) hS.2.2 dX1_deliver_66
      · refine lv_aload_n hx hb dX1_deliver_24 rfl (lv_at hl 0 rfl) ?_
        refine va_get (D := (dC, dI)) (ci := 1) (v := .ref ln) (C := RX1) (T := TX1) (N := 15) hx hb hts in_X1 hown hK hP 0 rfl rfl 9 (by decide) (hts _ wd_253) (fun _ h9 => h9) rfl dX1_deliver_25 ?_
        refine lv_iload_n hx hb dX1_deliver_28 rfl (lv_at hl 1 rfl) ?_
        refine va_aldq hx hb hK hP 3 2 rfl rfl (px_in 5 8 (by decide +kernel)) dX1_deliver_29 ?_
        refine W.eq (g2 := F0 m 30 ls [.ref l5]) rfl ?_
        refine va_get (D := (dC, dI)) (ci := 2) (v := .null) (C := RX2) (T := TX2) (N := 2) hx hb hts in_X2 hown hK hP 9 rfl rfl 0 (by decide) (hts _ wd_209) (fun _ h9 => h9) rfl dX1_deliver_30 ?_
        refine lv_astore_nN (lv' := [(3, .null), (0, .ref h0), (1, .int 5), (2, .int v)]) hx hb dX1_deliver_33 rfl hl (by decide) rfl (fun ls hl => ?_)
        refine lv_aload_nN hx hb dX1_deliver_34 rfl (lv_at hl 0 rfl) ?_
        refine lv_ifnonnullN hx hb dX1_deliver_35 ?_
        refine lv_aload_n hx hb dX1_deliver_38 rfl (lv_at hl 1 rfl) ?_
        refine va_get (D := (dC, dI)) (ci := 1) (v := .ref le) (C := RX1) (T := TX1) (N := 15) hx hb hts in_X1 hown hK hP 0 rfl rfl 7 (by decide) (hts _ wd_248) (fun _ h9 => h9) rfl dX1_deliver_39 ?_
        refine lv_iload_n hx hb dX1_deliver_42 rfl (lv_at hl 2 rfl) ?_
        refine lv_bipush (v := 50) hx hb dX1_deliver_43 (by decide) ?_
        refine lv_imul hx hb dX1_deliver_45 ?_
        refine lv_topi (fun z34 ez34 => ?_)
        obtain rfl : z34 = 250 := ez34.trans (by decide)
        refine lv_aload_n hx hb dX1_deliver_46 rfl (lv_at hl 1 rfl) ?_
        refine va_get (D := (dC, dI)) (ci := 1) (v := .ref lc) (C := RX1) (T := TX1) (N := 15) hx hb hts in_X1 hown hK hP 0 rfl rfl 8 (by decide) (hts _ wd_250) (fun _ h9 => h9) rfl dX1_deliver_47 ?_
        refine lv_iload_n hx hb dX1_deliver_50 rfl (lv_at hl 2 rfl) ?_
        refine va_iald hx hb hK hP 2 1 rfl rfl (px_in 5 8 (by decide +kernel)) dX1_deliver_51 ?_
        refine lv_topi (fun z35 ez35 => ?_)
        obtain rfl : z35 = 0 := ez35.trans (by first | rfl | decide)
        refine lv_iadd hx hb dX1_deliver_52 ?_
        refine lv_topi (fun z36 ez36 => ?_)
        obtain rfl : z36 = 250 := ez36.trans (by decide)
        refine lv_iload_n hx hb dX1_deliver_53 rfl (lv_at hl 3 rfl) ?_
        refine va_iast hx hb hK hP hD hS 1 0 rfl rfl (px_in 250 400 (by decide +kernel)) dX1_deliver_54 (fun H locs hP hD hS => ?_)
        have hP : va_P (dC, dI) vwCl [(h0, .inr (1, [pv, .ref xt, .int 0, .int 0, .ref xr, .int 0, .int 0, .ref le, .ref lc, .ref ln, .ref al, .ref lo, .ref xg, .int 0, .null])), (le, .inl (kle, 400, .inl (upd (fun _ => 0) (250 : Int32).toNatClampNeg v))), (lc, .inl (klc, 8, .inl (fun _ => 0))), (ln, .inl (kln, 8, .inr (.inr (.inr (.inr (fun i => [l0, l1, l2, l3, l4, l5, l6, l7][i]?)))))), (l0, .inr (2, [.null, .null])), (l1, .inr (2, [.null, .null])), (l2, .inr (2, [.null, .null])), (l3, .inr (2, [.null, .null])), (l4, .inr (2, [.null, .null])), (l5, .inr (2, [.null, .null])), (l6, .inr (2, [.null, .null])), (l7, .inr (2, [.null, .null]))] H := hP
        have hD : va_D A [(h0, .inr (1, [pv, .ref xt, .int 0, .int 0, .ref xr, .int 0, .int 0, .ref le, .ref lc, .ref ln, .ref al, .ref lo, .ref xg, .int 0, .null])), (le, .inl (kle, 400, .inl (upd (fun _ => 0) (250 : Int32).toNatClampNeg v))), (lc, .inl (klc, 8, .inl (fun _ => 0))), (ln, .inl (kln, 8, .inr (.inr (.inr (.inr (fun i => [l0, l1, l2, l3, l4, l5, l6, l7][i]?)))))), (l0, .inr (2, [.null, .null])), (l1, .inr (2, [.null, .null])), (l2, .inr (2, [.null, .null])), (l3, .inr (2, [.null, .null])), (l4, .inr (2, [.null, .null])), (l5, .inr (2, [.null, .null])), (l6, .inr (2, [.null, .null])), (l7, .inr (2, [.null, .null]))] := hD
        obtain ⟨f37, ef37⟩ : ∃ g : Nat → Int32, g = (upd (fun _ => 0) (250 : Int32).toNatClampNeg v) := ⟨_, rfl⟩
        rw [← ef37] at hP hD
        have hP : va_P (dC, dI) vwCl [(h0, .inr (1, [pv, .ref xt, .int 0, .int 0, .ref xr, .int 0, .int 0, .ref le, .ref lc, .ref ln, .ref al, .ref lo, .ref xg, .int 0, .null])), (le, .inl (kle, 400, .inl (f37))), (lc, .inl (klc, 8, .inl (fun _ => 0))), (ln, .inl (kln, 8, .inr (.inr (.inr (.inr (fun i => [l0, l1, l2, l3, l4, l5, l6, l7][i]?)))))), (l0, .inr (2, [.null, .null])), (l1, .inr (2, [.null, .null])), (l2, .inr (2, [.null, .null])), (l3, .inr (2, [.null, .null])), (l4, .inr (2, [.null, .null])), (l5, .inr (2, [.null, .null])), (l6, .inr (2, [.null, .null])), (l7, .inr (2, [.null, .null]))] H := hP
        have hD : va_D A [(h0, .inr (1, [pv, .ref xt, .int 0, .int 0, .ref xr, .int 0, .int 0, .ref le, .ref lc, .ref ln, .ref al, .ref lo, .ref xg, .int 0, .null])), (le, .inl (kle, 400, .inl (f37))), (lc, .inl (klc, 8, .inl (fun _ => 0))), (ln, .inl (kln, 8, .inr (.inr (.inr (.inr (fun i => [l0, l1, l2, l3, l4, l5, l6, l7][i]?)))))), (l0, .inr (2, [.null, .null])), (l1, .inr (2, [.null, .null])), (l2, .inr (2, [.null, .null])), (l3, .inr (2, [.null, .null])), (l4, .inr (2, [.null, .null])), (l5, .inr (2, [.null, .null])), (l6, .inr (2, [.null, .null])), (l7, .inr (2, [.null, .null]))] := hD
        refine lv_aload_n hx hb dX1_deliver_55 rfl (lv_at hl 1 rfl) ?_
        refine va_get (D := (dC, dI)) (ci := 1) (v := .ref lc) (C := RX1) (T := TX1) (N := 15) hx hb hts in_X1 hown hK hP 0 rfl rfl 8 (by decide) (hts _ wd_250) (fun _ h9 => h9) rfl dX1_deliver_56 ?_
        refine lv_iload_n hx hb dX1_deliver_59 rfl (lv_at hl 2 rfl) ?_
        refine lv_dup2_11 hx hb dX1_deliver_60 rfl rfl ?_
        refine va_iald hx hb hK hP 2 1 rfl rfl (px_in 5 8 (by decide +kernel)) dX1_deliver_61 ?_
        refine lv_topi (fun z38 ez38 => ?_)
        obtain rfl : z38 = 0 := ez38.trans (by first | rfl | decide)
        refine lv_iconst (v := 1) hx hb dX1_deliver_62 (by decide) ?_
        refine lv_iadd hx hb dX1_deliver_63 ?_
        refine lv_topi (fun z39 ez39 => ?_)
        obtain rfl : z39 = 1 := ez39.trans (by decide)
        refine va_iast hx hb hK hP hD hS 2 1 rfl rfl (px_in 5 8 (by decide +kernel)) dX1_deliver_64 (fun H locs hP hD hS => ?_)
        have hP : va_P (dC, dI) vwCl [(h0, .inr (1, [pv, .ref xt, .int 0, .int 0, .ref xr, .int 0, .int 0, .ref le, .ref lc, .ref ln, .ref al, .ref lo, .ref xg, .int 0, .null])), (le, .inl (kle, 400, .inl (f37))), (lc, .inl (klc, 8, .inl (upd (fun _ => 0) (5 : Int32).toNatClampNeg 1))), (ln, .inl (kln, 8, .inr (.inr (.inr (.inr (fun i => [l0, l1, l2, l3, l4, l5, l6, l7][i]?)))))), (l0, .inr (2, [.null, .null])), (l1, .inr (2, [.null, .null])), (l2, .inr (2, [.null, .null])), (l3, .inr (2, [.null, .null])), (l4, .inr (2, [.null, .null])), (l5, .inr (2, [.null, .null])), (l6, .inr (2, [.null, .null])), (l7, .inr (2, [.null, .null]))] H := hP
        have hD : va_D A [(h0, .inr (1, [pv, .ref xt, .int 0, .int 0, .ref xr, .int 0, .int 0, .ref le, .ref lc, .ref ln, .ref al, .ref lo, .ref xg, .int 0, .null])), (le, .inl (kle, 400, .inl (f37))), (lc, .inl (klc, 8, .inl (upd (fun _ => 0) (5 : Int32).toNatClampNeg 1))), (ln, .inl (kln, 8, .inr (.inr (.inr (.inr (fun i => [l0, l1, l2, l3, l4, l5, l6, l7][i]?)))))), (l0, .inr (2, [.null, .null])), (l1, .inr (2, [.null, .null])), (l2, .inr (2, [.null, .null])), (l3, .inr (2, [.null, .null])), (l4, .inr (2, [.null, .null])), (l5, .inr (2, [.null, .null])), (l6, .inr (2, [.null, .null])), (l7, .inr (2, [.null, .null]))] := hD
        refine lv_iconst (v := -1) hx hb dX1_deliver_65 (by decide) ?_
        have hP9 := hP.sub (ws' := []) [] rfl
        have hD9 := hD.sub (ws' := []) [] (by decide) rfl
        have hK9 := hK.sub (tys' := []) [] rfl
        refine W.widen (k := 0) (n := 0) (Nat.le_of_ble_eq_true rfl) (Nat.le_of_ble_eq_true rfl) ?_
        exact W.iret (v := -1) hx hb hr (fun t ht hW => ⟨⟨-1, (), rfl, (by decide), by rw [ht]; exact hP9, va_K.moved hW.alike hK9, hD9⟩, hS.F ht⟩) hS.2.2 dX1_deliver_66
      · refine lv_aload_n hx hb dX1_deliver_24 rfl (lv_at hl 0 rfl) ?_
        refine va_get (D := (dC, dI)) (ci := 1) (v := .ref ln) (C := RX1) (T := TX1) (N := 15) hx hb hts in_X1 hown hK hP 0 rfl rfl 9 (by decide) (hts _ wd_253) (fun _ h9 => h9) rfl dX1_deliver_25 ?_
        refine lv_iload_n hx hb dX1_deliver_28 rfl (lv_at hl 1 rfl) ?_
        refine va_aldq hx hb hK hP 3 2 rfl rfl (px_in 6 8 (by decide +kernel)) dX1_deliver_29 ?_
        refine W.eq (g2 := F0 m 30 ls [.ref l6]) rfl ?_
        refine va_get (D := (dC, dI)) (ci := 2) (v := .null) (C := RX2) (T := TX2) (N := 2) hx hb hts in_X2 hown hK hP 10 rfl rfl 0 (by decide) (hts _ wd_209) (fun _ h9 => h9) rfl dX1_deliver_30 ?_
        refine lv_astore_nN (lv' := [(3, .null), (0, .ref h0), (1, .int 6), (2, .int v)]) hx hb dX1_deliver_33 rfl hl (by decide) rfl (fun ls hl => ?_)
        refine lv_aload_nN hx hb dX1_deliver_34 rfl (lv_at hl 0 rfl) ?_
        refine lv_ifnonnullN hx hb dX1_deliver_35 ?_
        refine lv_aload_n hx hb dX1_deliver_38 rfl (lv_at hl 1 rfl) ?_
        refine va_get (D := (dC, dI)) (ci := 1) (v := .ref le) (C := RX1) (T := TX1) (N := 15) hx hb hts in_X1 hown hK hP 0 rfl rfl 7 (by decide) (hts _ wd_248) (fun _ h9 => h9) rfl dX1_deliver_39 ?_
        refine lv_iload_n hx hb dX1_deliver_42 rfl (lv_at hl 2 rfl) ?_
        refine lv_bipush (v := 50) hx hb dX1_deliver_43 (by decide) ?_
        refine lv_imul hx hb dX1_deliver_45 ?_
        refine lv_topi (fun z40 ez40 => ?_)
        obtain rfl : z40 = 300 := ez40.trans (by decide)
        refine lv_aload_n hx hb dX1_deliver_46 rfl (lv_at hl 1 rfl) ?_
        refine va_get (D := (dC, dI)) (ci := 1) (v := .ref lc) (C := RX1) (T := TX1) (N := 15) hx hb hts in_X1 hown hK hP 0 rfl rfl 8 (by decide) (hts _ wd_250) (fun _ h9 => h9) rfl dX1_deliver_47 ?_
        refine lv_iload_n hx hb dX1_deliver_50 rfl (lv_at hl 2 rfl) ?_
        refine va_iald hx hb hK hP 2 1 rfl rfl (px_in 6 8 (by decide +kernel)) dX1_deliver_51 ?_
        refine lv_topi (fun z41 ez41 => ?_)
        obtain rfl : z41 = 0 := ez41.trans (by first | rfl | decide)
        refine lv_iadd hx hb dX1_deliver_52 ?_
        refine lv_topi (fun z42 ez42 => ?_)
        obtain rfl : z42 = 300 := ez42.trans (by decide)
        refine lv_iload_n hx hb dX1_deliver_53 rfl (lv_at hl 3 rfl) ?_
        refine va_iast hx hb hK hP hD hS 1 0 rfl rfl (px_in 300 400 (by decide +kernel)) dX1_deliver_54 (fun H locs hP hD hS => ?_)
        have hP : va_P (dC, dI) vwCl [(h0, .inr (1, [pv, .ref xt, .int 0, .int 0, .ref xr, .int 0, .int 0, .ref le, .ref lc, .ref ln, .ref al, .ref lo, .ref xg, .int 0, .null])), (le, .inl (kle, 400, .inl (upd (fun _ => 0) (300 : Int32).toNatClampNeg v))), (lc, .inl (klc, 8, .inl (fun _ => 0))), (ln, .inl (kln, 8, .inr (.inr (.inr (.inr (fun i => [l0, l1, l2, l3, l4, l5, l6, l7][i]?)))))), (l0, .inr (2, [.null, .null])), (l1, .inr (2, [.null, .null])), (l2, .inr (2, [.null, .null])), (l3, .inr (2, [.null, .null])), (l4, .inr (2, [.null, .null])), (l5, .inr (2, [.null, .null])), (l6, .inr (2, [.null, .null])), (l7, .inr (2, [.null, .null]))] H := hP
        have hD : va_D A [(h0, .inr (1, [pv, .ref xt, .int 0, .int 0, .ref xr, .int 0, .int 0, .ref le, .ref lc, .ref ln, .ref al, .ref lo, .ref xg, .int 0, .null])), (le, .inl (kle, 400, .inl (upd (fun _ => 0) (300 : Int32).toNatClampNeg v))), (lc, .inl (klc, 8, .inl (fun _ => 0))), (ln, .inl (kln, 8, .inr (.inr (.inr (.inr (fun i => [l0, l1, l2, l3, l4, l5, l6, l7][i]?)))))), (l0, .inr (2, [.null, .null])), (l1, .inr (2, [.null, .null])), (l2, .inr (2, [.null, .null])), (l3, .inr (2, [.null, .null])), (l4, .inr (2, [.null, .null])), (l5, .inr (2, [.null, .null])), (l6, .inr (2, [.null, .null])), (l7, .inr (2, [.null, .null]))] := hD
        obtain ⟨f43, ef43⟩ : ∃ g : Nat → Int32, g = (upd (fun _ => 0) (300 : Int32).toNatClampNeg v) := ⟨_, rfl⟩
        rw [← ef43] at hP hD
        have hP : va_P (dC, dI) vwCl [(h0, .inr (1, [pv, .ref xt, .int 0, .int 0, .ref xr, .int 0, .int 0, .ref le, .ref lc, .ref ln, .ref al, .ref lo, .ref xg, .int 0, .null])), (le, .inl (kle, 400, .inl (f43))), (lc, .inl (klc, 8, .inl (fun _ => 0))), (ln, .inl (kln, 8, .inr (.inr (.inr (.inr (fun i => [l0, l1, l2, l3, l4, l5, l6, l7][i]?)))))), (l0, .inr (2, [.null, .null])), (l1, .inr (2, [.null, .null])), (l2, .inr (2, [.null, .null])), (l3, .inr (2, [.null, .null])), (l4, .inr (2, [.null, .null])), (l5, .inr (2, [.null, .null])), (l6, .inr (2, [.null, .null])), (l7, .inr (2, [.null, .null]))] H := hP
        have hD : va_D A [(h0, .inr (1, [pv, .ref xt, .int 0, .int 0, .ref xr, .int 0, .int 0, .ref le, .ref lc, .ref ln, .ref al, .ref lo, .ref xg, .int 0, .null])), (le, .inl (kle, 400, .inl (f43))), (lc, .inl (klc, 8, .inl (fun _ => 0))), (ln, .inl (kln, 8, .inr (.inr (.inr (.inr (fun i => [l0, l1, l2, l3, l4, l5, l6, l7][i]?)))))), (l0, .inr (2, [.null, .null])), (l1, .inr (2, [.null, .null])), (l2, .inr (2, [.null, .null])), (l3, .inr (2, [.null, .null])), (l4, .inr (2, [.null, .null])), (l5, .inr (2, [.null, .null])), (l6, .inr (2, [.null, .null])), (l7, .inr (2, [.null, .null]))] := hD
        refine lv_aload_n hx hb dX1_deliver_55 rfl (lv_at hl 1 rfl) ?_
        refine va_get (D := (dC, dI)) (ci := 1) (v := .ref lc) (C := RX1) (T := TX1) (N := 15) hx hb hts in_X1 hown hK hP 0 rfl rfl 8 (by decide) (hts _ wd_250) (fun _ h9 => h9) rfl dX1_deliver_56 ?_
        refine lv_iload_n hx hb dX1_deliver_59 rfl (lv_at hl 2 rfl) ?_
        refine lv_dup2_11 hx hb dX1_deliver_60 rfl rfl ?_
        refine va_iald hx hb hK hP 2 1 rfl rfl (px_in 6 8 (by decide +kernel)) dX1_deliver_61 ?_
        refine lv_topi (fun z44 ez44 => ?_)
        obtain rfl : z44 = 0 := ez44.trans (by first | rfl | decide)
        refine lv_iconst (v := 1) hx hb dX1_deliver_62 (by decide) ?_
        refine lv_iadd hx hb dX1_deliver_63 ?_
        refine lv_topi (fun z45 ez45 => ?_)
        obtain rfl : z45 = 1 := ez45.trans (by decide)
        refine va_iast hx hb hK hP hD hS 2 1 rfl rfl (px_in 6 8 (by decide +kernel)) dX1_deliver_64 (fun H locs hP hD hS => ?_)
        have hP : va_P (dC, dI) vwCl [(h0, .inr (1, [pv, .ref xt, .int 0, .int 0, .ref xr, .int 0, .int 0, .ref le, .ref lc, .ref ln, .ref al, .ref lo, .ref xg, .int 0, .null])), (le, .inl (kle, 400, .inl (f43))), (lc, .inl (klc, 8, .inl (upd (fun _ => 0) (6 : Int32).toNatClampNeg 1))), (ln, .inl (kln, 8, .inr (.inr (.inr (.inr (fun i => [l0, l1, l2, l3, l4, l5, l6, l7][i]?)))))), (l0, .inr (2, [.null, .null])), (l1, .inr (2, [.null, .null])), (l2, .inr (2, [.null, .null])), (l3, .inr (2, [.null, .null])), (l4, .inr (2, [.null, .null])), (l5, .inr (2, [.null, .null])), (l6, .inr (2, [.null, .null])), (l7, .inr (2, [.null, .null]))] H := hP
        have hD : va_D A [(h0, .inr (1, [pv, .ref xt, .int 0, .int 0, .ref xr, .int 0, .int 0, .ref le, .ref lc, .ref ln, .ref al, .ref lo, .ref xg, .int 0, .null])), (le, .inl (kle, 400, .inl (f43))), (lc, .inl (klc, 8, .inl (upd (fun _ => 0) (6 : Int32).toNatClampNeg 1))), (ln, .inl (kln, 8, .inr (.inr (.inr (.inr (fun i => [l0, l1, l2, l3, l4, l5, l6, l7][i]?)))))), (l0, .inr (2, [.null, .null])), (l1, .inr (2, [.null, .null])), (l2, .inr (2, [.null, .null])), (l3, .inr (2, [.null, .null])), (l4, .inr (2, [.null, .null])), (l5, .inr (2, [.null, .null])), (l6, .inr (2, [.null, .null])), (l7, .inr (2, [.null, .null]))] := hD
        refine lv_iconst (v := -1) hx hb dX1_deliver_65 (by decide) ?_
        have hP9 := hP.sub (ws' := []) [] rfl
        have hD9 := hD.sub (ws' := []) [] (by decide) rfl
        have hK9 := hK.sub (tys' := []) [] rfl
        refine W.widen (k := 0) (n := 0) (Nat.le_of_ble_eq_true rfl) (Nat.le_of_ble_eq_true rfl) ?_
        exact W.iret (v := -1) hx hb hr (fun t ht hW => ⟨⟨-1, (), rfl, (by decide), by rw [ht]; exact hP9, va_K.moved hW.alike hK9, hD9⟩, hS.F ht⟩) hS.2.2 dX1_deliver_66
      · refine lv_aload_n hx hb dX1_deliver_24 rfl (lv_at hl 0 rfl) ?_
        refine va_get (D := (dC, dI)) (ci := 1) (v := .ref ln) (C := RX1) (T := TX1) (N := 15) hx hb hts in_X1 hown hK hP 0 rfl rfl 9 (by decide) (hts _ wd_253) (fun _ h9 => h9) rfl dX1_deliver_25 ?_
        refine lv_iload_n hx hb dX1_deliver_28 rfl (lv_at hl 1 rfl) ?_
        refine va_aldq hx hb hK hP 3 2 rfl rfl (px_in 7 8 (by decide +kernel)) dX1_deliver_29 ?_
        refine W.eq (g2 := F0 m 30 ls [.ref l7]) rfl ?_
        refine va_get (D := (dC, dI)) (ci := 2) (v := .null) (C := RX2) (T := TX2) (N := 2) hx hb hts in_X2 hown hK hP 11 rfl rfl 0 (by decide) (hts _ wd_209) (fun _ h9 => h9) rfl dX1_deliver_30 ?_
        refine lv_astore_nN (lv' := [(3, .null), (0, .ref h0), (1, .int 7), (2, .int v)]) hx hb dX1_deliver_33 rfl hl (by decide) rfl (fun ls hl => ?_)
        refine lv_aload_nN hx hb dX1_deliver_34 rfl (lv_at hl 0 rfl) ?_
        refine lv_ifnonnullN hx hb dX1_deliver_35 ?_
        refine lv_aload_n hx hb dX1_deliver_38 rfl (lv_at hl 1 rfl) ?_
        refine va_get (D := (dC, dI)) (ci := 1) (v := .ref le) (C := RX1) (T := TX1) (N := 15) hx hb hts in_X1 hown hK hP 0 rfl rfl 7 (by decide) (hts _ wd_248) (fun _ h9 => h9) rfl dX1_deliver_39 ?_
        refine lv_iload_n hx hb dX1_deliver_42 rfl (lv_at hl 2 rfl) ?_
        refine lv_bipush (v := 50) hx hb dX1_deliver_43 (by decide) ?_
        refine lv_imul hx hb dX1_deliver_45 ?_
        refine lv_topi (fun z46 ez46 => ?_)
        obtain rfl : z46 = 350 := ez46.trans (by decide)
        refine lv_aload_n hx hb dX1_deliver_46 rfl (lv_at hl 1 rfl) ?_
        refine va_get (D := (dC, dI)) (ci := 1) (v := .ref lc) (C := RX1) (T := TX1) (N := 15) hx hb hts in_X1 hown hK hP 0 rfl rfl 8 (by decide) (hts _ wd_250) (fun _ h9 => h9) rfl dX1_deliver_47 ?_
        refine lv_iload_n hx hb dX1_deliver_50 rfl (lv_at hl 2 rfl) ?_
        refine va_iald hx hb hK hP 2 1 rfl rfl (px_in 7 8 (by decide +kernel)) dX1_deliver_51 ?_
        refine lv_topi (fun z47 ez47 => ?_)
        obtain rfl : z47 = 0 := ez47.trans (by first | rfl | decide)
        refine lv_iadd hx hb dX1_deliver_52 ?_
        refine lv_topi (fun z48 ez48 => ?_)
        obtain rfl : z48 = 350 := ez48.trans (by decide)
        refine lv_iload_n hx hb dX1_deliver_53 rfl (lv_at hl 3 rfl) ?_
        refine va_iast hx hb hK hP hD hS 1 0 rfl rfl (px_in 350 400 (by decide +kernel)) dX1_deliver_54 (fun H locs hP hD hS => ?_)
        have hP : va_P (dC, dI) vwCl [(h0, .inr (1, [pv, .ref xt, .int 0, .int 0, .ref xr, .int 0, .int 0, .ref le, .ref lc, .ref ln, .ref al, .ref lo, .ref xg, .int 0, .null])), (le, .inl (kle, 400, .inl (upd (fun _ => 0) (350 : Int32).toNatClampNeg v))), (lc, .inl (klc, 8, .inl (fun _ => 0))), (ln, .inl (kln, 8, .inr (.inr (.inr (.inr (fun i => [l0, l1, l2, l3, l4, l5, l6, l7][i]?)))))), (l0, .inr (2, [.null, .null])), (l1, .inr (2, [.null, .null])), (l2, .inr (2, [.null, .null])), (l3, .inr (2, [.null, .null])), (l4, .inr (2, [.null, .null])), (l5, .inr (2, [.null, .null])), (l6, .inr (2, [.null, .null])), (l7, .inr (2, [.null, .null]))] H := hP
        have hD : va_D A [(h0, .inr (1, [pv, .ref xt, .int 0, .int 0, .ref xr, .int 0, .int 0, .ref le, .ref lc, .ref ln, .ref al, .ref lo, .ref xg, .int 0, .null])), (le, .inl (kle, 400, .inl (upd (fun _ => 0) (350 : Int32).toNatClampNeg v))), (lc, .inl (klc, 8, .inl (fun _ => 0))), (ln, .inl (kln, 8, .inr (.inr (.inr (.inr (fun i => [l0, l1, l2, l3, l4, l5, l6, l7][i]?)))))), (l0, .inr (2, [.null, .null])), (l1, .inr (2, [.null, .null])), (l2, .inr (2, [.null, .null])), (l3, .inr (2, [.null, .null])), (l4, .inr (2, [.null, .null])), (l5, .inr (2, [.null, .null])), (l6, .inr (2, [.null, .null])), (l7, .inr (2, [.null, .null]))] := hD
        obtain ⟨f49, ef49⟩ : ∃ g : Nat → Int32, g = (upd (fun _ => 0) (350 : Int32).toNatClampNeg v) := ⟨_, rfl⟩
        rw [← ef49] at hP hD
        have hP : va_P (dC, dI) vwCl [(h0, .inr (1, [pv, .ref xt, .int 0, .int 0, .ref xr, .int 0, .int 0, .ref le, .ref lc, .ref ln, .ref al, .ref lo, .ref xg, .int 0, .null])), (le, .inl (kle, 400, .inl (f49))), (lc, .inl (klc, 8, .inl (fun _ => 0))), (ln, .inl (kln, 8, .inr (.inr (.inr (.inr (fun i => [l0, l1, l2, l3, l4, l5, l6, l7][i]?)))))), (l0, .inr (2, [.null, .null])), (l1, .inr (2, [.null, .null])), (l2, .inr (2, [.null, .null])), (l3, .inr (2, [.null, .null])), (l4, .inr (2, [.null, .null])), (l5, .inr (2, [.null, .null])), (l6, .inr (2, [.null, .null])), (l7, .inr (2, [.null, .null]))] H := hP
        have hD : va_D A [(h0, .inr (1, [pv, .ref xt, .int 0, .int 0, .ref xr, .int 0, .int 0, .ref le, .ref lc, .ref ln, .ref al, .ref lo, .ref xg, .int 0, .null])), (le, .inl (kle, 400, .inl (f49))), (lc, .inl (klc, 8, .inl (fun _ => 0))), (ln, .inl (kln, 8, .inr (.inr (.inr (.inr (fun i => [l0, l1, l2, l3, l4, l5, l6, l7][i]?)))))), (l0, .inr (2, [.null, .null])), (l1, .inr (2, [.null, .null])), (l2, .inr (2, [.null, .null])), (l3, .inr (2, [.null, .null])), (l4, .inr (2, [.null, .null])), (l5, .inr (2, [.null, .null])), (l6, .inr (2, [.null, .null])), (l7, .inr (2, [.null, .null]))] := hD
        refine lv_aload_n hx hb dX1_deliver_55 rfl (lv_at hl 1 rfl) ?_
        refine va_get (D := (dC, dI)) (ci := 1) (v := .ref lc) (C := RX1) (T := TX1) (N := 15) hx hb hts in_X1 hown hK hP 0 rfl rfl 8 (by decide) (hts _ wd_250) (fun _ h9 => h9) rfl dX1_deliver_56 ?_
        refine lv_iload_n hx hb dX1_deliver_59 rfl (lv_at hl 2 rfl) ?_
        refine lv_dup2_11 hx hb dX1_deliver_60 rfl rfl ?_
        refine va_iald hx hb hK hP 2 1 rfl rfl (px_in 7 8 (by decide +kernel)) dX1_deliver_61 ?_
        refine lv_topi (fun z50 ez50 => ?_)
        obtain rfl : z50 = 0 := ez50.trans (by first | rfl | decide)
        refine lv_iconst (v := 1) hx hb dX1_deliver_62 (by decide) ?_
        refine lv_iadd hx hb dX1_deliver_63 ?_
        refine lv_topi (fun z51 ez51 => ?_)
        obtain rfl : z51 = 1 := ez51.trans (by decide)
        refine va_iast hx hb hK hP hD hS 2 1 rfl rfl (px_in 7 8 (by decide +kernel)) dX1_deliver_64 (fun H locs hP hD hS => ?_)
        have hP : va_P (dC, dI) vwCl [(h0, .inr (1, [pv, .ref xt, .int 0, .int 0, .ref xr, .int 0, .int 0, .ref le, .ref lc, .ref ln, .ref al, .ref lo, .ref xg, .int 0, .null])), (le, .inl (kle, 400, .inl (f49))), (lc, .inl (klc, 8, .inl (upd (fun _ => 0) (7 : Int32).toNatClampNeg 1))), (ln, .inl (kln, 8, .inr (.inr (.inr (.inr (fun i => [l0, l1, l2, l3, l4, l5, l6, l7][i]?)))))), (l0, .inr (2, [.null, .null])), (l1, .inr (2, [.null, .null])), (l2, .inr (2, [.null, .null])), (l3, .inr (2, [.null, .null])), (l4, .inr (2, [.null, .null])), (l5, .inr (2, [.null, .null])), (l6, .inr (2, [.null, .null])), (l7, .inr (2, [.null, .null]))] H := hP
        have hD : va_D A [(h0, .inr (1, [pv, .ref xt, .int 0, .int 0, .ref xr, .int 0, .int 0, .ref le, .ref lc, .ref ln, .ref al, .ref lo, .ref xg, .int 0, .null])), (le, .inl (kle, 400, .inl (f49))), (lc, .inl (klc, 8, .inl (upd (fun _ => 0) (7 : Int32).toNatClampNeg 1))), (ln, .inl (kln, 8, .inr (.inr (.inr (.inr (fun i => [l0, l1, l2, l3, l4, l5, l6, l7][i]?)))))), (l0, .inr (2, [.null, .null])), (l1, .inr (2, [.null, .null])), (l2, .inr (2, [.null, .null])), (l3, .inr (2, [.null, .null])), (l4, .inr (2, [.null, .null])), (l5, .inr (2, [.null, .null])), (l6, .inr (2, [.null, .null])), (l7, .inr (2, [.null, .null]))] := hD
        refine lv_iconst (v := -1) hx hb dX1_deliver_65 (by decide) ?_
        have hP9 := hP.sub (ws' := []) [] rfl
        have hD9 := hD.sub (ws' := []) [] (by decide) rfl
        have hK9 := hK.sub (tys' := []) [] rfl
        refine W.widen (k := 0) (n := 0) (Nat.le_of_ble_eq_true rfl) (Nat.le_of_ble_eq_true rfl) ?_
        exact W.iret (v := -1) hx hb hr (fun t ht hW => ⟨⟨-1, (), rfl, (by decide), by rw [ht]; exact hP9, va_K.moved hW.alike hK9, hD9⟩, hS.F ht⟩) hS.2.2 dX1_deliver_66
set_option maxHeartbeats 4000000 in
set_option maxRecDepth 100000 in
theorem ct_X1_pass (l : Launch) (dC : Nat → ClassId) (dI : Nat → Nat → Nat) (h0 : Nat) (pv : Value) (xt : Nat) (xr : Nat) (le : Nat) (lc : Nat) (ln : Nat) (al : Nat) (lo : Nat) (xg : Nat) (k : Int32) (sz : Nat) : Met l yX1_pass (.code yX1_pass cX1_pass 5 none :: tb) ({ frames := 0, cells := 0, slots := 0, locals := 0 }) (va_Pc [.ref h0, .int k] (fun U => U.heap.size = sz ∧ va_P (dC, dI) vwCl [(h0, .inr (1, [pv, .ref xt, .int 0, .int 0, .ref xr, .int 0, .int 0, .ref le, .ref lc, .ref ln, .ref al, .ref lo, .ref xg, .int 0, .null])), (al, .inr (2, [.null, .null]))] U.heap ∧ va_K (dC, dI) vwCl [] U ∧ va_D (fun _ => True) [(h0, .inr (1, [pv, .ref xt, .int 0, .int 0, .ref xr, .int 0, .int 0, .ref le, .ref lc, .ref ln, .ref al, .ref lo, .ref xg, .int 0, .null])), (al, .inr (2, [.null, .null]))])) (va_Qv (fun (_ : Unit) => True) (fun (_ : Unit) t => ∃ (ck : Int32), (ck = 0 + k) ∧ va_P (dC, dI) vwCl [(h0, .inr (1, [pv, .ref xt, .int 0, .int 0, .ref xr, .int 0, .int ck, .ref le, .ref lc, .ref ln, .ref al, .ref lo, .ref xg, .int 0, .null]))] t.heap ∧ va_K (dC, dI) vwCl [] t ∧ va_D (va_A [(h0, .inr (1, [pv, .ref xt, .int 0, .int 0, .ref xr, .int 0, .int 0, .ref le, .ref lc, .ref ln, .ref al, .ref lo, .ref xg, .int 0, .null])), (al, .inr (2, [.null, .null]))] sz) [(h0, .inr (1, [pv, .ref xt, .int 0, .int 0, .ref xr, .int 0, .int ck, .ref le, .ref lc, .ref ln, .ref al, .ref lo, .ref xg, .int 0, .null]))]) (va_A [(h0, .inr (1, [pv, .ref xt, .int 0, .int 0, .ref xr, .int 0, .int 0, .ref le, .ref lc, .ref ln, .ref al, .ref lo, .ref xg, .int 0, .null])), (al, .inr (2, [.null, .null]))] sz)) 0 0 (va_A [(h0, .inr (1, [pv, .ref xt, .int 0, .int 0, .ref xr, .int 0, .int 0, .ref le, .ref lc, .ref ln, .ref al, .ref lo, .ref xg, .int 0, .null])), (al, .inr (2, [.null, .null]))] sz) := by
  refine Met.ofW (cc := cX1_pass) (maxL := 5) (ret := none) (by decide) rfl ?_
  intro p e s m args below meth c s₁ B hml hv
  obtain ⟨rfl, hsz, hP, hK, hD0⟩ := hv
  have hx := B.exec
  have hb := B.bytes
  have hr := B.returns
  have hts : ∀ w ∈ tb, w.before _ s = true := fun w h => atoms_spec (ws := (.code yX1_pass cX1_pass 5 none :: tb)) B.pre w (List.mem_cons_of_mem _ h)
  have hown : s.vm.findClass RX1 = some m.cls := findClass_of_methodNamed B.named
  have hlocks := B.notSynchronized
  subst hsz
  have hD := hD0.self (sz := s.heap.size)
  generalize hAe : va_A [(h0, .inr (1, [pv, .ref xt, .int 0, .int 0, .ref xr, .int 0, .int 0, .ref le, .ref lc, .ref ln, .ref al, .ref lo, .ref xg, .int 0, .null])), (al, .inr (2, [.null, .null]))] s.heap.size = A at hD ⊢
  have hA : ∀ q : Nat, s.heap.size ≤ q → A q := fun q h => by rw [← hAe]; exact Or.inr h
  have hS : va_S A s.heap s.heap [] := va_S.rf
  have hP : va_P (dC, dI) vwCl [(h0, .inr (1, [pv, .ref xt, .int 0, .int 0, .ref xr, .int 0, .int 0, .ref le, .ref lc, .ref ln, .ref al, .ref lo, .ref xg, .int 0, .null])), (al, .inr (2, [.null, .null]))] s.heap := hP
  have hl := lv_entry ([.ref h0, .int k]) (n := 5) (Nat.le_of_ble_eq_true rfl)
  rw [lg_entry_eq]
  generalize (lg_sl ([.ref h0, .int k]) ++ List.replicate (5 - (lg_sl ([.ref h0, .int k])).length) Slot.unset).toArray = ls at hl ⊢
  have hl : lv_has ls 5 [(0, .ref h0), (1, .int k)] := hl
  refine lv_aload_n hx hb dX1_pass_0 rfl (lv_at hl 0 rfl) ?_
  refine va_get (D := (dC, dI)) (ci := 1) (v := .int 0) (C := RX1) (T := TX1) (N := 15) hx hb hts in_X1 hown hK hP 0 rfl rfl 6 (by decide) (hts _ wd_245) (fun _ h9 => h9) rfl dX1_pass_1 ?_
  refine lv_iload_n hx hb dX1_pass_4 rfl (lv_at hl 1 rfl) ?_
  refine lv_iadd hx hb dX1_pass_5 ?_
  refine lv_topi (fun z1 ez1 => ?_)
  refine lv_istore_n (lv' := [(2, .int z1), (0, .ref h0), (1, .int k)]) hx hb dX1_pass_6 rfl hl (by decide) rfl (fun ls hl => ?_)
  refine lv_iconst (v := 0) hx hb dX1_pass_7 (by decide) ?_
  refine lv_istore_n (lv' := [(3, .int 0), (2, .int z1), (0, .ref h0), (1, .int k)]) hx hb dX1_pass_8 rfl hl (by decide) rfl (fun ls hl => ?_)
  refine lv_iload_n hx hb dX1_pass_9 rfl (lv_at hl 0 rfl) ?_
  refine lv_ldc (v := 1000000) hx hb hown (hts _ wd_1180) dX1_pass_10 ?_
  refine lv_icmp_ge (tgt := 90) hx hb dX1_pass_12 (by decide) (fun h => absurd h (by decide)) (fun _ => ?_)
  refine lv_aload_n hx hb dX1_pass_15 rfl (lv_at hl 2 rfl) ?_
  refine va_get (D := (dC, dI)) (ci := 1) (v := .ref al) (C := RX1) (T := TX1) (N := 15) hx hb hts in_X1 hown hK hP 0 rfl rfl 10 (by decide) (hts _ wd_256) (fun _ h9 => h9) rfl dX1_pass_16 ?_
  refine va_get (D := (dC, dI)) (ci := 2) (v := .null) (C := RX2) (T := TX2) (N := 2) hx hb hts in_X2 hown hK hP 1 rfl rfl 0 (by decide) (hts _ wd_209) (fun _ h9 => h9) rfl dX1_pass_19 ?_
  refine lv_astoreN (lv' := [(4, .null), (3, .int 0), (2, .int z1), (0, .ref h0), (1, .int k)]) hx hb dX1_pass_22 hl (by decide) rfl (fun ls hl => ?_)
  refine lv_aloadN hx hb dX1_pass_24 (lv_at hl 0 rfl) ?_
  refine lv_ifnullN (tgt := 90) hx hb dX1_pass_26 (by decide) ?_
  refine lv_aload_n hx hb dX1_pass_90 rfl (lv_at hl 3 rfl) ?_
  refine lv_iload_n hx hb dX1_pass_91 rfl (lv_at hl 2 rfl) ?_
  refine va_put (D := (dC, dI)) (ci := 1) (v := .int z1) (ty := (tyX1 6)) (C := RX1) (T := TX1) (N := 15) hx hb hts in_X1 tyX1 tyX1_ok nmX1 hown hK hP hD hS 0 rfl rfl 6 (by decide) (hts _ wd_245) (fun _ h9 => h9) rfl (tyX1_ok 6 (by decide)) rfl rfl (Nat.le_of_ble_eq_true rfl) dX1_pass_92 (fun H locs hP hD hS => ?_)
  have hP : va_P (dC, dI) vwCl [(h0, .inr (1, [pv, .ref xt, .int 0, .int 0, .ref xr, .int 0, .int z1, .ref le, .ref lc, .ref ln, .ref al, .ref lo, .ref xg, .int 0, .null])), (al, .inr (2, [.null, .null]))] H := hP
  have hD : va_D A [(h0, .inr (1, [pv, .ref xt, .int 0, .int 0, .ref xr, .int 0, .int z1, .ref le, .ref lc, .ref ln, .ref al, .ref lo, .ref xg, .int 0, .null])), (al, .inr (2, [.null, .null]))] := hD
  have hP9 := hP.sub (ws' := [(h0, .inr (1, [pv, .ref xt, .int 0, .int 0, .ref xr, .int 0, .int z1, .ref le, .ref lc, .ref ln, .ref al, .ref lo, .ref xg, .int 0, .null]))]) [0] rfl
  have hD9 := hD.sub (ws' := [(h0, .inr (1, [pv, .ref xt, .int 0, .int 0, .ref xr, .int 0, .int z1, .ref le, .ref lc, .ref ln, .ref al, .ref lo, .ref xg, .int 0, .null]))]) [0] (by decide) rfl
  have hK9 := hK.sub (tys' := []) [] rfl
  refine W.widen (k := 0) (n := 0) (Nat.le_of_ble_eq_true rfl) (Nat.le_of_ble_eq_true rfl) ?_
  exact W.vret hx hb hr (fun t ht hW => ⟨⟨(), rfl, trivial, z1, ez1, by rw [ht]; exact hP9, va_K.moved hW.alike hK9, hD9⟩, hS.F ht⟩) hS.2.2 dX1_pass_95
set_option maxHeartbeats 4000000 in
set_option maxRecDepth 100000 in
theorem ct_X3_kind (l : Launch) (dC : Nat → ClassId) (dI : Nat → Nat → Nat) (h0 : Nat) (tk : Nat) (pv : Value) (sv : Value) (qp : Nat → Nat) (kd : Nat) (pl : Nat) (va : Nat) (tp : Nat) (rs : Nat) (kkd : ClassId) (sz : Nat) : Met l yX3_kind (.code yX3_kind cX3_kind 1 (some .int) :: tb) ({ frames := 0, cells := 0, slots := 0, locals := 0 }) (va_Pc [.ref h0] (fun U => U.heap.size = sz ∧ va_P (dC, dI) vwCl [(h0, .inr (3, [.ref tk, pv, sv, .int 0, .int 0, .int (-1), .int (-1), .int 0, .int 0, .ref (qp 0), .ref (qp 1), .ref (qp 2), .ref (qp 3)])), (tk, .inr (10, [.ref kd, .ref pl, .ref va, .int 1, .int 0, .ref tp, .ref rs])), (kd, .inl (kkd, 4002, .inl (upd (upd (fun _ => 0) (4001 : Int32).toNatClampNeg 4) (0 : Int32).toNatClampNeg 0)))] U.heap ∧ va_K (dC, dI) vwCl [(kkd, .int)] U ∧ va_D (fun _ => True) [(h0, .inr (3, [.ref tk, pv, sv, .int 0, .int 0, .int (-1), .int (-1), .int 0, .int 0, .ref (qp 0), .ref (qp 1), .ref (qp 2), .ref (qp 3)])), (tk, .inr (10, [.ref kd, .ref pl, .ref va, .int 1, .int 0, .ref tp, .ref rs])), (kd, .inl (kkd, 4002, .inl (upd (upd (fun _ => 0) (4001 : Int32).toNatClampNeg 4) (0 : Int32).toNatClampNeg 0)))])) (va_Qi (fun (r : Int32) (_ : Unit) => r = 0) (fun (_ : Unit) t => va_P (dC, dI) vwCl [(h0, .inr (3, [.ref tk, pv, sv, .int 0, .int 0, .int (-1), .int (-1), .int 0, .int 0, .ref (qp 0), .ref (qp 1), .ref (qp 2), .ref (qp 3)])), (tk, .inr (10, [.ref kd, .ref pl, .ref va, .int 1, .int 0, .ref tp, .ref rs])), (kd, .inl (kkd, 4002, .inl (upd (upd (fun _ => 0) (4001 : Int32).toNatClampNeg 4) (0 : Int32).toNatClampNeg 0)))] t.heap ∧ va_K (dC, dI) vwCl [] t ∧ va_D (va_A [(h0, .inr (3, [.ref tk, pv, sv, .int 0, .int 0, .int (-1), .int (-1), .int 0, .int 0, .ref (qp 0), .ref (qp 1), .ref (qp 2), .ref (qp 3)])), (tk, .inr (10, [.ref kd, .ref pl, .ref va, .int 1, .int 0, .ref tp, .ref rs])), (kd, .inl (kkd, 4002, .inl (upd (upd (fun _ => 0) (4001 : Int32).toNatClampNeg 4) (0 : Int32).toNatClampNeg 0)))] sz) [(h0, .inr (3, [.ref tk, pv, sv, .int 0, .int 0, .int (-1), .int (-1), .int 0, .int 0, .ref (qp 0), .ref (qp 1), .ref (qp 2), .ref (qp 3)])), (tk, .inr (10, [.ref kd, .ref pl, .ref va, .int 1, .int 0, .ref tp, .ref rs])), (kd, .inl (kkd, 4002, .inl (upd (upd (fun _ => 0) (4001 : Int32).toNatClampNeg 4) (0 : Int32).toNatClampNeg 0)))]) (va_A [(h0, .inr (3, [.ref tk, pv, sv, .int 0, .int 0, .int (-1), .int (-1), .int 0, .int 0, .ref (qp 0), .ref (qp 1), .ref (qp 2), .ref (qp 3)])), (tk, .inr (10, [.ref kd, .ref pl, .ref va, .int 1, .int 0, .ref tp, .ref rs])), (kd, .inl (kkd, 4002, .inl (upd (upd (fun _ => 0) (4001 : Int32).toNatClampNeg 4) (0 : Int32).toNatClampNeg 0)))] sz)) 0 0 (va_A [(h0, .inr (3, [.ref tk, pv, sv, .int 0, .int 0, .int (-1), .int (-1), .int 0, .int 0, .ref (qp 0), .ref (qp 1), .ref (qp 2), .ref (qp 3)])), (tk, .inr (10, [.ref kd, .ref pl, .ref va, .int 1, .int 0, .ref tp, .ref rs])), (kd, .inl (kkd, 4002, .inl (upd (upd (fun _ => 0) (4001 : Int32).toNatClampNeg 4) (0 : Int32).toNatClampNeg 0)))] sz) := by
  refine Met.ofW (cc := cX3_kind) (maxL := 1) (ret := (some .int)) (by decide) rfl ?_
  intro p e s m args below meth c s₁ B hml hv
  obtain ⟨rfl, hsz, hP, hK, hD0⟩ := hv
  have hx := B.exec
  have hb := B.bytes
  have hr := B.returns
  have hts : ∀ w ∈ tb, w.before _ s = true := fun w h => atoms_spec (ws := (.code yX3_kind cX3_kind 1 (some .int) :: tb)) B.pre w (List.mem_cons_of_mem _ h)
  have hown : s.vm.findClass RX3 = some m.cls := findClass_of_methodNamed B.named
  have hlocks := B.notSynchronized
  subst hsz
  have hD := hD0.self (sz := s.heap.size)
  generalize hAe : va_A [(h0, .inr (3, [.ref tk, pv, sv, .int 0, .int 0, .int (-1), .int (-1), .int 0, .int 0, .ref (qp 0), .ref (qp 1), .ref (qp 2), .ref (qp 3)])), (tk, .inr (10, [.ref kd, .ref pl, .ref va, .int 1, .int 0, .ref tp, .ref rs])), (kd, .inl (kkd, 4002, .inl (upd (upd (fun _ => 0) (4001 : Int32).toNatClampNeg 4) (0 : Int32).toNatClampNeg 0)))] s.heap.size = A at hD ⊢
  have hA : ∀ q : Nat, s.heap.size ≤ q → A q := fun q h => by rw [← hAe]; exact Or.inr h
  have hS : va_S A s.heap s.heap [] := va_S.rf
  have hP : va_P (dC, dI) vwCl [(h0, .inr (3, [.ref tk, pv, sv, .int 0, .int 0, .int (-1), .int (-1), .int 0, .int 0, .ref (qp 0), .ref (qp 1), .ref (qp 2), .ref (qp 3)])), (tk, .inr (10, [.ref kd, .ref pl, .ref va, .int 1, .int 0, .ref tp, .ref rs])), (kd, .inl (kkd, 4002, .inl (upd (upd (fun _ => 0) (4001 : Int32).toNatClampNeg 4) (0 : Int32).toNatClampNeg 0)))] s.heap := hP
  have hl := lv_entry ([.ref h0]) (n := 1) (Nat.le_of_ble_eq_true rfl)
  rw [lg_entry_eq]
  generalize (lg_sl ([.ref h0]) ++ List.replicate (1 - (lg_sl ([.ref h0])).length) Slot.unset).toArray = ls at hl ⊢
  have hl : lv_has ls 1 [(0, .ref h0)] := hl
  refine lv_aload_n hx hb dX3_kind_0 rfl (lv_at hl 0 rfl) ?_
  refine va_get (D := (dC, dI)) (ci := 3) (v := .ref tk) (C := RX3) (T := TX3) (N := 13) hx hb hts in_X3 hown hK hP 0 rfl rfl 0 (by decide) (hts _ wd_131) (fun _ h9 => h9) rfl dX3_kind_1 ?_
  refine va_get (D := (dC, dI)) (ci := 10) (v := .ref kd) (C := RX10) (T := TX10) (N := 7) hx hb hts in_X10 hown hK hP 1 rfl rfl 0 (by decide) (hts _ wd_95) (fun _ h9 => h9) rfl dX3_kind_4 ?_
  refine lv_aload_n hx hb dX3_kind_7 rfl (lv_at hl 0 rfl) ?_
  refine va_get (D := (dC, dI)) (ci := 3) (v := .int 0) (C := RX3) (T := TX3) (N := 13) hx hb hts in_X3 hown hK hP 0 rfl rfl 3 (by decide) (hts _ wd_134) (fun _ h9 => h9) rfl dX3_kind_8 ?_
  refine va_iald hx hb hK hP 2 0 rfl rfl (px_in 0 4002 (by decide +kernel)) dX3_kind_11 ?_
  refine lv_topi (fun z1 ez1 => ?_)
  obtain rfl : z1 = 0 := ez1.trans (by first | rfl | decide)
  have hP9 := hP.sub (ws' := [(h0, .inr (3, [.ref tk, pv, sv, .int 0, .int 0, .int (-1), .int (-1), .int 0, .int 0, .ref (qp 0), .ref (qp 1), .ref (qp 2), .ref (qp 3)])), (tk, .inr (10, [.ref kd, .ref pl, .ref va, .int 1, .int 0, .ref tp, .ref rs])), (kd, .inl (kkd, 4002, .inl (upd (upd (fun _ => 0) (4001 : Int32).toNatClampNeg 4) (0 : Int32).toNatClampNeg 0)))]) [0, 1, 2] rfl
  have hD9 := hD.sub (ws' := [(h0, .inr (3, [.ref tk, pv, sv, .int 0, .int 0, .int (-1), .int (-1), .int 0, .int 0, .ref (qp 0), .ref (qp 1), .ref (qp 2), .ref (qp 3)])), (tk, .inr (10, [.ref kd, .ref pl, .ref va, .int 1, .int 0, .ref tp, .ref rs])), (kd, .inl (kkd, 4002, .inl (upd (upd (fun _ => 0) (4001 : Int32).toNatClampNeg 4) (0 : Int32).toNatClampNeg 0)))]) [0, 1, 2] (by decide) rfl
  have hK9 := hK.sub (tys' := []) [] rfl
  refine W.widen (k := 0) (n := 0) (Nat.le_of_ble_eq_true rfl) (Nat.le_of_ble_eq_true rfl) ?_
  exact W.iret (v := 0) hx hb hr (fun t ht hW => ⟨⟨0, (), rfl, rfl, by rw [ht]; exact hP9, va_K.moved hW.alike hK9, hD9⟩, hS.F ht⟩) hS.2.2 dX3_kind_12
set_option maxHeartbeats 4000000 in
set_option maxRecDepth 100000 in
theorem ct_X3_findChildren (l : Launch) (dC : Nat → ClassId) (dI : Nat → Nat → Nat) (h0 : Nat) (tk : Nat) (pv : Value) (sv : Value) (qp : Nat → Nat) (sz : Nat) : Met l yX3_findChildren (.code yX3_findChildren cX3_findChildren 3 none :: tb) ({ frames := 0, cells := 0, slots := 0, locals := 0 }) (va_Pc [.ref h0] (fun U => U.heap.size = sz ∧ va_P (dC, dI) vwCl [(h0, .inr (3, [.ref tk, pv, sv, .int 0, .int 0, .int (-1), .int (-1), .int 0, .int 0, .ref (qp 0), .ref (qp 1), .ref (qp 2), .ref (qp 3)]))] U.heap ∧ va_K (dC, dI) vwCl [] U ∧ va_D (fun _ => True) [(h0, .inr (3, [.ref tk, pv, sv, .int 0, .int 0, .int (-1), .int (-1), .int 0, .int 0, .ref (qp 0), .ref (qp 1), .ref (qp 2), .ref (qp 3)]))])) (va_Qv (fun (_ : Unit) => True) (fun (_ : Unit) t => va_P (dC, dI) vwCl [(h0, .inr (3, [.ref tk, pv, sv, .int 0, .int 0, .int (-1), .int (-1), .int 0, .int 0, .ref (qp 0), .ref (qp 1), .ref (qp 2), .ref (qp 3)]))] t.heap ∧ va_K (dC, dI) vwCl [] t ∧ va_D (va_A [(h0, .inr (3, [.ref tk, pv, sv, .int 0, .int 0, .int (-1), .int (-1), .int 0, .int 0, .ref (qp 0), .ref (qp 1), .ref (qp 2), .ref (qp 3)]))] sz) [(h0, .inr (3, [.ref tk, pv, sv, .int 0, .int 0, .int (-1), .int (-1), .int 0, .int 0, .ref (qp 0), .ref (qp 1), .ref (qp 2), .ref (qp 3)]))]) (va_A [(h0, .inr (3, [.ref tk, pv, sv, .int 0, .int 0, .int (-1), .int (-1), .int 0, .int 0, .ref (qp 0), .ref (qp 1), .ref (qp 2), .ref (qp 3)]))] sz)) 0 0 (va_A [(h0, .inr (3, [.ref tk, pv, sv, .int 0, .int 0, .int (-1), .int (-1), .int 0, .int 0, .ref (qp 0), .ref (qp 1), .ref (qp 2), .ref (qp 3)]))] sz) := by
  refine Met.ofW (cc := cX3_findChildren) (maxL := 3) (ret := none) (by decide) rfl ?_
  intro p e s m args below meth c s₁ B hml hv
  obtain ⟨rfl, hsz, hP, hK, hD0⟩ := hv
  have hx := B.exec
  have hb := B.bytes
  have hr := B.returns
  have hts : ∀ w ∈ tb, w.before _ s = true := fun w h => atoms_spec (ws := (.code yX3_findChildren cX3_findChildren 3 none :: tb)) B.pre w (List.mem_cons_of_mem _ h)
  have hown : s.vm.findClass RX3 = some m.cls := findClass_of_methodNamed B.named
  have hlocks := B.notSynchronized
  subst hsz
  have hD := hD0.self (sz := s.heap.size)
  generalize hAe : va_A [(h0, .inr (3, [.ref tk, pv, sv, .int 0, .int 0, .int (-1), .int (-1), .int 0, .int 0, .ref (qp 0), .ref (qp 1), .ref (qp 2), .ref (qp 3)]))] s.heap.size = A at hD ⊢
  have hA : ∀ q : Nat, s.heap.size ≤ q → A q := fun q h => by rw [← hAe]; exact Or.inr h
  have hS : va_S A s.heap s.heap [] := va_S.rf
  have hP : va_P (dC, dI) vwCl [(h0, .inr (3, [.ref tk, pv, sv, .int 0, .int 0, .int (-1), .int (-1), .int 0, .int 0, .ref (qp 0), .ref (qp 1), .ref (qp 2), .ref (qp 3)]))] s.heap := hP
  have hl := lv_entry ([.ref h0]) (n := 3) (Nat.le_of_ble_eq_true rfl)
  rw [lg_entry_eq]
  generalize (lg_sl ([.ref h0]) ++ List.replicate (3 - (lg_sl ([.ref h0])).length) Slot.unset).toArray = ls at hl ⊢
  have hl : lv_has ls 3 [(0, .ref h0)] := hl
  refine lv_iconst (v := 0) hx hb dX3_findChildren_0 (by decide) ?_
  refine lv_istore_n (lv' := [(1, .int 0), (0, .ref h0)]) hx hb dX3_findChildren_1 rfl hl (by decide) rfl (fun ls hl => ?_)
  refine lv_iload_n hx hb dX3_findChildren_2 rfl (lv_at hl 0 rfl) ?_
  refine lv_aload_n hx hb dX3_findChildren_3 rfl (lv_at hl 1 rfl) ?_
  refine va_get (D := (dC, dI)) (ci := 3) (v := .int 0) (C := RX3) (T := TX3) (N := 13) hx hb hts in_X3 hown hK hP 0 rfl rfl 8 (by decide) (hts _ wd_139) (fun _ h9 => h9) rfl dX3_findChildren_4 ?_
  refine lv_icmp_ge (tgt := 112) hx hb dX3_findChildren_7 (by decide) (fun _ => ?_) (fun h => absurd (by decide) h)
  have hP9 := hP.sub (ws' := [(h0, .inr (3, [.ref tk, pv, sv, .int 0, .int 0, .int (-1), .int (-1), .int 0, .int 0, .ref (qp 0), .ref (qp 1), .ref (qp 2), .ref (qp 3)]))]) [0] rfl
  have hD9 := hD.sub (ws' := [(h0, .inr (3, [.ref tk, pv, sv, .int 0, .int 0, .int (-1), .int (-1), .int 0, .int 0, .ref (qp 0), .ref (qp 1), .ref (qp 2), .ref (qp 3)]))]) [0] (by decide) rfl
  have hK9 := hK.sub (tys' := []) [] rfl
  refine W.widen (k := 0) (n := 0) (Nat.le_of_ble_eq_true rfl) (Nat.le_of_ble_eq_true rfl) ?_
  exact W.vret hx hb hr (fun t ht hW => ⟨⟨(), rfl, trivial, by rw [ht]; exact hP9, va_K.moved hW.alike hK9, hD9⟩, hS.F ht⟩) hS.2.2 dX3_findChildren_112
set_option maxHeartbeats 4000000 in
set_option maxRecDepth 100000 in
theorem ct_X3_read (l : Launch) (dC : Nat → ClassId) (dI : Nat → Nat → Nat) (h0 : Nat) (h1 : Nat) (tk : Nat) (qp : Nat → Nat) (q : Nat → Nat) (sc : Nat) (qc : Nat → Nat) (kd : Nat) (pl : Nat) (va : Nat) (tp : Nat) (rs : Nat) (kkd : ClassId) (sz : Nat) : Met l yX3_read (.code yX3_read cX3_read 3 (some .int) :: tb) ({ frames := 2, cells := 0, slots := 0, locals := 40 }) (va_Pc [.ref h0, .ref h1] (fun U => U.heap.size = sz ∧ va_P (dC, dI) vwCl [(h0, .inr (3, [.ref tk, .null, .null, .int 0, .int 0, .int 0, .int 0, .int 0, .int 0, .ref (qp 0), .ref (qp 1), .ref (qp 2), .ref (qp 3)])), (tk, .inr (10, [.ref kd, .ref pl, .ref va, .int 1, .int 0, .ref tp, .ref rs])), (kd, .inl (kkd, 4002, .inl (upd (upd (fun _ => 0) (4001 : Int32).toNatClampNeg 4) (0 : Int32).toNatClampNeg 0))), (h1, .inr (5, [.int 0, .ref (q 0), .ref (q 1), .ref (q 2), .ref sc, .int 0, .ref (q 3), .ref (q 4), .ref (q 5), .ref (q 6), .ref (q 7), .ref (q 8), .ref (q 9), .ref (q 10)])), (sc, .inr (7, [.int 0, .ref (qc 0), .ref (qc 1), .ref (qc 2), .ref (qc 3), .ref (qc 4), .ref (qc 5), .ref (qc 6), .int 0, .ref (qc 7), .ref (qc 8), .ref (qc 9)]))] U.heap ∧ va_K (dC, dI) vwCl [(kkd, .int)] U ∧ va_D (fun _ => True) [(h0, .inr (3, [.ref tk, .null, .null, .int 0, .int 0, .int 0, .int 0, .int 0, .int 0, .ref (qp 0), .ref (qp 1), .ref (qp 2), .ref (qp 3)])), (tk, .inr (10, [.ref kd, .ref pl, .ref va, .int 1, .int 0, .ref tp, .ref rs])), (kd, .inl (kkd, 4002, .inl (upd (upd (fun _ => 0) (4001 : Int32).toNatClampNeg 4) (0 : Int32).toNatClampNeg 0))), (h1, .inr (5, [.int 0, .ref (q 0), .ref (q 1), .ref (q 2), .ref sc, .int 0, .ref (q 3), .ref (q 4), .ref (q 5), .ref (q 6), .ref (q 7), .ref (q 8), .ref (q 9), .ref (q 10)])), (sc, .inr (7, [.int 0, .ref (qc 0), .ref (qc 1), .ref (qc 2), .ref (qc 3), .ref (qc 4), .ref (qc 5), .ref (qc 6), .int 0, .ref (qc 7), .ref (qc 8), .ref (qc 9)]))])) (va_Qi (fun (r : Int32) (_ : Unit) => r = 0) (fun (_ : Unit) t => va_P (dC, dI) vwCl [] t.heap ∧ va_K (dC, dI) vwCl [] t ∧ va_D (va_A [(h0, .inr (3, [.ref tk, .null, .null, .int 0, .int 0, .int 0, .int 0, .int 0, .int 0, .ref (qp 0), .ref (qp 1), .ref (qp 2), .ref (qp 3)])), (tk, .inr (10, [.ref kd, .ref pl, .ref va, .int 1, .int 0, .ref tp, .ref rs])), (kd, .inl (kkd, 4002, .inl (upd (upd (fun _ => 0) (4001 : Int32).toNatClampNeg 4) (0 : Int32).toNatClampNeg 0))), (h1, .inr (5, [.int 0, .ref (q 0), .ref (q 1), .ref (q 2), .ref sc, .int 0, .ref (q 3), .ref (q 4), .ref (q 5), .ref (q 6), .ref (q 7), .ref (q 8), .ref (q 9), .ref (q 10)])), (sc, .inr (7, [.int 0, .ref (qc 0), .ref (qc 1), .ref (qc 2), .ref (qc 3), .ref (qc 4), .ref (qc 5), .ref (qc 6), .int 0, .ref (qc 7), .ref (qc 8), .ref (qc 9)]))] sz) []) (va_A [(h0, .inr (3, [.ref tk, .null, .null, .int 0, .int 0, .int 0, .int 0, .int 0, .int 0, .ref (qp 0), .ref (qp 1), .ref (qp 2), .ref (qp 3)])), (tk, .inr (10, [.ref kd, .ref pl, .ref va, .int 1, .int 0, .ref tp, .ref rs])), (kd, .inl (kkd, 4002, .inl (upd (upd (fun _ => 0) (4001 : Int32).toNatClampNeg 4) (0 : Int32).toNatClampNeg 0))), (h1, .inr (5, [.int 0, .ref (q 0), .ref (q 1), .ref (q 2), .ref sc, .int 0, .ref (q 3), .ref (q 4), .ref (q 5), .ref (q 6), .ref (q 7), .ref (q 8), .ref (q 9), .ref (q 10)])), (sc, .inr (7, [.int 0, .ref (qc 0), .ref (qc 1), .ref (qc 2), .ref (qc 3), .ref (qc 4), .ref (qc 5), .ref (qc 6), .int 0, .ref (qc 7), .ref (qc 8), .ref (qc 9)]))] sz)) 0 0 (va_A [(h0, .inr (3, [.ref tk, .null, .null, .int 0, .int 0, .int 0, .int 0, .int 0, .int 0, .ref (qp 0), .ref (qp 1), .ref (qp 2), .ref (qp 3)])), (tk, .inr (10, [.ref kd, .ref pl, .ref va, .int 1, .int 0, .ref tp, .ref rs])), (kd, .inl (kkd, 4002, .inl (upd (upd (fun _ => 0) (4001 : Int32).toNatClampNeg 4) (0 : Int32).toNatClampNeg 0))), (h1, .inr (5, [.int 0, .ref (q 0), .ref (q 1), .ref (q 2), .ref sc, .int 0, .ref (q 3), .ref (q 4), .ref (q 5), .ref (q 6), .ref (q 7), .ref (q 8), .ref (q 9), .ref (q 10)])), (sc, .inr (7, [.int 0, .ref (qc 0), .ref (qc 1), .ref (qc 2), .ref (qc 3), .ref (qc 4), .ref (qc 5), .ref (qc 6), .int 0, .ref (qc 7), .ref (qc 8), .ref (qc 9)]))] sz) := by
  refine Met.ofW (cc := cX3_read) (maxL := 3) (ret := (some .int)) (by decide) rfl ?_
  intro p e s m args below meth c s₁ B hml hv
  obtain ⟨rfl, hsz, hP, hK, hD0⟩ := hv
  have hx := B.exec
  have hb := B.bytes
  have hr := B.returns
  have hts : ∀ w ∈ tb, w.before _ s = true := fun w h => atoms_spec (ws := (.code yX3_read cX3_read 3 (some .int) :: tb)) B.pre w (List.mem_cons_of_mem _ h)
  have hown : s.vm.findClass RX3 = some m.cls := findClass_of_methodNamed B.named
  have hlocks := B.notSynchronized
  subst hsz
  have hD := hD0.self (sz := s.heap.size)
  generalize hAe : va_A [(h0, .inr (3, [.ref tk, .null, .null, .int 0, .int 0, .int 0, .int 0, .int 0, .int 0, .ref (qp 0), .ref (qp 1), .ref (qp 2), .ref (qp 3)])), (tk, .inr (10, [.ref kd, .ref pl, .ref va, .int 1, .int 0, .ref tp, .ref rs])), (kd, .inl (kkd, 4002, .inl (upd (upd (fun _ => 0) (4001 : Int32).toNatClampNeg 4) (0 : Int32).toNatClampNeg 0))), (h1, .inr (5, [.int 0, .ref (q 0), .ref (q 1), .ref (q 2), .ref sc, .int 0, .ref (q 3), .ref (q 4), .ref (q 5), .ref (q 6), .ref (q 7), .ref (q 8), .ref (q 9), .ref (q 10)])), (sc, .inr (7, [.int 0, .ref (qc 0), .ref (qc 1), .ref (qc 2), .ref (qc 3), .ref (qc 4), .ref (qc 5), .ref (qc 6), .int 0, .ref (qc 7), .ref (qc 8), .ref (qc 9)]))] s.heap.size = A at hD ⊢
  have hA : ∀ q : Nat, s.heap.size ≤ q → A q := fun q h => by rw [← hAe]; exact Or.inr h
  have hS : va_S A s.heap s.heap [] := va_S.rf
  have hP : va_P (dC, dI) vwCl [(h0, .inr (3, [.ref tk, .null, .null, .int 0, .int 0, .int 0, .int 0, .int 0, .int 0, .ref (qp 0), .ref (qp 1), .ref (qp 2), .ref (qp 3)])), (tk, .inr (10, [.ref kd, .ref pl, .ref va, .int 1, .int 0, .ref tp, .ref rs])), (kd, .inl (kkd, 4002, .inl (upd (upd (fun _ => 0) (4001 : Int32).toNatClampNeg 4) (0 : Int32).toNatClampNeg 0))), (h1, .inr (5, [.int 0, .ref (q 0), .ref (q 1), .ref (q 2), .ref sc, .int 0, .ref (q 3), .ref (q 4), .ref (q 5), .ref (q 6), .ref (q 7), .ref (q 8), .ref (q 9), .ref (q 10)])), (sc, .inr (7, [.int 0, .ref (qc 0), .ref (qc 1), .ref (qc 2), .ref (qc 3), .ref (qc 4), .ref (qc 5), .ref (qc 6), .int 0, .ref (qc 7), .ref (qc 8), .ref (qc 9)]))] s.heap := hP
  have hl := lv_entry ([.ref h0, .ref h1]) (n := 3) (Nat.le_of_ble_eq_true rfl)
  rw [lg_entry_eq]
  generalize (lg_sl ([.ref h0, .ref h1]) ++ List.replicate (3 - (lg_sl ([.ref h0, .ref h1])).length) Slot.unset).toArray = ls at hl ⊢
  have hl : lv_has ls 3 [(0, .ref h0), (1, .ref h1)] := hl
  refine lv_aload_n hx hb dX3_read_0 rfl (lv_at hl 0 rfl) ?_
  refine lv_aload_n hx hb dX3_read_1 rfl (lv_at hl 1 rfl) ?_
  refine va_put (D := (dC, dI)) (ci := 3) (v := .ref h1) (ty := (tyX3 1)) (C := RX3) (T := TX3) (N := 13) hx hb hts in_X3 tyX3 tyX3_ok nmX3 hown hK hP hD hS 0 rfl rfl 1 (by decide) (hts _ wd_132) (fun _ h9 => h9) rfl (tyX3_ok 1 (by decide)) rfl rfl (Nat.le_of_ble_eq_true rfl) dX3_read_2 (fun H locs hP hD hS => ?_)
  have hP : va_P (dC, dI) vwCl [(h0, .inr (3, [.ref tk, .ref h1, .null, .int 0, .int 0, .int 0, .int 0, .int 0, .int 0, .ref (qp 0), .ref (qp 1), .ref (qp 2), .ref (qp 3)])), (tk, .inr (10, [.ref kd, .ref pl, .ref va, .int 1, .int 0, .ref tp, .ref rs])), (kd, .inl (kkd, 4002, .inl (upd (upd (fun _ => 0) (4001 : Int32).toNatClampNeg 4) (0 : Int32).toNatClampNeg 0))), (h1, .inr (5, [.int 0, .ref (q 0), .ref (q 1), .ref (q 2), .ref sc, .int 0, .ref (q 3), .ref (q 4), .ref (q 5), .ref (q 6), .ref (q 7), .ref (q 8), .ref (q 9), .ref (q 10)])), (sc, .inr (7, [.int 0, .ref (qc 0), .ref (qc 1), .ref (qc 2), .ref (qc 3), .ref (qc 4), .ref (qc 5), .ref (qc 6), .int 0, .ref (qc 7), .ref (qc 8), .ref (qc 9)]))] H := hP
  have hD : va_D A [(h0, .inr (3, [.ref tk, .ref h1, .null, .int 0, .int 0, .int 0, .int 0, .int 0, .int 0, .ref (qp 0), .ref (qp 1), .ref (qp 2), .ref (qp 3)])), (tk, .inr (10, [.ref kd, .ref pl, .ref va, .int 1, .int 0, .ref tp, .ref rs])), (kd, .inl (kkd, 4002, .inl (upd (upd (fun _ => 0) (4001 : Int32).toNatClampNeg 4) (0 : Int32).toNatClampNeg 0))), (h1, .inr (5, [.int 0, .ref (q 0), .ref (q 1), .ref (q 2), .ref sc, .int 0, .ref (q 3), .ref (q 4), .ref (q 5), .ref (q 6), .ref (q 7), .ref (q 8), .ref (q 9), .ref (q 10)])), (sc, .inr (7, [.int 0, .ref (qc 0), .ref (qc 1), .ref (qc 2), .ref (qc 3), .ref (qc 4), .ref (qc 5), .ref (qc 6), .int 0, .ref (qc 7), .ref (qc 8), .ref (qc 9)]))] := hD
  refine lv_aload_n hx hb dX3_read_5 rfl (lv_at hl 0 rfl) ?_
  refine va_get (D := (dC, dI)) (ci := 3) (v := .ref h1) (C := RX3) (T := TX3) (N := 13) hx hb hts in_X3 hown hK hP 0 rfl rfl 1 (by decide) (hts _ wd_132) (fun _ h9 => h9) rfl dX3_read_6 ?_
  have hPc := hP.sub (ws' := [(h1, .inr (5, [.int 0, .ref (q 0), .ref (q 1), .ref (q 2), .ref sc, .int 0, .ref (q 3), .ref (q 4), .ref (q 5), .ref (q 6), .ref (q 7), .ref (q 8), .ref (q 9), .ref (q 10)])), (sc, .inr (7, [.int 0, .ref (qc 0), .ref (qc 1), .ref (qc 2), .ref (qc 3), .ref (qc 4), .ref (qc 5), .ref (qc 6), .int 0, .ref (qc 7), .ref (qc 8), .ref (qc 9)]))]) [3, 4] rfl
  have hDc := hD.sub (ws' := [(h1, .inr (5, [.int 0, .ref (q 0), .ref (q 1), .ref (q 2), .ref sc, .int 0, .ref (q 3), .ref (q 4), .ref (q 5), .ref (q 6), .ref (q 7), .ref (q 8), .ref (q 9), .ref (q 10)])), (sc, .inr (7, [.int 0, .ref (qc 0), .ref (qc 1), .ref (qc 2), .ref (qc 3), .ref (qc 4), .ref (qc 5), .ref (qc 6), .int 0, .ref (qc 7), .ref (qc 8), .ref (qc 9)]))]) [3, 4] (by decide) rfl
  have hKc := hK.sub (tys' := []) [] rfl
  have hFc := va_free (wc := [(h1, .inr (5, [.int 0, .ref (q 0), .ref (q 1), .ref (q 2), .ref sc, .int 0, .ref (q 3), .ref (q 4), .ref (q 5), .ref (q 6), .ref (q 7), .ref (q 8), .ref (q 9), .ref (q 10)])), (sc, .inr (7, [.int 0, .ref (qc 0), .ref (qc 1), .ref (qc 2), .ref (qc 3), .ref (qc 4), .ref (qc 5), .ref (qc 6), .int 0, .ref (qc 7), .ref (qc 8), .ref (qc 9)]))]) hD hS hA [3, 4] rfl
  refine va_callv (va_runV (As := []) (rest := []) ⟨hx, hb, hml, hown, hts⟩ (ct_X5_clear l dC dI h1 q sc qc H.size) (cwV 0 hts (gd_V wd_600 wd_601 wd_602 wd_13 wd_603) rfl rfl rfl (by decide +kernel) ⟨Nat.le_of_ble_eq_true rfl, Nat.le_of_ble_eq_true rfl⟩) ⟨fun a U g mk q => by obtain ⟨q0, q1, qP, qK, qD⟩ := q; exact ⟨q0, q1, qP, va_K.moved (u := U) (U := U.calling g mk a) (Vm.Alike.refl U.vm) qK, qD⟩, va_recv hKc hPc (ci := 5) (q0 := 0) rfl rfl, fun U hU hW => ⟨rfl, by rw [hU], by rw [hU]; exact hPc, va_K.moved hW.alike hKc, hDc.weaken (fun _ _ _ _ => trivial)⟩⟩ rfl rfl hl.1 rfl (lv_room (Nat.le_of_ble_eq_true rfl)) dX3_read_9 ⟨Nat.le_of_ble_eq_true rfl, Nat.le_of_ble_eq_true rfl⟩) hS (fun q _ h => hFc q h) hFc (fun u t H1 locs ht hvm hw hB hz1 hk1 hS => ?_)
  obtain ⟨hP1, hK1, hD1⟩ := hB
  rw [ht] at hP1
  have hK1 := va_K.moved hvm.symm hK1
  obtain ⟨hP, hD⟩ := va_join (wr := [(h0, .inr (3, [.ref tk, .ref h1, .null, .int 0, .int 0, .int 0, .int 0, .int 0, .int 0, .ref (qp 0), .ref (qp 1), .ref (qp 2), .ref (qp 3)])), (tk, .inr (10, [.ref kd, .ref pl, .ref va, .int 1, .int 0, .ref tp, .ref rs])), (kd, .inl (kkd, 4002, .inl (upd (upd (fun _ => 0) (4001 : Int32).toNatClampNeg 4) (0 : Int32).toNatClampNeg 0)))]) (w1 := [(h1, .inr (5, [.int 0, .ref (q 0), .ref (q 1), .ref (q 2), .ref sc, .int 0, .ref (q 3), .ref (q 4), .ref (q 5), .ref (q 6), .ref (q 7), .ref (q 8), .ref (q 9), .ref (q 10)])), (sc, .inr (7, [.int 0, .ref (qc 0), .ref (qc 1), .ref (qc 2), .ref (qc 3), .ref (qc 4), .ref (qc 5), .ref (qc 6), .int 0, .ref (qc 7), .ref (qc 8), .ref (qc 9)]))]) hP hD [3, 4] [0, 1, 2] rfl rfl (by decide) (by decide) hk1 hFc hP1 hD1
  have hK := (hK.sub (tys' := [(kkd, .int)]) [0] rfl).app (hK1.sub (tys' := []) [] rfl)
  generalize H1 = H at hP hS ⊢
  have hP : va_P (dC, dI) vwCl [(h0, .inr (3, [.ref tk, .ref h1, .null, .int 0, .int 0, .int 0, .int 0, .int 0, .int 0, .ref (qp 0), .ref (qp 1), .ref (qp 2), .ref (qp 3)])), (tk, .inr (10, [.ref kd, .ref pl, .ref va, .int 1, .int 0, .ref tp, .ref rs])), (kd, .inl (kkd, 4002, .inl (upd (upd (fun _ => 0) (4001 : Int32).toNatClampNeg 4) (0 : Int32).toNatClampNeg 0))), (h1, .inr (5, [.int 0, .ref (q 0), .ref (q 1), .ref (q 2), .ref sc, .int 0, .ref (q 3), .ref (q 4), .ref (q 5), .ref (q 6), .ref (q 7), .ref (q 8), .ref (q 9), .ref (q 10)])), (sc, .inr (7, [.int 0, .ref (qc 0), .ref (qc 1), .ref (qc 2), .ref (qc 3), .ref (qc 4), .ref (qc 5), .ref (qc 6), .int 0, .ref (qc 7), .ref (qc 8), .ref (qc 9)]))] H := hP
  have hD : va_D A [(h0, .inr (3, [.ref tk, .ref h1, .null, .int 0, .int 0, .int 0, .int 0, .int 0, .int 0, .ref (qp 0), .ref (qp 1), .ref (qp 2), .ref (qp 3)])), (tk, .inr (10, [.ref kd, .ref pl, .ref va, .int 1, .int 0, .ref tp, .ref rs])), (kd, .inl (kkd, 4002, .inl (upd (upd (fun _ => 0) (4001 : Int32).toNatClampNeg 4) (0 : Int32).toNatClampNeg 0))), (h1, .inr (5, [.int 0, .ref (q 0), .ref (q 1), .ref (q 2), .ref sc, .int 0, .ref (q 3), .ref (q 4), .ref (q 5), .ref (q 6), .ref (q 7), .ref (q 8), .ref (q 9), .ref (q 10)])), (sc, .inr (7, [.int 0, .ref (qc 0), .ref (qc 1), .ref (qc 2), .ref (qc 3), .ref (qc 4), .ref (qc 5), .ref (qc 6), .int 0, .ref (qc 7), .ref (qc 8), .ref (qc 9)]))] := hD
  have hK : va_K (dC, dI) vwCl [(kkd, .int)] s := hK
  refine lv_aload_n hx hb dX3_read_12 rfl (lv_at hl 0 rfl) ?_
  refine lv_aload_n hx hb dX3_read_13 rfl (lv_at hl 0 rfl) ?_
  refine va_get (D := (dC, dI)) (ci := 3) (v := .ref h1) (C := RX3) (T := TX3) (N := 13) hx hb hts in_X3 hown hK hP 0 rfl rfl 1 (by decide) (hts _ wd_132) (fun _ h9 => h9) rfl dX3_read_14 ?_
  refine va_get (D := (dC, dI)) (ci := 5) (v := .ref sc) (C := RX5) (T := TX5) (N := 14) hx hb hts in_X5 hown hK hP 3 rfl rfl 4 (by decide) (hts _ wd_410) (fun _ h9 => h9) rfl dX3_read_17 ?_
  refine va_put (D := (dC, dI)) (ci := 3) (v := .ref sc) (ty := (tyX3 2)) (C := RX3) (T := TX3) (N := 13) hx hb hts in_X3 tyX3 tyX3_ok nmX3 hown hK hP hD hS 0 rfl rfl 2 (by decide) (hts _ wd_133) (fun _ h9 => h9) rfl (tyX3_ok 2 (by decide)) rfl rfl (Nat.le_of_ble_eq_true rfl) dX3_read_20 (fun H locs hP hD hS => ?_)
  have hP : va_P (dC, dI) vwCl [(h0, .inr (3, [.ref tk, .ref h1, .ref sc, .int 0, .int 0, .int 0, .int 0, .int 0, .int 0, .ref (qp 0), .ref (qp 1), .ref (qp 2), .ref (qp 3)])), (tk, .inr (10, [.ref kd, .ref pl, .ref va, .int 1, .int 0, .ref tp, .ref rs])), (kd, .inl (kkd, 4002, .inl (upd (upd (fun _ => 0) (4001 : Int32).toNatClampNeg 4) (0 : Int32).toNatClampNeg 0))), (h1, .inr (5, [.int 0, .ref (q 0), .ref (q 1), .ref (q 2), .ref sc, .int 0, .ref (q 3), .ref (q 4), .ref (q 5), .ref (q 6), .ref (q 7), .ref (q 8), .ref (q 9), .ref (q 10)])), (sc, .inr (7, [.int 0, .ref (qc 0), .ref (qc 1), .ref (qc 2), .ref (qc 3), .ref (qc 4), .ref (qc 5), .ref (qc 6), .int 0, .ref (qc 7), .ref (qc 8), .ref (qc 9)]))] H := hP
  have hD : va_D A [(h0, .inr (3, [.ref tk, .ref h1, .ref sc, .int 0, .int 0, .int 0, .int 0, .int 0, .int 0, .ref (qp 0), .ref (qp 1), .ref (qp 2), .ref (qp 3)])), (tk, .inr (10, [.ref kd, .ref pl, .ref va, .int 1, .int 0, .ref tp, .ref rs])), (kd, .inl (kkd, 4002, .inl (upd (upd (fun _ => 0) (4001 : Int32).toNatClampNeg 4) (0 : Int32).toNatClampNeg 0))), (h1, .inr (5, [.int 0, .ref (q 0), .ref (q 1), .ref (q 2), .ref sc, .int 0, .ref (q 3), .ref (q 4), .ref (q 5), .ref (q 6), .ref (q 7), .ref (q 8), .ref (q 9), .ref (q 10)])), (sc, .inr (7, [.int 0, .ref (qc 0), .ref (qc 1), .ref (qc 2), .ref (qc 3), .ref (qc 4), .ref (qc 5), .ref (qc 6), .int 0, .ref (qc 7), .ref (qc 8), .ref (qc 9)]))] := hD
  refine lv_aload_n hx hb dX3_read_23 rfl (lv_at hl 0 rfl) ?_
  refine lv_iconst (v := 0) hx hb dX3_read_24 (by decide) ?_
  refine va_put (D := (dC, dI)) (ci := 3) (v := .int 0) (ty := (tyX3 3)) (C := RX3) (T := TX3) (N := 13) hx hb hts in_X3 tyX3 tyX3_ok nmX3 hown hK hP hD hS 0 rfl rfl 3 (by decide) (hts _ wd_134) (fun _ h9 => h9) rfl (tyX3_ok 3 (by decide)) rfl rfl (Nat.le_of_ble_eq_true rfl) dX3_read_25 (fun H locs hP hD hS => ?_)
  have hP : va_P (dC, dI) vwCl [(h0, .inr (3, [.ref tk, .ref h1, .ref sc, .int 0, .int 0, .int 0, .int 0, .int 0, .int 0, .ref (qp 0), .ref (qp 1), .ref (qp 2), .ref (qp 3)])), (tk, .inr (10, [.ref kd, .ref pl, .ref va, .int 1, .int 0, .ref tp, .ref rs])), (kd, .inl (kkd, 4002, .inl (upd (upd (fun _ => 0) (4001 : Int32).toNatClampNeg 4) (0 : Int32).toNatClampNeg 0))), (h1, .inr (5, [.int 0, .ref (q 0), .ref (q 1), .ref (q 2), .ref sc, .int 0, .ref (q 3), .ref (q 4), .ref (q 5), .ref (q 6), .ref (q 7), .ref (q 8), .ref (q 9), .ref (q 10)])), (sc, .inr (7, [.int 0, .ref (qc 0), .ref (qc 1), .ref (qc 2), .ref (qc 3), .ref (qc 4), .ref (qc 5), .ref (qc 6), .int 0, .ref (qc 7), .ref (qc 8), .ref (qc 9)]))] H := hP
  have hD : va_D A [(h0, .inr (3, [.ref tk, .ref h1, .ref sc, .int 0, .int 0, .int 0, .int 0, .int 0, .int 0, .ref (qp 0), .ref (qp 1), .ref (qp 2), .ref (qp 3)])), (tk, .inr (10, [.ref kd, .ref pl, .ref va, .int 1, .int 0, .ref tp, .ref rs])), (kd, .inl (kkd, 4002, .inl (upd (upd (fun _ => 0) (4001 : Int32).toNatClampNeg 4) (0 : Int32).toNatClampNeg 0))), (h1, .inr (5, [.int 0, .ref (q 0), .ref (q 1), .ref (q 2), .ref sc, .int 0, .ref (q 3), .ref (q 4), .ref (q 5), .ref (q 6), .ref (q 7), .ref (q 8), .ref (q 9), .ref (q 10)])), (sc, .inr (7, [.int 0, .ref (qc 0), .ref (qc 1), .ref (qc 2), .ref (qc 3), .ref (qc 4), .ref (qc 5), .ref (qc 6), .int 0, .ref (qc 7), .ref (qc 8), .ref (qc 9)]))] := hD
  refine lv_aload_n hx hb dX3_read_28 rfl (lv_at hl 0 rfl) ?_
  refine lv_iconst (v := 0) hx hb dX3_read_29 (by decide) ?_
  refine va_put (D := (dC, dI)) (ci := 3) (v := .int 0) (ty := (tyX3 4)) (C := RX3) (T := TX3) (N := 13) hx hb hts in_X3 tyX3 tyX3_ok nmX3 hown hK hP hD hS 0 rfl rfl 4 (by decide) (hts _ wd_135) (fun _ h9 => h9) rfl (tyX3_ok 4 (by decide)) rfl rfl (Nat.le_of_ble_eq_true rfl) dX3_read_30 (fun H locs hP hD hS => ?_)
  have hP : va_P (dC, dI) vwCl [(h0, .inr (3, [.ref tk, .ref h1, .ref sc, .int 0, .int 0, .int 0, .int 0, .int 0, .int 0, .ref (qp 0), .ref (qp 1), .ref (qp 2), .ref (qp 3)])), (tk, .inr (10, [.ref kd, .ref pl, .ref va, .int 1, .int 0, .ref tp, .ref rs])), (kd, .inl (kkd, 4002, .inl (upd (upd (fun _ => 0) (4001 : Int32).toNatClampNeg 4) (0 : Int32).toNatClampNeg 0))), (h1, .inr (5, [.int 0, .ref (q 0), .ref (q 1), .ref (q 2), .ref sc, .int 0, .ref (q 3), .ref (q 4), .ref (q 5), .ref (q 6), .ref (q 7), .ref (q 8), .ref (q 9), .ref (q 10)])), (sc, .inr (7, [.int 0, .ref (qc 0), .ref (qc 1), .ref (qc 2), .ref (qc 3), .ref (qc 4), .ref (qc 5), .ref (qc 6), .int 0, .ref (qc 7), .ref (qc 8), .ref (qc 9)]))] H := hP
  have hD : va_D A [(h0, .inr (3, [.ref tk, .ref h1, .ref sc, .int 0, .int 0, .int 0, .int 0, .int 0, .int 0, .ref (qp 0), .ref (qp 1), .ref (qp 2), .ref (qp 3)])), (tk, .inr (10, [.ref kd, .ref pl, .ref va, .int 1, .int 0, .ref tp, .ref rs])), (kd, .inl (kkd, 4002, .inl (upd (upd (fun _ => 0) (4001 : Int32).toNatClampNeg 4) (0 : Int32).toNatClampNeg 0))), (h1, .inr (5, [.int 0, .ref (q 0), .ref (q 1), .ref (q 2), .ref sc, .int 0, .ref (q 3), .ref (q 4), .ref (q 5), .ref (q 6), .ref (q 7), .ref (q 8), .ref (q 9), .ref (q 10)])), (sc, .inr (7, [.int 0, .ref (qc 0), .ref (qc 1), .ref (qc 2), .ref (qc 3), .ref (qc 4), .ref (qc 5), .ref (qc 6), .int 0, .ref (qc 7), .ref (qc 8), .ref (qc 9)]))] := hD
  refine lv_aload_n hx hb dX3_read_33 rfl (lv_at hl 0 rfl) ?_
  refine lv_iconst (v := -1) hx hb dX3_read_34 (by decide) ?_
  refine va_put (D := (dC, dI)) (ci := 3) (v := .int (-1)) (ty := (tyX3 5)) (C := RX3) (T := TX3) (N := 13) hx hb hts in_X3 tyX3 tyX3_ok nmX3 hown hK hP hD hS 0 rfl rfl 5 (by decide) (hts _ wd_136) (fun _ h9 => h9) rfl (tyX3_ok 5 (by decide)) rfl rfl (Nat.le_of_ble_eq_true rfl) dX3_read_35 (fun H locs hP hD hS => ?_)
  have hP : va_P (dC, dI) vwCl [(h0, .inr (3, [.ref tk, .ref h1, .ref sc, .int 0, .int 0, .int (-1), .int 0, .int 0, .int 0, .ref (qp 0), .ref (qp 1), .ref (qp 2), .ref (qp 3)])), (tk, .inr (10, [.ref kd, .ref pl, .ref va, .int 1, .int 0, .ref tp, .ref rs])), (kd, .inl (kkd, 4002, .inl (upd (upd (fun _ => 0) (4001 : Int32).toNatClampNeg 4) (0 : Int32).toNatClampNeg 0))), (h1, .inr (5, [.int 0, .ref (q 0), .ref (q 1), .ref (q 2), .ref sc, .int 0, .ref (q 3), .ref (q 4), .ref (q 5), .ref (q 6), .ref (q 7), .ref (q 8), .ref (q 9), .ref (q 10)])), (sc, .inr (7, [.int 0, .ref (qc 0), .ref (qc 1), .ref (qc 2), .ref (qc 3), .ref (qc 4), .ref (qc 5), .ref (qc 6), .int 0, .ref (qc 7), .ref (qc 8), .ref (qc 9)]))] H := hP
  have hD : va_D A [(h0, .inr (3, [.ref tk, .ref h1, .ref sc, .int 0, .int 0, .int (-1), .int 0, .int 0, .int 0, .ref (qp 0), .ref (qp 1), .ref (qp 2), .ref (qp 3)])), (tk, .inr (10, [.ref kd, .ref pl, .ref va, .int 1, .int 0, .ref tp, .ref rs])), (kd, .inl (kkd, 4002, .inl (upd (upd (fun _ => 0) (4001 : Int32).toNatClampNeg 4) (0 : Int32).toNatClampNeg 0))), (h1, .inr (5, [.int 0, .ref (q 0), .ref (q 1), .ref (q 2), .ref sc, .int 0, .ref (q 3), .ref (q 4), .ref (q 5), .ref (q 6), .ref (q 7), .ref (q 8), .ref (q 9), .ref (q 10)])), (sc, .inr (7, [.int 0, .ref (qc 0), .ref (qc 1), .ref (qc 2), .ref (qc 3), .ref (qc 4), .ref (qc 5), .ref (qc 6), .int 0, .ref (qc 7), .ref (qc 8), .ref (qc 9)]))] := hD
  refine lv_aload_n hx hb dX3_read_38 rfl (lv_at hl 0 rfl) ?_
  refine lv_iconst (v := -1) hx hb dX3_read_39 (by decide) ?_
  refine va_put (D := (dC, dI)) (ci := 3) (v := .int (-1)) (ty := (tyX3 6)) (C := RX3) (T := TX3) (N := 13) hx hb hts in_X3 tyX3 tyX3_ok nmX3 hown hK hP hD hS 0 rfl rfl 6 (by decide) (hts _ wd_137) (fun _ h9 => h9) rfl (tyX3_ok 6 (by decide)) rfl rfl (Nat.le_of_ble_eq_true rfl) dX3_read_40 (fun H locs hP hD hS => ?_)
  have hP : va_P (dC, dI) vwCl [(h0, .inr (3, [.ref tk, .ref h1, .ref sc, .int 0, .int 0, .int (-1), .int (-1), .int 0, .int 0, .ref (qp 0), .ref (qp 1), .ref (qp 2), .ref (qp 3)])), (tk, .inr (10, [.ref kd, .ref pl, .ref va, .int 1, .int 0, .ref tp, .ref rs])), (kd, .inl (kkd, 4002, .inl (upd (upd (fun _ => 0) (4001 : Int32).toNatClampNeg 4) (0 : Int32).toNatClampNeg 0))), (h1, .inr (5, [.int 0, .ref (q 0), .ref (q 1), .ref (q 2), .ref sc, .int 0, .ref (q 3), .ref (q 4), .ref (q 5), .ref (q 6), .ref (q 7), .ref (q 8), .ref (q 9), .ref (q 10)])), (sc, .inr (7, [.int 0, .ref (qc 0), .ref (qc 1), .ref (qc 2), .ref (qc 3), .ref (qc 4), .ref (qc 5), .ref (qc 6), .int 0, .ref (qc 7), .ref (qc 8), .ref (qc 9)]))] H := hP
  have hD : va_D A [(h0, .inr (3, [.ref tk, .ref h1, .ref sc, .int 0, .int 0, .int (-1), .int (-1), .int 0, .int 0, .ref (qp 0), .ref (qp 1), .ref (qp 2), .ref (qp 3)])), (tk, .inr (10, [.ref kd, .ref pl, .ref va, .int 1, .int 0, .ref tp, .ref rs])), (kd, .inl (kkd, 4002, .inl (upd (upd (fun _ => 0) (4001 : Int32).toNatClampNeg 4) (0 : Int32).toNatClampNeg 0))), (h1, .inr (5, [.int 0, .ref (q 0), .ref (q 1), .ref (q 2), .ref sc, .int 0, .ref (q 3), .ref (q 4), .ref (q 5), .ref (q 6), .ref (q 7), .ref (q 8), .ref (q 9), .ref (q 10)])), (sc, .inr (7, [.int 0, .ref (qc 0), .ref (qc 1), .ref (qc 2), .ref (qc 3), .ref (qc 4), .ref (qc 5), .ref (qc 6), .int 0, .ref (qc 7), .ref (qc 8), .ref (qc 9)]))] := hD
  refine lv_aload_n hx hb dX3_read_43 rfl (lv_at hl 0 rfl) ?_
  refine lv_iconst (v := 0) hx hb dX3_read_44 (by decide) ?_
  refine va_put (D := (dC, dI)) (ci := 3) (v := .int 0) (ty := (tyX3 7)) (C := RX3) (T := TX3) (N := 13) hx hb hts in_X3 tyX3 tyX3_ok nmX3 hown hK hP hD hS 0 rfl rfl 7 (by decide) (hts _ wd_138) (fun _ h9 => h9) rfl (tyX3_ok 7 (by decide)) rfl rfl (Nat.le_of_ble_eq_true rfl) dX3_read_45 (fun H locs hP hD hS => ?_)
  have hP : va_P (dC, dI) vwCl [(h0, .inr (3, [.ref tk, .ref h1, .ref sc, .int 0, .int 0, .int (-1), .int (-1), .int 0, .int 0, .ref (qp 0), .ref (qp 1), .ref (qp 2), .ref (qp 3)])), (tk, .inr (10, [.ref kd, .ref pl, .ref va, .int 1, .int 0, .ref tp, .ref rs])), (kd, .inl (kkd, 4002, .inl (upd (upd (fun _ => 0) (4001 : Int32).toNatClampNeg 4) (0 : Int32).toNatClampNeg 0))), (h1, .inr (5, [.int 0, .ref (q 0), .ref (q 1), .ref (q 2), .ref sc, .int 0, .ref (q 3), .ref (q 4), .ref (q 5), .ref (q 6), .ref (q 7), .ref (q 8), .ref (q 9), .ref (q 10)])), (sc, .inr (7, [.int 0, .ref (qc 0), .ref (qc 1), .ref (qc 2), .ref (qc 3), .ref (qc 4), .ref (qc 5), .ref (qc 6), .int 0, .ref (qc 7), .ref (qc 8), .ref (qc 9)]))] H := hP
  have hD : va_D A [(h0, .inr (3, [.ref tk, .ref h1, .ref sc, .int 0, .int 0, .int (-1), .int (-1), .int 0, .int 0, .ref (qp 0), .ref (qp 1), .ref (qp 2), .ref (qp 3)])), (tk, .inr (10, [.ref kd, .ref pl, .ref va, .int 1, .int 0, .ref tp, .ref rs])), (kd, .inl (kkd, 4002, .inl (upd (upd (fun _ => 0) (4001 : Int32).toNatClampNeg 4) (0 : Int32).toNatClampNeg 0))), (h1, .inr (5, [.int 0, .ref (q 0), .ref (q 1), .ref (q 2), .ref sc, .int 0, .ref (q 3), .ref (q 4), .ref (q 5), .ref (q 6), .ref (q 7), .ref (q 8), .ref (q 9), .ref (q 10)])), (sc, .inr (7, [.int 0, .ref (qc 0), .ref (qc 1), .ref (qc 2), .ref (qc 3), .ref (qc 4), .ref (qc 5), .ref (qc 6), .int 0, .ref (qc 7), .ref (qc 8), .ref (qc 9)]))] := hD
  refine lv_aload_n hx hb dX3_read_48 rfl (lv_at hl 0 rfl) ?_
  refine lv_iconst (v := 0) hx hb dX3_read_49 (by decide) ?_
  refine va_put (D := (dC, dI)) (ci := 3) (v := .int 0) (ty := (tyX3 8)) (C := RX3) (T := TX3) (N := 13) hx hb hts in_X3 tyX3 tyX3_ok nmX3 hown hK hP hD hS 0 rfl rfl 8 (by decide) (hts _ wd_139) (fun _ h9 => h9) rfl (tyX3_ok 8 (by decide)) rfl rfl (Nat.le_of_ble_eq_true rfl) dX3_read_50 (fun H locs hP hD hS => ?_)
  have hP : va_P (dC, dI) vwCl [(h0, .inr (3, [.ref tk, .ref h1, .ref sc, .int 0, .int 0, .int (-1), .int (-1), .int 0, .int 0, .ref (qp 0), .ref (qp 1), .ref (qp 2), .ref (qp 3)])), (tk, .inr (10, [.ref kd, .ref pl, .ref va, .int 1, .int 0, .ref tp, .ref rs])), (kd, .inl (kkd, 4002, .inl (upd (upd (fun _ => 0) (4001 : Int32).toNatClampNeg 4) (0 : Int32).toNatClampNeg 0))), (h1, .inr (5, [.int 0, .ref (q 0), .ref (q 1), .ref (q 2), .ref sc, .int 0, .ref (q 3), .ref (q 4), .ref (q 5), .ref (q 6), .ref (q 7), .ref (q 8), .ref (q 9), .ref (q 10)])), (sc, .inr (7, [.int 0, .ref (qc 0), .ref (qc 1), .ref (qc 2), .ref (qc 3), .ref (qc 4), .ref (qc 5), .ref (qc 6), .int 0, .ref (qc 7), .ref (qc 8), .ref (qc 9)]))] H := hP
  have hD : va_D A [(h0, .inr (3, [.ref tk, .ref h1, .ref sc, .int 0, .int 0, .int (-1), .int (-1), .int 0, .int 0, .ref (qp 0), .ref (qp 1), .ref (qp 2), .ref (qp 3)])), (tk, .inr (10, [.ref kd, .ref pl, .ref va, .int 1, .int 0, .ref tp, .ref rs])), (kd, .inl (kkd, 4002, .inl (upd (upd (fun _ => 0) (4001 : Int32).toNatClampNeg 4) (0 : Int32).toNatClampNeg 0))), (h1, .inr (5, [.int 0, .ref (q 0), .ref (q 1), .ref (q 2), .ref sc, .int 0, .ref (q 3), .ref (q 4), .ref (q 5), .ref (q 6), .ref (q 7), .ref (q 8), .ref (q 9), .ref (q 10)])), (sc, .inr (7, [.int 0, .ref (qc 0), .ref (qc 1), .ref (qc 2), .ref (qc 3), .ref (qc 4), .ref (qc 5), .ref (qc 6), .int 0, .ref (qc 7), .ref (qc 8), .ref (qc 9)]))] := hD
  refine lv_iconst (v := 0) hx hb dX3_read_53 (by decide) ?_
  refine lv_istore_n (lv' := [(2, .int 0), (0, .ref h0), (1, .ref h1)]) hx hb dX3_read_54 rfl hl (by decide) rfl (fun ls hl => ?_)
  refine lv_iload_n hx hb dX3_read_55 rfl (lv_at hl 0 rfl) ?_
  refine lv_bipush (v := 12) hx hb dX3_read_56 (by decide) ?_
  refine lv_icmp_gt (tgt := 93) hx hb dX3_read_58 (by decide) (fun h => absurd h (by decide)) (fun _ => ?_)
  refine lv_aload_n hx hb dX3_read_61 rfl (lv_at hl 1 rfl) ?_
  have hPc := hP.sub (ws' := [(h0, .inr (3, [.ref tk, (.ref h1 : Value), (.ref sc : Value), .int 0, .int 0, .int (-1), .int (-1), .int 0, .int 0, .ref (qp 0), .ref (qp 1), .ref (qp 2), .ref (qp 3)])), (tk, .inr (10, [.ref kd, .ref pl, .ref va, .int 1, .int 0, .ref tp, .ref rs])), (kd, .inl (kkd, 4002, .inl (upd (upd (fun _ => 0) (4001 : Int32).toNatClampNeg 4) (0 : Int32).toNatClampNeg 0)))]) [0, 1, 2] rfl
  have hDc := hD.sub (ws' := [(h0, .inr (3, [.ref tk, (.ref h1 : Value), (.ref sc : Value), .int 0, .int 0, .int (-1), .int (-1), .int 0, .int 0, .ref (qp 0), .ref (qp 1), .ref (qp 2), .ref (qp 3)])), (tk, .inr (10, [.ref kd, .ref pl, .ref va, .int 1, .int 0, .ref tp, .ref rs])), (kd, .inl (kkd, 4002, .inl (upd (upd (fun _ => 0) (4001 : Int32).toNatClampNeg 4) (0 : Int32).toNatClampNeg 0)))]) [0, 1, 2] (by decide) rfl
  have hKc := hK.sub (tys' := [(kkd, .int)]) [0] rfl
  have hFc := va_free (wc := [(h0, .inr (3, [.ref tk, (.ref h1 : Value), (.ref sc : Value), .int 0, .int 0, .int (-1), .int (-1), .int 0, .int 0, .ref (qp 0), .ref (qp 1), .ref (qp 2), .ref (qp 3)])), (tk, .inr (10, [.ref kd, .ref pl, .ref va, .int 1, .int 0, .ref tp, .ref rs])), (kd, .inl (kkd, 4002, .inl (upd (upd (fun _ => 0) (4001 : Int32).toNatClampNeg 4) (0 : Int32).toNatClampNeg 0)))]) hD hS hA [0, 1, 2] rfl
  refine va_calli (va_runV (As := []) (rest := []) ⟨hx, hb, hml, hown, hts⟩ (ct_X3_kind l dC dI h0 tk (.ref h1 : Value) (.ref sc : Value) qp kd pl va tp rs kkd H.size) (cwV 0 hts (gd_V wd_608 wd_610 sl_X3_kind wd_7 wd_611) rfl rfl rfl (by decide +kernel) ⟨Nat.le_of_ble_eq_true rfl, Nat.le_of_ble_eq_true rfl⟩) ⟨fun a U g mk q => by obtain ⟨q0, q1, qP, qK, qD⟩ := q; exact ⟨q0, q1, qP, va_K.moved (u := U) (U := U.calling g mk a) (Vm.Alike.refl U.vm) qK, qD⟩, va_recv hKc hPc (ci := 3) (q0 := 0) rfl rfl, fun U hU hW => ⟨rfl, by rw [hU], by rw [hU]; exact hPc, va_K.moved hW.alike hKc, hDc.weaken (fun _ _ _ _ => trivial)⟩⟩ rfl rfl hl.1 rfl (lv_room (Nat.le_of_ble_eq_true rfl)) dX3_read_62 ⟨Nat.le_of_ble_eq_true rfl, Nat.le_of_ble_eq_true rfl⟩) hS (fun q _ h => hFc q h) hFc (fun r1 u t H1 locs ht hvm hw hB hz1 hk1 hS => ?_)
  obtain ⟨hP1, hK1, hD1⟩ := hB
  rw [ht] at hP1
  have hK1 := va_K.moved hvm.symm hK1
  obtain ⟨hP, hD⟩ := va_join (wr := [(h1, .inr (5, [.int 0, .ref (q 0), .ref (q 1), .ref (q 2), .ref sc, .int 0, .ref (q 3), .ref (q 4), .ref (q 5), .ref (q 6), .ref (q 7), .ref (q 8), .ref (q 9), .ref (q 10)])), (sc, .inr (7, [.int 0, .ref (qc 0), .ref (qc 1), .ref (qc 2), .ref (qc 3), .ref (qc 4), .ref (qc 5), .ref (qc 6), .int 0, .ref (qc 7), .ref (qc 8), .ref (qc 9)]))]) (w1 := [(h0, .inr (3, [.ref tk, (.ref h1 : Value), (.ref sc : Value), .int 0, .int 0, .int (-1), .int (-1), .int 0, .int 0, .ref (qp 0), .ref (qp 1), .ref (qp 2), .ref (qp 3)])), (tk, .inr (10, [.ref kd, .ref pl, .ref va, .int 1, .int 0, .ref tp, .ref rs])), (kd, .inl (kkd, 4002, .inl (upd (upd (fun _ => 0) (4001 : Int32).toNatClampNeg 4) (0 : Int32).toNatClampNeg 0)))]) hP hD [0, 1, 2] [3, 4] rfl rfl (by decide) (by decide) hk1 hFc hP1 hD1
  have hK := (hK.sub (tys' := [(kkd, .int)]) [0] rfl).app (hK1.sub (tys' := []) [] rfl)
  generalize H1 = H at hP hS ⊢
  have hP : va_P (dC, dI) vwCl [(h1, .inr (5, [.int 0, .ref (q 0), .ref (q 1), .ref (q 2), .ref sc, .int 0, .ref (q 3), .ref (q 4), .ref (q 5), .ref (q 6), .ref (q 7), .ref (q 8), .ref (q 9), .ref (q 10)])), (sc, .inr (7, [.int 0, .ref (qc 0), .ref (qc 1), .ref (qc 2), .ref (qc 3), .ref (qc 4), .ref (qc 5), .ref (qc 6), .int 0, .ref (qc 7), .ref (qc 8), .ref (qc 9)])), (h0, .inr (3, [.ref tk, (.ref h1 : Value), (.ref sc : Value), .int 0, .int 0, .int (-1), .int (-1), .int 0, .int 0, .ref (qp 0), .ref (qp 1), .ref (qp 2), .ref (qp 3)])), (tk, .inr (10, [.ref kd, .ref pl, .ref va, .int 1, .int 0, .ref tp, .ref rs])), (kd, .inl (kkd, 4002, .inl (upd (upd (fun _ => 0) (4001 : Int32).toNatClampNeg 4) (0 : Int32).toNatClampNeg 0)))] H := hP
  have hD : va_D A [(h1, .inr (5, [.int 0, .ref (q 0), .ref (q 1), .ref (q 2), .ref sc, .int 0, .ref (q 3), .ref (q 4), .ref (q 5), .ref (q 6), .ref (q 7), .ref (q 8), .ref (q 9), .ref (q 10)])), (sc, .inr (7, [.int 0, .ref (qc 0), .ref (qc 1), .ref (qc 2), .ref (qc 3), .ref (qc 4), .ref (qc 5), .ref (qc 6), .int 0, .ref (qc 7), .ref (qc 8), .ref (qc 9)])), (h0, .inr (3, [.ref tk, (.ref h1 : Value), (.ref sc : Value), .int 0, .int 0, .int (-1), .int (-1), .int 0, .int 0, .ref (qp 0), .ref (qp 1), .ref (qp 2), .ref (qp 3)])), (tk, .inr (10, [.ref kd, .ref pl, .ref va, .int 1, .int 0, .ref tp, .ref rs])), (kd, .inl (kkd, 4002, .inl (upd (upd (fun _ => 0) (4001 : Int32).toNatClampNeg 4) (0 : Int32).toNatClampNeg 0)))] := hD
  have hK : va_K (dC, dI) vwCl [(kkd, .int)] s := hK
  obtain rfl := hw
  refine lv_sipush (v := 200) hx hb dX3_read_65 (by decide) ?_
  refine lv_icmp_ne (tgt := 93) hx hb dX3_read_68 (by decide) (fun _ => ?_) (fun h => absurd h (by decide))
  refine lv_aload_n hx hb dX3_read_93 rfl (lv_at hl 1 rfl) ?_
  have hPc := hP.sub (ws' := [(h0, .inr (3, [.ref tk, ((.ref h1 : Value) : Value), ((.ref sc : Value) : Value), .int 0, .int 0, .int (-1), .int (-1), .int 0, .int 0, .ref (qp 0), .ref (qp 1), .ref (qp 2), .ref (qp 3)])), (tk, .inr (10, [.ref kd, .ref pl, .ref va, .int 1, .int 0, .ref tp, .ref rs])), (kd, .inl (kkd, 4002, .inl (upd (upd (fun _ => 0) (4001 : Int32).toNatClampNeg 4) (0 : Int32).toNatClampNeg 0)))]) [2, 3, 4] rfl
  have hDc := hD.sub (ws' := [(h0, .inr (3, [.ref tk, ((.ref h1 : Value) : Value), ((.ref sc : Value) : Value), .int 0, .int 0, .int (-1), .int (-1), .int 0, .int 0, .ref (qp 0), .ref (qp 1), .ref (qp 2), .ref (qp 3)])), (tk, .inr (10, [.ref kd, .ref pl, .ref va, .int 1, .int 0, .ref tp, .ref rs])), (kd, .inl (kkd, 4002, .inl (upd (upd (fun _ => 0) (4001 : Int32).toNatClampNeg 4) (0 : Int32).toNatClampNeg 0)))]) [2, 3, 4] (by decide) rfl
  have hKc := hK.sub (tys' := [(kkd, .int)]) [0] rfl
  have hFc := va_free (wc := [(h0, .inr (3, [.ref tk, ((.ref h1 : Value) : Value), ((.ref sc : Value) : Value), .int 0, .int 0, .int (-1), .int (-1), .int 0, .int 0, .ref (qp 0), .ref (qp 1), .ref (qp 2), .ref (qp 3)])), (tk, .inr (10, [.ref kd, .ref pl, .ref va, .int 1, .int 0, .ref tp, .ref rs])), (kd, .inl (kkd, 4002, .inl (upd (upd (fun _ => 0) (4001 : Int32).toNatClampNeg 4) (0 : Int32).toNatClampNeg 0)))]) hD hS hA [2, 3, 4] rfl
  refine va_calli (va_runV (As := []) (rest := []) ⟨hx, hb, hml, hown, hts⟩ (ct_X3_kind l dC dI h0 tk ((.ref h1 : Value) : Value) ((.ref sc : Value) : Value) qp kd pl va tp rs kkd H.size) (cwV 0 hts (gd_V wd_608 wd_610 sl_X3_kind wd_7 wd_611) rfl rfl rfl (by decide +kernel) ⟨Nat.le_of_ble_eq_true rfl, Nat.le_of_ble_eq_true rfl⟩) ⟨fun a U g mk q => by obtain ⟨q0, q1, qP, qK, qD⟩ := q; exact ⟨q0, q1, qP, va_K.moved (u := U) (U := U.calling g mk a) (Vm.Alike.refl U.vm) qK, qD⟩, va_recv hKc hPc (ci := 3) (q0 := 0) rfl rfl, fun U hU hW => ⟨rfl, by rw [hU], by rw [hU]; exact hPc, va_K.moved hW.alike hKc, hDc.weaken (fun _ _ _ _ => trivial)⟩⟩ rfl rfl hl.1 rfl (lv_room (Nat.le_of_ble_eq_true rfl)) dX3_read_94 ⟨Nat.le_of_ble_eq_true rfl, Nat.le_of_ble_eq_true rfl⟩) hS (fun q _ h => hFc q h) hFc (fun r2 u t H1 locs ht hvm hw hB hz1 hk1 hS => ?_)
  obtain ⟨hP1, hK1, hD1⟩ := hB
  rw [ht] at hP1
  have hK1 := va_K.moved hvm.symm hK1
  obtain ⟨hP, hD⟩ := va_join (wr := [(h1, .inr (5, [.int 0, .ref (q 0), .ref (q 1), .ref (q 2), .ref sc, .int 0, .ref (q 3), .ref (q 4), .ref (q 5), .ref (q 6), .ref (q 7), .ref (q 8), .ref (q 9), .ref (q 10)])), (sc, .inr (7, [.int 0, .ref (qc 0), .ref (qc 1), .ref (qc 2), .ref (qc 3), .ref (qc 4), .ref (qc 5), .ref (qc 6), .int 0, .ref (qc 7), .ref (qc 8), .ref (qc 9)]))]) (w1 := [(h0, .inr (3, [.ref tk, ((.ref h1 : Value) : Value), ((.ref sc : Value) : Value), .int 0, .int 0, .int (-1), .int (-1), .int 0, .int 0, .ref (qp 0), .ref (qp 1), .ref (qp 2), .ref (qp 3)])), (tk, .inr (10, [.ref kd, .ref pl, .ref va, .int 1, .int 0, .ref tp, .ref rs])), (kd, .inl (kkd, 4002, .inl (upd (upd (fun _ => 0) (4001 : Int32).toNatClampNeg 4) (0 : Int32).toNatClampNeg 0)))]) hP hD [2, 3, 4] [0, 1] rfl rfl (by decide) (by decide) hk1 hFc hP1 hD1
  have hK := (hK.sub (tys' := [(kkd, .int)]) [0] rfl).app (hK1.sub (tys' := []) [] rfl)
  generalize H1 = H at hP hS ⊢
  have hP : va_P (dC, dI) vwCl [(h1, .inr (5, [.int 0, .ref (q 0), .ref (q 1), .ref (q 2), .ref sc, .int 0, .ref (q 3), .ref (q 4), .ref (q 5), .ref (q 6), .ref (q 7), .ref (q 8), .ref (q 9), .ref (q 10)])), (sc, .inr (7, [.int 0, .ref (qc 0), .ref (qc 1), .ref (qc 2), .ref (qc 3), .ref (qc 4), .ref (qc 5), .ref (qc 6), .int 0, .ref (qc 7), .ref (qc 8), .ref (qc 9)])), (h0, .inr (3, [.ref tk, ((.ref h1 : Value) : Value), ((.ref sc : Value) : Value), .int 0, .int 0, .int (-1), .int (-1), .int 0, .int 0, .ref (qp 0), .ref (qp 1), .ref (qp 2), .ref (qp 3)])), (tk, .inr (10, [.ref kd, .ref pl, .ref va, .int 1, .int 0, .ref tp, .ref rs])), (kd, .inl (kkd, 4002, .inl (upd (upd (fun _ => 0) (4001 : Int32).toNatClampNeg 4) (0 : Int32).toNatClampNeg 0)))] H := hP
  have hD : va_D A [(h1, .inr (5, [.int 0, .ref (q 0), .ref (q 1), .ref (q 2), .ref sc, .int 0, .ref (q 3), .ref (q 4), .ref (q 5), .ref (q 6), .ref (q 7), .ref (q 8), .ref (q 9), .ref (q 10)])), (sc, .inr (7, [.int 0, .ref (qc 0), .ref (qc 1), .ref (qc 2), .ref (qc 3), .ref (qc 4), .ref (qc 5), .ref (qc 6), .int 0, .ref (qc 7), .ref (qc 8), .ref (qc 9)])), (h0, .inr (3, [.ref tk, ((.ref h1 : Value) : Value), ((.ref sc : Value) : Value), .int 0, .int 0, .int (-1), .int (-1), .int 0, .int 0, .ref (qp 0), .ref (qp 1), .ref (qp 2), .ref (qp 3)])), (tk, .inr (10, [.ref kd, .ref pl, .ref va, .int 1, .int 0, .ref tp, .ref rs])), (kd, .inl (kkd, 4002, .inl (upd (upd (fun _ => 0) (4001 : Int32).toNatClampNeg 4) (0 : Int32).toNatClampNeg 0)))] := hD
  have hK : va_K (dC, dI) vwCl [(kkd, .int)] s := hK
  obtain rfl := hw
  refine lv_if_eq (tgt := 105) hx hb dX3_read_97 (by decide) (fun _ => ?_) (fun h => absurd (by decide) h)
  refine lv_aload_n hx hb dX3_read_105 rfl (lv_at hl 1 rfl) ?_
  have hPc := hP.sub (ws' := [(h0, .inr (3, [.ref tk, (((.ref h1 : Value) : Value) : Value), (((.ref sc : Value) : Value) : Value), .int 0, .int 0, .int (-1), .int (-1), .int 0, .int 0, .ref (qp 0), .ref (qp 1), .ref (qp 2), .ref (qp 3)]))]) [2] rfl
  have hDc := hD.sub (ws' := [(h0, .inr (3, [.ref tk, (((.ref h1 : Value) : Value) : Value), (((.ref sc : Value) : Value) : Value), .int 0, .int 0, .int (-1), .int (-1), .int 0, .int 0, .ref (qp 0), .ref (qp 1), .ref (qp 2), .ref (qp 3)]))]) [2] (by decide) rfl
  have hKc := hK.sub (tys' := []) [] rfl
  have hFc := va_free (wc := [(h0, .inr (3, [.ref tk, (((.ref h1 : Value) : Value) : Value), (((.ref sc : Value) : Value) : Value), .int 0, .int 0, .int (-1), .int (-1), .int 0, .int 0, .ref (qp 0), .ref (qp 1), .ref (qp 2), .ref (qp 3)]))]) hD hS hA [2] rfl
  refine va_callv (va_runV (As := []) (rest := []) ⟨hx, hb, hml, hown, hts⟩ (ct_X3_findChildren l dC dI h0 tk (((.ref h1 : Value) : Value) : Value) (((.ref sc : Value) : Value) : Value) qp H.size) (cwV 0 hts (gd_V wd_771 wd_773 sl_X3_findChildren wd_7 wd_774) rfl rfl rfl (by decide +kernel) ⟨Nat.le_of_ble_eq_true rfl, Nat.le_of_ble_eq_true rfl⟩) ⟨fun a U g mk q => by obtain ⟨q0, q1, qP, qK, qD⟩ := q; exact ⟨q0, q1, qP, va_K.moved (u := U) (U := U.calling g mk a) (Vm.Alike.refl U.vm) qK, qD⟩, va_recv hKc hPc (ci := 3) (q0 := 0) rfl rfl, fun U hU hW => ⟨rfl, by rw [hU], by rw [hU]; exact hPc, va_K.moved hW.alike hKc, hDc.weaken (fun _ _ _ _ => trivial)⟩⟩ rfl rfl hl.1 rfl (lv_room (Nat.le_of_ble_eq_true rfl)) dX3_read_106 ⟨Nat.le_of_ble_eq_true rfl, Nat.le_of_ble_eq_true rfl⟩) hS (fun q _ h => hFc q h) hFc (fun u t H1 locs ht hvm hw hB hz1 hk1 hS => ?_)
  obtain ⟨hP1, hK1, hD1⟩ := hB
  rw [ht] at hP1
  have hK1 := va_K.moved hvm.symm hK1
  obtain ⟨hP, hD⟩ := va_join (wr := [(h1, .inr (5, [.int 0, .ref (q 0), .ref (q 1), .ref (q 2), .ref sc, .int 0, .ref (q 3), .ref (q 4), .ref (q 5), .ref (q 6), .ref (q 7), .ref (q 8), .ref (q 9), .ref (q 10)])), (sc, .inr (7, [.int 0, .ref (qc 0), .ref (qc 1), .ref (qc 2), .ref (qc 3), .ref (qc 4), .ref (qc 5), .ref (qc 6), .int 0, .ref (qc 7), .ref (qc 8), .ref (qc 9)])), (tk, .inr (10, [.ref kd, .ref pl, .ref va, .int 1, .int 0, .ref tp, .ref rs])), (kd, .inl (kkd, 4002, .inl (upd (upd (fun _ => 0) (4001 : Int32).toNatClampNeg 4) (0 : Int32).toNatClampNeg 0)))]) (w1 := [(h0, .inr (3, [.ref tk, (((.ref h1 : Value) : Value) : Value), (((.ref sc : Value) : Value) : Value), .int 0, .int 0, .int (-1), .int (-1), .int 0, .int 0, .ref (qp 0), .ref (qp 1), .ref (qp 2), .ref (qp 3)]))]) hP hD [2] [0, 1, 3, 4] rfl rfl (by decide) (by decide) hk1 hFc hP1 hD1
  have hK := (hK.sub (tys' := [(kkd, .int)]) [0] rfl).app (hK1.sub (tys' := []) [] rfl)
  generalize H1 = H at hP hS ⊢
  have hP : va_P (dC, dI) vwCl [(h1, .inr (5, [.int 0, .ref (q 0), .ref (q 1), .ref (q 2), .ref sc, .int 0, .ref (q 3), .ref (q 4), .ref (q 5), .ref (q 6), .ref (q 7), .ref (q 8), .ref (q 9), .ref (q 10)])), (sc, .inr (7, [.int 0, .ref (qc 0), .ref (qc 1), .ref (qc 2), .ref (qc 3), .ref (qc 4), .ref (qc 5), .ref (qc 6), .int 0, .ref (qc 7), .ref (qc 8), .ref (qc 9)])), (tk, .inr (10, [.ref kd, .ref pl, .ref va, .int 1, .int 0, .ref tp, .ref rs])), (kd, .inl (kkd, 4002, .inl (upd (upd (fun _ => 0) (4001 : Int32).toNatClampNeg 4) (0 : Int32).toNatClampNeg 0))), (h0, .inr (3, [.ref tk, (((.ref h1 : Value) : Value) : Value), (((.ref sc : Value) : Value) : Value), .int 0, .int 0, .int (-1), .int (-1), .int 0, .int 0, .ref (qp 0), .ref (qp 1), .ref (qp 2), .ref (qp 3)]))] H := hP
  have hD : va_D A [(h1, .inr (5, [.int 0, .ref (q 0), .ref (q 1), .ref (q 2), .ref sc, .int 0, .ref (q 3), .ref (q 4), .ref (q 5), .ref (q 6), .ref (q 7), .ref (q 8), .ref (q 9), .ref (q 10)])), (sc, .inr (7, [.int 0, .ref (qc 0), .ref (qc 1), .ref (qc 2), .ref (qc 3), .ref (qc 4), .ref (qc 5), .ref (qc 6), .int 0, .ref (qc 7), .ref (qc 8), .ref (qc 9)])), (tk, .inr (10, [.ref kd, .ref pl, .ref va, .int 1, .int 0, .ref tp, .ref rs])), (kd, .inl (kkd, 4002, .inl (upd (upd (fun _ => 0) (4001 : Int32).toNatClampNeg 4) (0 : Int32).toNatClampNeg 0))), (h0, .inr (3, [.ref tk, (((.ref h1 : Value) : Value) : Value), (((.ref sc : Value) : Value) : Value), .int 0, .int 0, .int (-1), .int (-1), .int 0, .int 0, .ref (qp 0), .ref (qp 1), .ref (qp 2), .ref (qp 3)]))] := hD
  have hK : va_K (dC, dI) vwCl [(kkd, .int)] s := hK
  refine lv_aload_n hx hb dX3_read_109 rfl (lv_at hl 1 rfl) ?_
  refine va_get (D := (dC, dI)) (ci := 3) (v := .int 0) (C := RX3) (T := TX3) (N := 13) hx hb hts in_X3 hown hK hP 4 rfl rfl 4 (by decide) (hts _ wd_135) (fun _ h9 => h9) rfl dX3_read_110 ?_
  have hP9 := hP.sub (ws' := []) [] rfl
  have hD9 := hD.sub (ws' := []) [] (by decide) rfl
  have hK9 := hK.sub (tys' := []) [] rfl
  refine W.widen (k := 0) (n := 0) (Nat.le_of_ble_eq_true rfl) (Nat.le_of_ble_eq_true rfl) ?_
  exact W.iret (v := 0) hx hb hr (fun t ht hW => ⟨⟨0, (), rfl, rfl, by rw [ht]; exact hP9, va_K.moved hW.alike hK9, hD9⟩, hS.F ht⟩) hS.2.2 dX3_read_113
