theorem wd_209 : (Jvm.Cond.fieldLink "Sleepers$Hall" (183 : Nat) "Sleepers$Line" "first" "LSleepers$Part;") ∈ tb := tb_at 209 (by decide +kernel) (by decide +kernel)
theorem wd_223 : (Jvm.Cond.fieldLink "Sleepers" (213 : Nat) "Sleepers$Book" "size" "I") ∈ tb := tb_at 223 (by decide +kernel) (by decide +kernel)
theorem wd_238 : (Jvm.Cond.fieldLink "Sleepers" (207 : Nat) "Sleepers$Hall" "taskCount" "I") ∈ tb := tb_at 238 (by decide +kernel) (by decide +kernel)
theorem wd_240 : (Jvm.Cond.fieldLink "Sleepers" (210 : Nat) "Sleepers$Hall" "endedCount" "I") ∈ tb := tb_at 240 (by decide +kernel) (by decide +kernel)
theorem wd_247 : (Jvm.Cond.fieldLink "Sleepers" (154 : Nat) "Sleepers$Hall" "clock" "I") ∈ tb := tb_at 247 (by decide +kernel) (by decide +kernel)
theorem wd_302 : (Jvm.Cond.fieldLink "Sleepers" (216 : Nat) "Sleepers$Runner" "allSteps" "I") ∈ tb := tb_at 302 (by decide +kernel) (by decide +kernel)
theorem wd_304 : (Jvm.Cond.fieldLink "Sleepers" (219 : Nat) "Sleepers$Runner" "turnSteps" "I") ∈ tb := tb_at 304 (by decide +kernel) (by decide +kernel)
theorem wd_413 : (Jvm.Cond.fieldLink "Sleepers$Program" (57 : Nat) "Sleepers$Program" "routines" "I") ∈ tb := tb_at 413 (by decide +kernel) (by decide +kernel)
theorem wd_415 : (Jvm.Cond.fieldLink "Sleepers" (204 : Nat) "Sleepers$Program" "routines" "I") ∈ tb := tb_at 415 (by decide +kernel) (by decide +kernel)
theorem wd_648 : (Jvm.Cond.methodLink "Sleepers$Program" (63 : Nat) ({ cls := "Sleepers$Program", name := "has", desc := "(I)Z" } : Jvm.MethodName)) ∈ tb := tb_at 648 (by decide +kernel) (by decide +kernel)
theorem wd_649 : (Jvm.Cond.instanceMethod ({ cls := "Sleepers$Program", name := "has", desc := "(I)Z" } : Jvm.MethodName)) ∈ tb := tb_at 649 (by decide +kernel) (by decide +kernel)
theorem wd_650 : (Jvm.Cond.selects "Sleepers$Program" ({ cls := "Sleepers$Program", name := "has", desc := "(I)Z" } : Jvm.MethodName) ({ cls := "Sleepers$Program", name := "has", desc := "(I)Z" } : Jvm.MethodName)) ∈ tb := tb_at 650 (by decide +kernel) (by decide +kernel)
theorem wd_651 : (Jvm.Cond.code ({ cls := "Sleepers$Program", name := "has", desc := "(I)Z" } : Jvm.MethodName) prog_7_method_3_code (2 : Nat) (Option.some Jvm.ClassFile.FieldType.boolean)) ∈ tb := tb_at 651 (by decide +kernel) (by decide +kernel)
theorem wd_814 : (Jvm.Cond.methodLink "Sleepers$Scopes" (53 : Nat) ({ cls := "Sleepers$Scopes", name := "leaveTo", desc := "(III)I" } : Jvm.MethodName)) ∈ tb := tb_at 814 (by decide +kernel) (by decide +kernel)
theorem wd_815 : (Jvm.Cond.instanceMethod ({ cls := "Sleepers$Scopes", name := "leaveTo", desc := "(III)I" } : Jvm.MethodName)) ∈ tb := tb_at 815 (by decide +kernel) (by decide +kernel)
theorem wd_816 : (Jvm.Cond.selects "Sleepers$Scopes" ({ cls := "Sleepers$Scopes", name := "leaveTo", desc := "(III)I" } : Jvm.MethodName) ({ cls := "Sleepers$Scopes", name := "leaveTo", desc := "(III)I" } : Jvm.MethodName)) ∈ tb := tb_at 816 (by decide +kernel) (by decide +kernel)
theorem wd_817 : (Jvm.Cond.code ({ cls := "Sleepers$Scopes", name := "leaveTo", desc := "(III)I" } : Jvm.MethodName) prog_9_method_10_code (7 : Nat) (Option.some Jvm.ClassFile.FieldType.int)) ∈ tb := tb_at 817 (by decide +kernel) (by decide +kernel)
theorem wd_818 : (Jvm.Cond.methodLink "Sleepers$Scopes" (49 : Nat) ({ cls := "Sleepers$Scopes", name := "is", desc := "(II)Z" } : Jvm.MethodName)) ∈ tb := tb_at 818 (by decide +kernel) (by decide +kernel)
theorem wd_819 : (Jvm.Cond.instanceMethod ({ cls := "Sleepers$Scopes", name := "is", desc := "(II)Z" } : Jvm.MethodName)) ∈ tb := tb_at 819 (by decide +kernel) (by decide +kernel)
theorem wd_820 : (Jvm.Cond.selects "Sleepers$Scopes" ({ cls := "Sleepers$Scopes", name := "is", desc := "(II)Z" } : Jvm.MethodName) ({ cls := "Sleepers$Scopes", name := "is", desc := "(II)Z" } : Jvm.MethodName)) ∈ tb := tb_at 820 (by decide +kernel) (by decide +kernel)
theorem wd_821 : (Jvm.Cond.code ({ cls := "Sleepers$Scopes", name := "is", desc := "(II)Z" } : Jvm.MethodName) prog_9_method_7_code (3 : Nat) (Option.some Jvm.ClassFile.FieldType.boolean)) ∈ tb := tb_at 821 (by decide +kernel) (by decide +kernel)
theorem wd_1220 : (Jvm.Cond.methodLink "Sleepers" (146 : Nat) ({ cls := "Sleepers$Hall", name := "deliver", desc := "(II)I" } : Jvm.MethodName)) ∈ tb := tb_at 1220 (by decide +kernel) (by decide +kernel)
theorem wd_1221 : (Jvm.Cond.instanceMethod ({ cls := "Sleepers$Hall", name := "deliver", desc := "(II)I" } : Jvm.MethodName)) ∈ tb := tb_at 1221 (by decide +kernel) (by decide +kernel)
theorem wd_1222 : (Jvm.Cond.selects "Sleepers$Hall" ({ cls := "Sleepers$Hall", name := "deliver", desc := "(II)I" } : Jvm.MethodName) ({ cls := "Sleepers$Hall", name := "deliver", desc := "(II)I" } : Jvm.MethodName)) ∈ tb := tb_at 1222 (by decide +kernel) (by decide +kernel)
theorem wd_1223 : (Jvm.Cond.code ({ cls := "Sleepers$Hall", name := "deliver", desc := "(II)I" } : Jvm.MethodName) prog_3_method_12_code (4 : Nat) (Option.some Jvm.ClassFile.FieldType.int)) ∈ tb := tb_at 1223 (by decide +kernel) (by decide +kernel)
theorem wd_1236 : (Jvm.Cond.methodLink "Sleepers" (157 : Nat) ({ cls := "Sleepers$Hall", name := "callOff", desc := "(I)Z" } : Jvm.MethodName)) ∈ tb := tb_at 1236 (by decide +kernel) (by decide +kernel)
theorem wd_1237 : (Jvm.Cond.instanceMethod ({ cls := "Sleepers$Hall", name := "callOff", desc := "(I)Z" } : Jvm.MethodName)) ∈ tb := tb_at 1237 (by decide +kernel) (by decide +kernel)
theorem wd_1238 : (Jvm.Cond.selects "Sleepers$Hall" ({ cls := "Sleepers$Hall", name := "callOff", desc := "(I)Z" } : Jvm.MethodName) ({ cls := "Sleepers$Hall", name := "callOff", desc := "(I)Z" } : Jvm.MethodName)) ∈ tb := tb_at 1238 (by decide +kernel) (by decide +kernel)
theorem wd_1239 : (Jvm.Cond.code ({ cls := "Sleepers$Hall", name := "callOff", desc := "(I)Z" } : Jvm.MethodName) prog_3_method_14_code (3 : Nat) (Option.some Jvm.ClassFile.FieldType.boolean)) ∈ tb := tb_at 1239 (by decide +kernel) (by decide +kernel)
theorem wd_1276 : (Jvm.Cond.methodLink "Sleepers" (222 : Nat) ({ cls := "Sleepers$Hall", name := "lettersLying", desc := "()I" } : Jvm.MethodName)) ∈ tb := tb_at 1276 (by decide +kernel) (by decide +kernel)
theorem wd_1277 : (Jvm.Cond.instanceMethod ({ cls := "Sleepers$Hall", name := "lettersLying", desc := "()I" } : Jvm.MethodName)) ∈ tb := tb_at 1277 (by decide +kernel) (by decide +kernel)
theorem wd_1278 : (Jvm.Cond.selects "Sleepers$Hall" ({ cls := "Sleepers$Hall", name := "lettersLying", desc := "()I" } : Jvm.MethodName) ({ cls := "Sleepers$Hall", name := "lettersLying", desc := "()I" } : Jvm.MethodName)) ∈ tb := tb_at 1278 (by decide +kernel) (by decide +kernel)
theorem wd_1279 : (Jvm.Cond.code ({ cls := "Sleepers$Hall", name := "lettersLying", desc := "()I" } : Jvm.MethodName) prog_3_method_4_code (3 : Nat) (Option.some Jvm.ClassFile.FieldType.int)) ∈ tb := tb_at 1279 (by decide +kernel) (by decide +kernel)
theorem dX11_cancel_0 : decode cX11_cancel 0 = .ok (.aload_n 0, 1) := by decide +kernel
theorem dX11_cancel_1 : decode cX11_cancel 1 = .ok (.getfield 35, 3) := by decide +kernel
theorem dX11_cancel_4 : decode cX11_cancel 4 = .ok (.iload_n 1, 1) := by decide +kernel
theorem dX11_cancel_5 : decode cX11_cancel 5 = .ok (.invokevirtual 157, 3) := by decide +kernel
theorem dX11_cancel_8 : decode cX11_cancel 8 = .ok (.ireturn, 1) := by decide +kernel
theorem dX11_count_0 : decode cX11_count 0 = .ok (.iload_n 1, 1) := by decide +kernel
theorem dX11_count_1 : decode cX11_count 1 = .ok (.tableswitch 181 0 11 #[63, 71, 79, 87, 95, 119, 130, 141, 149, 157, 165, 173], 63) := by decide +kernel
theorem dX11_count_64 : decode cX11_count 64 = .ok (.aload_n 0, 1) := by decide +kernel
theorem dX11_count_65 : decode cX11_count 65 = .ok (.getfield 51, 3) := by decide +kernel
theorem dX11_count_68 : decode cX11_count 68 = .ok (.getfield 204, 3) := by decide +kernel
theorem dX11_count_71 : decode cX11_count 71 = .ok (.ireturn, 1) := by decide +kernel
theorem dX11_count_72 : decode cX11_count 72 = .ok (.aload_n 0, 1) := by decide +kernel
theorem dX11_count_73 : decode cX11_count 73 = .ok (.getfield 35, 3) := by decide +kernel
theorem dX11_count_76 : decode cX11_count 76 = .ok (.getfield 207, 3) := by decide +kernel
theorem dX11_count_79 : decode cX11_count 79 = .ok (.ireturn, 1) := by decide +kernel
theorem dX11_count_80 : decode cX11_count 80 = .ok (.aload_n 0, 1) := by decide +kernel
theorem dX11_count_81 : decode cX11_count 81 = .ok (.getfield 35, 3) := by decide +kernel
theorem dX11_count_84 : decode cX11_count 84 = .ok (.getfield 210, 3) := by decide +kernel
theorem dX11_count_87 : decode cX11_count 87 = .ok (.ireturn, 1) := by decide +kernel
theorem dX11_count_88 : decode cX11_count 88 = .ok (.aload_n 0, 1) := by decide +kernel
theorem dX11_count_89 : decode cX11_count 89 = .ok (.getfield 35, 3) := by decide +kernel
theorem dX11_count_92 : decode cX11_count 92 = .ok (.getfield 178, 3) := by decide +kernel
theorem dX11_count_95 : decode cX11_count 95 = .ok (.ireturn, 1) := by decide +kernel
theorem dX11_count_96 : decode cX11_count 96 = .ok (.aload_n 0, 1) := by decide +kernel
theorem dX11_count_97 : decode cX11_count 97 = .ok (.getfield 35, 3) := by decide +kernel
theorem dX11_count_100 : decode cX11_count 100 = .ok (.getfield 207, 3) := by decide +kernel
theorem dX11_count_103 : decode cX11_count 103 = .ok (.aload_n 0, 1) := by decide +kernel
theorem dX11_count_104 : decode cX11_count 104 = .ok (.getfield 35, 3) := by decide +kernel
theorem dX11_count_107 : decode cX11_count 107 = .ok (.getfield 210, 3) := by decide +kernel
theorem dX11_count_110 : decode cX11_count 110 = .ok (.isub, 1) := by decide +kernel
theorem dX11_count_111 : decode cX11_count 111 = .ok (.aload_n 0, 1) := by decide +kernel
theorem dX11_count_112 : decode cX11_count 112 = .ok (.getfield 35, 3) := by decide +kernel
theorem dX11_count_115 : decode cX11_count 115 = .ok (.getfield 178, 3) := by decide +kernel
theorem dX11_count_118 : decode cX11_count 118 = .ok (.isub, 1) := by decide +kernel
theorem dX11_count_119 : decode cX11_count 119 = .ok (.ireturn, 1) := by decide +kernel
theorem dX11_count_120 : decode cX11_count 120 = .ok (.aload_n 0, 1) := by decide +kernel
theorem dX11_count_121 : decode cX11_count 121 = .ok (.getfield 44, 3) := by decide +kernel
theorem dX11_count_124 : decode cX11_count 124 = .ok (.getfield 76, 3) := by decide +kernel
theorem dX11_count_127 : decode cX11_count 127 = .ok (.getfield 213, 3) := by decide +kernel
theorem dX11_count_130 : decode cX11_count 130 = .ok (.ireturn, 1) := by decide +kernel
theorem dX11_count_131 : decode cX11_count 131 = .ok (.aload_n 0, 1) := by decide +kernel
theorem dX11_count_132 : decode cX11_count 132 = .ok (.getfield 35, 3) := by decide +kernel
theorem dX11_count_135 : decode cX11_count 135 = .ok (.getfield 186, 3) := by decide +kernel
theorem dX11_count_138 : decode cX11_count 138 = .ok (.getfield 213, 3) := by decide +kernel
theorem dX11_count_141 : decode cX11_count 141 = .ok (.ireturn, 1) := by decide +kernel
theorem dX11_count_142 : decode cX11_count 142 = .ok (.aload_n 0, 1) := by decide +kernel
theorem dX11_count_143 : decode cX11_count 143 = .ok (.getfield 35, 3) := by decide +kernel
theorem dX11_count_146 : decode cX11_count 146 = .ok (.getfield 154, 3) := by decide +kernel
theorem dX11_count_149 : decode cX11_count 149 = .ok (.ireturn, 1) := by decide +kernel
theorem dX11_count_150 : decode cX11_count 150 = .ok (.aload_n 0, 1) := by decide +kernel
theorem dX11_count_151 : decode cX11_count 151 = .ok (.getfield 44, 3) := by decide +kernel
theorem dX11_count_154 : decode cX11_count 154 = .ok (.getfield 216, 3) := by decide +kernel
theorem dX11_count_157 : decode cX11_count 157 = .ok (.ireturn, 1) := by decide +kernel
theorem dX11_count_158 : decode cX11_count 158 = .ok (.aload_n 0, 1) := by decide +kernel
theorem dX11_count_159 : decode cX11_count 159 = .ok (.getfield 44, 3) := by decide +kernel
theorem dX11_count_162 : decode cX11_count 162 = .ok (.getfield 219, 3) := by decide +kernel
theorem dX11_count_165 : decode cX11_count 165 = .ok (.ireturn, 1) := by decide +kernel
theorem dX11_count_166 : decode cX11_count 166 = .ok (.aload_n 0, 1) := by decide +kernel
theorem dX11_count_167 : decode cX11_count 167 = .ok (.getfield 35, 3) := by decide +kernel
theorem dX11_count_170 : decode cX11_count 170 = .ok (.invokevirtual 222, 3) := by decide +kernel
theorem dX11_count_173 : decode cX11_count 173 = .ok (.ireturn, 1) := by decide +kernel
theorem dX11_count_174 : decode cX11_count 174 = .ok (.aload_n 0, 1) := by decide +kernel
theorem dX11_count_175 : decode cX11_count 175 = .ok (.getfield 12, 3) := by decide +kernel
theorem dX11_count_178 : decode cX11_count 178 = .ok (.getfield 66, 3) := by decide +kernel
theorem dX11_count_181 : decode cX11_count 181 = .ok (.ireturn, 1) := by decide +kernel
theorem dX11_count_182 : decode cX11_count 182 = .ok (.iconst (-1), 1) := by decide +kernel
theorem dX11_count_183 : decode cX11_count 183 = .ok (.ireturn, 1) := by decide +kernel
theorem dX11_feed_0 : decode cX11_feed 0 = .ok (.aload_n 0, 1) := by decide +kernel
theorem dX11_feed_1 : decode cX11_feed 1 = .ok (.getfield 12, 3) := by decide +kernel
theorem dX11_feed_4 : decode cX11_feed 4 = .ok (.lload_n 1, 1) := by decide +kernel
theorem dX11_feed_5 : decode cX11_feed 5 = .ok (.invokevirtual 62, 3) := by decide +kernel
theorem dX11_feed_8 : decode cX11_feed 8 = .ok (.aload_n 0, 1) := by decide +kernel
theorem dX11_feed_9 : decode cX11_feed 9 = .ok (.getfield 12, 3) := by decide +kernel
theorem dX11_feed_12 : decode cX11_feed 12 = .ok (.lload_n 3, 1) := by decide +kernel
theorem dX11_feed_13 : decode cX11_feed 13 = .ok (.invokevirtual 62, 3) := by decide +kernel
theorem dX11_feed_16 : decode cX11_feed 16 = .ok (.aload_n 0, 1) := by decide +kernel
theorem dX11_feed_17 : decode cX11_feed 17 = .ok (.getfield 12, 3) := by decide +kernel
theorem dX11_feed_20 : decode cX11_feed 20 = .ok (.lload 5, 2) := by decide +kernel
theorem dX11_feed_22 : decode cX11_feed 22 = .ok (.invokevirtual 62, 3) := by decide +kernel
theorem dX11_feed_25 : decode cX11_feed 25 = .ok (.aload_n 0, 1) := by decide +kernel
theorem dX11_feed_26 : decode cX11_feed 26 = .ok (.getfield 12, 3) := by decide +kernel
theorem dX11_feed_29 : decode cX11_feed 29 = .ok (.getfield 66, 3) := by decide +kernel
theorem dX11_feed_32 : decode cX11_feed 32 = .ok (.ireturn, 1) := by decide +kernel
theorem dX11_letter_0 : decode cX11_letter 0 = .ok (.aload_n 0, 1) := by decide +kernel
theorem dX11_letter_1 : decode cX11_letter 1 = .ok (.getfield 35, 3) := by decide +kernel
theorem dX11_letter_4 : decode cX11_letter 4 = .ok (.iload_n 1, 1) := by decide +kernel
theorem dX11_letter_5 : decode cX11_letter 5 = .ok (.iload_n 2, 1) := by decide +kernel
theorem dX11_letter_6 : decode cX11_letter 6 = .ok (.invokevirtual 146, 3) := by decide +kernel
theorem dX11_letter_9 : decode cX11_letter 9 = .ok (.ireturn, 1) := by decide +kernel
theorem dX1_deliver_0 : decode cX1_deliver 0 = .ok (.iload_n 1, 1) := by decide +kernel
theorem dX1_deliver_1 : decode cX1_deliver 1 = .ok (.ifCond .lt 20, 3) := by decide +kernel
theorem dX1_deliver_4 : decode cX1_deliver 4 = .ok (.iload_n 1, 1) := by decide +kernel
theorem dX1_deliver_5 : decode cX1_deliver 5 = .ok (.bipush 8, 2) := by decide +kernel
theorem dX1_deliver_7 : decode cX1_deliver 7 = .ok (.if_icmp .ge 14, 3) := by decide +kernel
theorem dX1_deliver_10 : decode cX1_deliver 10 = .ok (.aload_n 0, 1) := by decide +kernel
theorem dX1_deliver_11 : decode cX1_deliver 11 = .ok (.getfield 24, 3) := by decide +kernel
theorem dX1_deliver_14 : decode cX1_deliver 14 = .ok (.iload_n 1, 1) := by decide +kernel
theorem dX1_deliver_15 : decode cX1_deliver 15 = .ok (.iaload, 1) := by decide +kernel
theorem dX1_deliver_16 : decode cX1_deliver 16 = .ok (.bipush 50, 2) := by decide +kernel
theorem dX1_deliver_18 : decode cX1_deliver 18 = .ok (.if_icmp .lt 6, 3) := by decide +kernel
theorem dX1_deliver_21 : decode cX1_deliver 21 = .ok (.bipush (-2), 2) := by decide +kernel
theorem dX1_deliver_23 : decode cX1_deliver 23 = .ok (.ireturn, 1) := by decide +kernel
theorem dX1_deliver_24 : decode cX1_deliver 24 = .ok (.aload_n 0, 1) := by decide +kernel
theorem dX1_deliver_25 : decode cX1_deliver 25 = .ok (.getfield 29, 3) := by decide +kernel
theorem dX1_deliver_28 : decode cX1_deliver 28 = .ok (.iload_n 1, 1) := by decide +kernel
theorem dX1_deliver_29 : decode cX1_deliver 29 = .ok (.aaload, 1) := by decide +kernel
theorem dX1_deliver_30 : decode cX1_deliver 30 = .ok (.getfield 183, 3) := by decide +kernel
theorem dX1_deliver_33 : decode cX1_deliver 33 = .ok (.astore_n 3, 1) := by decide +kernel
theorem dX1_deliver_34 : decode cX1_deliver 34 = .ok (.aload_n 3, 1) := by decide +kernel
theorem dX1_deliver_35 : decode cX1_deliver 35 = .ok (.ifnonnull 32, 3) := by decide +kernel
theorem dX1_deliver_38 : decode cX1_deliver 38 = .ok (.aload_n 0, 1) := by decide +kernel
theorem dX1_deliver_39 : decode cX1_deliver 39 = .ok (.getfield 21, 3) := by decide +kernel
theorem dX1_deliver_42 : decode cX1_deliver 42 = .ok (.iload_n 1, 1) := by decide +kernel
theorem dX1_deliver_43 : decode cX1_deliver 43 = .ok (.bipush 50, 2) := by decide +kernel
theorem dX1_deliver_45 : decode cX1_deliver 45 = .ok (.imul, 1) := by decide +kernel
theorem dX1_deliver_46 : decode cX1_deliver 46 = .ok (.aload_n 0, 1) := by decide +kernel
theorem dX1_deliver_47 : decode cX1_deliver 47 = .ok (.getfield 24, 3) := by decide +kernel
theorem dX1_deliver_50 : decode cX1_deliver 50 = .ok (.iload_n 1, 1) := by decide +kernel
theorem dX1_deliver_51 : decode cX1_deliver 51 = .ok (.iaload, 1) := by decide +kernel
theorem dX1_deliver_52 : decode cX1_deliver 52 = .ok (.iadd, 1) := by decide +kernel
theorem dX1_deliver_53 : decode cX1_deliver 53 = .ok (.iload_n 2, 1) := by decide +kernel
theorem dX1_deliver_54 : decode cX1_deliver 54 = .ok (.iastore, 1) := by decide +kernel
theorem dX1_deliver_55 : decode cX1_deliver 55 = .ok (.aload_n 0, 1) := by decide +kernel
theorem dX1_deliver_56 : decode cX1_deliver 56 = .ok (.getfield 24, 3) := by decide +kernel
theorem dX1_deliver_59 : decode cX1_deliver 59 = .ok (.iload_n 1, 1) := by decide +kernel
theorem dX1_deliver_60 : decode cX1_deliver 60 = .ok (.dup2, 1) := by decide +kernel
theorem dX1_deliver_61 : decode cX1_deliver 61 = .ok (.iaload, 1) := by decide +kernel
theorem dX1_deliver_62 : decode cX1_deliver 62 = .ok (.iconst 1, 1) := by decide +kernel
theorem dX1_deliver_63 : decode cX1_deliver 63 = .ok (.iadd, 1) := by decide +kernel
theorem dX1_deliver_64 : decode cX1_deliver 64 = .ok (.iastore, 1) := by decide +kernel
theorem dX1_deliver_65 : decode cX1_deliver 65 = .ok (.iconst (-1), 1) := by decide +kernel
theorem dX1_deliver_66 : decode cX1_deliver 66 = .ok (.ireturn, 1) := by decide +kernel
theorem dX1_deliver_67 : decode cX1_deliver 67 = .ok (.aload_n 0, 1) := by decide +kernel
theorem dX1_deliver_68 : decode cX1_deliver 68 = .ok (.aload_n 3, 1) := by decide +kernel
theorem dX1_deliver_69 : decode cX1_deliver 69 = .ok (.iconst 1, 1) := by decide +kernel
theorem dX1_deliver_70 : decode cX1_deliver 70 = .ok (.iload_n 2, 1) := by decide +kernel
theorem dX1_deliver_71 : decode cX1_deliver 71 = .ok (.invokevirtual 186, 3) := by decide +kernel
theorem dX1_deliver_74 : decode cX1_deliver 74 = .ok (.aload_n 0, 1) := by decide +kernel
theorem dX1_deliver_75 : decode cX1_deliver 75 = .ok (.invokevirtual 190, 3) := by decide +kernel
theorem dX1_deliver_78 : decode cX1_deliver 78 = .ok (.aload_n 3, 1) := by decide +kernel
theorem dX1_deliver_79 : decode cX1_deliver 79 = .ok (.getfield 138, 3) := by decide +kernel
theorem dX1_deliver_82 : decode cX1_deliver 82 = .ok (.getfield 125, 3) := by decide +kernel
theorem dX1_deliver_85 : decode cX1_deliver 85 = .ok (.ireturn, 1) := by decide +kernel
theorem dX1_lettersLying_0 : decode cX1_lettersLying 0 = .ok (.iconst 0, 1) := by decide +kernel
theorem dX1_lettersLying_1 : decode cX1_lettersLying 1 = .ok (.istore_n 1, 1) := by decide +kernel
theorem dX1_lettersLying_2 : decode cX1_lettersLying 2 = .ok (.iconst 0, 1) := by decide +kernel
theorem dX1_lettersLying_3 : decode cX1_lettersLying 3 = .ok (.istore_n 2, 1) := by decide +kernel
theorem dX1_lettersLying_4 : decode cX1_lettersLying 4 = .ok (.iload_n 2, 1) := by decide +kernel
theorem dX1_lettersLying_5 : decode cX1_lettersLying 5 = .ok (.bipush 8, 2) := by decide +kernel
theorem dX1_lettersLying_7 : decode cX1_lettersLying 7 = .ok (.if_icmp .ge 18, 3) := by decide +kernel
theorem dX1_lettersLying_10 : decode cX1_lettersLying 10 = .ok (.iload_n 1, 1) := by decide +kernel
theorem dX1_lettersLying_11 : decode cX1_lettersLying 11 = .ok (.aload_n 0, 1) := by decide +kernel
theorem dX1_lettersLying_12 : decode cX1_lettersLying 12 = .ok (.getfield 24, 3) := by decide +kernel
theorem dX1_lettersLying_15 : decode cX1_lettersLying 15 = .ok (.iload_n 2, 1) := by decide +kernel
theorem dX1_lettersLying_16 : decode cX1_lettersLying 16 = .ok (.iaload, 1) := by decide +kernel
theorem dX1_lettersLying_17 : decode cX1_lettersLying 17 = .ok (.iadd, 1) := by decide +kernel
theorem dX1_lettersLying_18 : decode cX1_lettersLying 18 = .ok (.istore_n 1, 1) := by decide +kernel
theorem dX1_lettersLying_19 : decode cX1_lettersLying 19 = .ok (.iinc 2 1, 3) := by decide +kernel
theorem dX1_lettersLying_22 : decode cX1_lettersLying 22 = .ok (.goto (-18), 3) := by decide +kernel
theorem dX1_lettersLying_25 : decode cX1_lettersLying 25 = .ok (.iload_n 1, 1) := by decide +kernel
theorem dX1_lettersLying_26 : decode cX1_lettersLying 26 = .ok (.ireturn, 1) := by decide +kernel
theorem dX5_has_0 : decode cX5_has 0 = .ok (.iload_n 1, 1) := by decide +kernel
theorem dX5_has_1 : decode cX5_has 1 = .ok (.ifCond .lt 15, 3) := by decide +kernel
theorem dX5_has_4 : decode cX5_has 4 = .ok (.iload_n 1, 1) := by decide +kernel
theorem dX5_has_5 : decode cX5_has 5 = .ok (.aload_n 0, 1) := by decide +kernel
theorem dX5_has_6 : decode cX5_has 6 = .ok (.getfield 57, 3) := by decide +kernel
theorem dX5_has_9 : decode cX5_has 9 = .ok (.if_icmp .ge 7, 3) := by decide +kernel
theorem dX5_has_12 : decode cX5_has 12 = .ok (.iconst 1, 1) := by decide +kernel
theorem dX5_has_13 : decode cX5_has 13 = .ok (.goto 4, 3) := by decide +kernel
theorem dX5_has_16 : decode cX5_has 16 = .ok (.iconst 0, 1) := by decide +kernel
theorem dX5_has_17 : decode cX5_has 17 = .ok (.ireturn, 1) := by decide +kernel
theorem dX5_hasState_0 : decode cX5_hasState 0 = .ok (.aload_n 0, 1) := by decide +kernel
theorem dX5_hasState_1 : decode cX5_hasState 1 = .ok (.iload_n 1, 1) := by decide +kernel
theorem dX5_hasState_2 : decode cX5_hasState 2 = .ok (.invokevirtual 63, 3) := by decide +kernel
theorem dX5_hasState_5 : decode cX5_hasState 5 = .ok (.ifCond .eq 21, 3) := by decide +kernel
theorem dX5_hasState_8 : decode cX5_hasState 8 = .ok (.iload_n 2, 1) := by decide +kernel
theorem dX5_hasState_9 : decode cX5_hasState 9 = .ok (.ifCond .lt 17, 3) := by decide +kernel
theorem dX5_hasState_12 : decode cX5_hasState 12 = .ok (.iload_n 2, 1) := by decide +kernel
theorem dX5_hasState_13 : decode cX5_hasState 13 = .ok (.aload_n 0, 1) := by decide +kernel
theorem dX5_hasState_14 : decode cX5_hasState 14 = .ok (.getfield 40, 3) := by decide +kernel
theorem dX5_hasState_17 : decode cX5_hasState 17 = .ok (.iload_n 1, 1) := by decide +kernel
theorem dX5_hasState_18 : decode cX5_hasState 18 = .ok (.iaload, 1) := by decide +kernel
theorem dX5_hasState_19 : decode cX5_hasState 19 = .ok (.if_icmp .gt 7, 3) := by decide +kernel
theorem dX5_hasState_22 : decode cX5_hasState 22 = .ok (.iconst 1, 1) := by decide +kernel
theorem dX5_hasState_23 : decode cX5_hasState 23 = .ok (.goto 4, 3) := by decide +kernel
theorem dX5_hasState_26 : decode cX5_hasState 26 = .ok (.iconst 0, 1) := by decide +kernel
theorem dX5_hasState_27 : decode cX5_hasState 27 = .ok (.ireturn, 1) := by decide +kernel
theorem dX7_breakTo_0 : decode cX7_breakTo 0 = .ok (.aload_n 0, 1) := by decide +kernel
theorem dX7_breakTo_1 : decode cX7_breakTo 1 = .ok (.iload_n 1, 1) := by decide +kernel
theorem dX7_breakTo_2 : decode cX7_breakTo 2 = .ok (.aload_n 0, 1) := by decide +kernel
theorem dX7_breakTo_3 : decode cX7_breakTo 3 = .ok (.getfield 33, 3) := by decide +kernel
theorem dX7_breakTo_6 : decode cX7_breakTo 6 = .ok (.iload_n 2, 1) := by decide +kernel
theorem dX7_breakTo_7 : decode cX7_breakTo 7 = .ok (.iaload, 1) := by decide +kernel
theorem dX7_breakTo_8 : decode cX7_breakTo 8 = .ok (.aload_n 0, 1) := by decide +kernel
theorem dX7_breakTo_9 : decode cX7_breakTo 9 = .ok (.getfield 39, 3) := by decide +kernel
theorem dX7_breakTo_12 : decode cX7_breakTo 12 = .ok (.iload_n 2, 1) := by decide +kernel
theorem dX7_breakTo_13 : decode cX7_breakTo 13 = .ok (.iaload, 1) := by decide +kernel
theorem dX7_breakTo_14 : decode cX7_breakTo 14 = .ok (.invokevirtual 53, 3) := by decide +kernel
theorem dX7_breakTo_17 : decode cX7_breakTo 17 = .ok (.ireturn, 1) := by decide +kernel
theorem dX7_cancelTo_0 : decode cX7_cancelTo 0 = .ok (.aload_n 0, 1) := by decide +kernel
theorem dX7_cancelTo_1 : decode cX7_cancelTo 1 = .ok (.iload_n 1, 1) := by decide +kernel
theorem dX7_cancelTo_2 : decode cX7_cancelTo 2 = .ok (.iconst (-1), 1) := by decide +kernel
theorem dX7_cancelTo_3 : decode cX7_cancelTo 3 = .ok (.iload_n 2, 1) := by decide +kernel
theorem dX7_cancelTo_4 : decode cX7_cancelTo 4 = .ok (.invokevirtual 53, 3) := by decide +kernel
theorem dX7_cancelTo_7 : decode cX7_cancelTo 7 = .ok (.ireturn, 1) := by decide +kernel
theorem dX7_continueTo_0 : decode cX7_continueTo 0 = .ok (.aload_n 0, 1) := by decide +kernel
theorem dX7_continueTo_1 : decode cX7_continueTo 1 = .ok (.iload_n 1, 1) := by decide +kernel
theorem dX7_continueTo_2 : decode cX7_continueTo 2 = .ok (.aload_n 0, 1) := by decide +kernel
theorem dX7_continueTo_3 : decode cX7_continueTo 3 = .ok (.getfield 33, 3) := by decide +kernel
theorem dX7_continueTo_6 : decode cX7_continueTo 6 = .ok (.iload_n 2, 1) := by decide +kernel
theorem dX7_continueTo_7 : decode cX7_continueTo 7 = .ok (.iaload, 1) := by decide +kernel
theorem dX7_continueTo_8 : decode cX7_continueTo 8 = .ok (.aload_n 0, 1) := by decide +kernel
theorem dX7_continueTo_9 : decode cX7_continueTo 9 = .ok (.getfield 36, 3) := by decide +kernel
theorem dX7_continueTo_12 : decode cX7_continueTo 12 = .ok (.iload_n 2, 1) := by decide +kernel
theorem dX7_continueTo_13 : decode cX7_continueTo 13 = .ok (.iaload, 1) := by decide +kernel
theorem dX7_continueTo_14 : decode cX7_continueTo 14 = .ok (.invokevirtual 53, 3) := by decide +kernel
theorem dX7_continueTo_17 : decode cX7_continueTo 17 = .ok (.ireturn, 1) := by decide +kernel
theorem dX7_is_0 : decode cX7_is 0 = .ok (.aload_n 0, 1) := by decide +kernel
theorem dX7_is_1 : decode cX7_is 1 = .ok (.getfield 30, 3) := by decide +kernel
theorem dX7_is_4 : decode cX7_is 4 = .ok (.iload_n 1, 1) := by decide +kernel
theorem dX7_is_5 : decode cX7_is 5 = .ok (.iaload, 1) := by decide +kernel
theorem dX7_is_6 : decode cX7_is 6 = .ok (.iload_n 2, 1) := by decide +kernel
theorem dX7_is_7 : decode cX7_is 7 = .ok (.iand, 1) := by decide +kernel
theorem dX7_is_8 : decode cX7_is 8 = .ok (.ifCond .eq 7, 3) := by decide +kernel
theorem dX7_is_11 : decode cX7_is 11 = .ok (.iconst 1, 1) := by decide +kernel
theorem dX7_is_12 : decode cX7_is 12 = .ok (.goto 4, 3) := by decide +kernel
theorem dX7_is_15 : decode cX7_is 15 = .ok (.iconst 0, 1) := by decide +kernel
theorem dX7_is_16 : decode cX7_is 16 = .ok (.ireturn, 1) := by decide +kernel
theorem dX7_leaveTo_0 : decode cX7_leaveTo 0 = .ok (.iload_n 1, 1) := by decide +kernel
theorem dX7_leaveTo_1 : decode cX7_leaveTo 1 = .ok (.istore 4, 2) := by decide +kernel
theorem dX7_leaveTo_3 : decode cX7_leaveTo 3 = .ok (.iconst 0, 1) := by decide +kernel
theorem dX7_leaveTo_4 : decode cX7_leaveTo 4 = .ok (.istore 5, 2) := by decide +kernel
theorem dX7_leaveTo_6 : decode cX7_leaveTo 6 = .ok (.iload 5, 2) := by decide +kernel
theorem dX7_leaveTo_8 : decode cX7_leaveTo 8 = .ok (.sipush 460, 3) := by decide +kernel
theorem dX7_leaveTo_11 : decode cX7_leaveTo 11 = .ok (.if_icmp .ge 61, 3) := by decide +kernel
theorem dX7_leaveTo_14 : decode cX7_leaveTo 14 = .ok (.iload 4, 2) := by decide +kernel
theorem dX7_leaveTo_16 : decode cX7_leaveTo 16 = .ok (.ifCond .lt 56, 3) := by decide +kernel
theorem dX7_leaveTo_19 : decode cX7_leaveTo 19 = .ok (.iload 4, 2) := by decide +kernel
theorem dX7_leaveTo_21 : decode cX7_leaveTo 21 = .ok (.iload_n 2, 1) := by decide +kernel
theorem dX7_leaveTo_22 : decode cX7_leaveTo 22 = .ok (.if_icmp .eq 50, 3) := by decide +kernel
theorem dX7_leaveTo_25 : decode cX7_leaveTo 25 = .ok (.iload 4, 2) := by decide +kernel
theorem dX7_leaveTo_27 : decode cX7_leaveTo 27 = .ok (.iconst 3, 1) := by decide +kernel
theorem dX7_leaveTo_28 : decode cX7_leaveTo 28 = .ok (.idiv, 1) := by decide +kernel
theorem dX7_leaveTo_29 : decode cX7_leaveTo 29 = .ok (.istore 6, 2) := by decide +kernel
theorem dX7_leaveTo_31 : decode cX7_leaveTo 31 = .ok (.iload 4, 2) := by decide +kernel
theorem dX7_leaveTo_33 : decode cX7_leaveTo 33 = .ok (.iconst 3, 1) := by decide +kernel
theorem dX7_leaveTo_34 : decode cX7_leaveTo 34 = .ok (.irem, 1) := by decide +kernel
theorem dX7_leaveTo_35 : decode cX7_leaveTo 35 = .ok (.iconst 2, 1) := by decide +kernel
theorem dX7_leaveTo_36 : decode cX7_leaveTo 36 = .ok (.if_icmp .eq 21, 3) := by decide +kernel
theorem dX7_leaveTo_39 : decode cX7_leaveTo 39 = .ok (.aload_n 0, 1) := by decide +kernel
theorem dX7_leaveTo_40 : decode cX7_leaveTo 40 = .ok (.iload 6, 2) := by decide +kernel
theorem dX7_leaveTo_42 : decode cX7_leaveTo 42 = .ok (.iconst 2, 1) := by decide +kernel
theorem dX7_leaveTo_43 : decode cX7_leaveTo 43 = .ok (.invokevirtual 49, 3) := by decide +kernel
theorem dX7_leaveTo_46 : decode cX7_leaveTo 46 = .ok (.ifCond .eq 11, 3) := by decide +kernel
theorem dX7_leaveTo_49 : decode cX7_leaveTo 49 = .ok (.aload_n 0, 1) := by decide +kernel
theorem dX7_leaveTo_50 : decode cX7_leaveTo 50 = .ok (.getfield 24, 3) := by decide +kernel
theorem dX7_leaveTo_53 : decode cX7_leaveTo 53 = .ok (.iload 6, 2) := by decide +kernel
theorem dX7_leaveTo_55 : decode cX7_leaveTo 55 = .ok (.iaload, 1) := by decide +kernel
theorem dX7_leaveTo_56 : decode cX7_leaveTo 56 = .ok (.ireturn, 1) := by decide +kernel
theorem dX7_leaveTo_57 : decode cX7_leaveTo 57 = .ok (.aload_n 0, 1) := by decide +kernel
theorem dX7_leaveTo_58 : decode cX7_leaveTo 58 = .ok (.getfield 9, 3) := by decide +kernel
theorem dX7_leaveTo_61 : decode cX7_leaveTo 61 = .ok (.iload 6, 2) := by decide +kernel
theorem dX7_leaveTo_63 : decode cX7_leaveTo 63 = .ok (.iaload, 1) := by decide +kernel
theorem dX7_leaveTo_64 : decode cX7_leaveTo 64 = .ok (.istore 4, 2) := by decide +kernel
theorem dX7_leaveTo_66 : decode cX7_leaveTo 66 = .ok (.iinc 5 1, 3) := by decide +kernel
theorem dX7_leaveTo_69 : decode cX7_leaveTo 69 = .ok (.goto (-63), 3) := by decide +kernel
theorem dX7_leaveTo_72 : decode cX7_leaveTo 72 = .ok (.iload_n 3, 1) := by decide +kernel
theorem dX7_leaveTo_73 : decode cX7_leaveTo 73 = .ok (.ireturn, 1) := by decide +kernel
def wp_X11_cancel (t0 : Nat) (a0 : Int32) (S : kS) (K : kS → Int32 → Prop) : Prop := hasO S t0 11 ∧ ∀ z1 : Option Nat, z1 = S.2.1 72 t0 → ∃ q2 : Nat, z1 = some q2 ∧ hasO S q2 1 ∧ wp_X1_callOff q2 a0 S (fun (S3 : kS) (r3 : Int32) => (r3 = 0 ∨ r3 = 1) ∧ K S3 r3)
theorem cw_X11_157 {R : Room} {s : State} {args : Array Value} {fr lo : Nat} (hts : ∀ w ∈ tb, w.before args s = true) (h1 : fr + 1 ≤ R.frames) (h2 : 8 + (3 + 11) + lo ≤ R.locals) : CallW R s args RX11 RX1 157 yX1_callOff cX1_callOff 3 (some .boolean) (.code yX1_callOff cX1_callOff 3 (some .boolean) :: tb) (mRm fr lo) 0 0 1 := cwV 1 hts (gd_V wd_1236 wd_1237 wd_1238 wd_9 wd_1239) rfl rfl rfl (by decide +kernel) ⟨h1, h2⟩
set_option maxHeartbeats 4000000 in
set_option maxRecDepth 100000 in
theorem kt_X11_cancel (l : Launch) (S : kS) (t0 : Nat) (a0 : Int32) (K : kS → Int32 → Prop) (h : wp_X11_cancel t0 a0 S K) : kMi l yX11_cancel cX11_cancel 2 (some .boolean) 6 132 [.ref t0, .int a0] S K := by
  refine kv_ofz (own := RX11) (by decide) rfl (Nat.le_of_ble_eq_true rfl) ?_
  intro E p e R s m args below meth c A ls Q hRf hRl hX hC hl hret
  have hx := hX.1.1
  have hb := hX.1.2.1
  have hown := hX.1.2.2.2.1
  have hts := hX.1.2.2.2.2
  have hl : lv_has ls 2 [(0, .ref t0), (1, .int a0)] := hl
  unfold wp_X11_cancel at h
  refine lv_aload_n hx hb dX11_cancel_0 rfl (lv_at hl 0 rfl) ?_
  refine cq_getr (ci := 11) (k := 3) (f := 72) hX hC rfl in_X11 (by decide) wd_481 (fun _ h9 => h9) (fun _ _ => rfl) dX11_cancel_1 h (fun z1 h => ?_)
  refine lv_iload_n hx hb dX11_cancel_4 rfl (lv_at hl 1 rfl) ?_
  obtain ⟨q2, e9, hh⟩ := h
  subst e9
  have h := hh
  clear hh
  refine kv_calli [.int a0] (rest := []) (ci := 1) rfl hX hC h.1 (kt_X1_callOff l S q2 a0 _ h.2 E _) (cw_X11_157 hts (by omega) (by omega)) rfl hl.1 (Nat.le_of_ble_eq_true rfl) ⟨Nat.zero_le _, Nat.zero_le _⟩ dX11_cancel_5 (fun r3 S3 H locs hC h => ?_)
  exact hret _ _ _ _ _ _ hC h.1 h.2 dX11_cancel_8
def wp_X1_lettersLying_4 (K : kS → Int32 → Prop) (k4 : Nat × Int32 × Int32 × kS → Prop) (x0 : Nat) (x1 : Int32) (x2 : Int32) (S : kS) : Prop := ((8 ≤ x2 → K S x1) ∧ (¬ 8 ≤ x2 → hasO S x0 1 ∧ ∀ z2 : Option Nat, z2 = S.2.1 6 x0 → ∃ q3 : Nat, z2 = some q3 ∧ hasA S q3 8 0 ∧ inR x2 8 ∧ ∀ z4 : Int32, z4 = S.2.2.1 q3 (ix x2) → ∀ z5 : Int32, z5 = x1 + z4 → ∀ z6 : Int32, z6 = x2 + 1 → k4 (x0, z5, z6, S)))
def ls_X1_lettersLying_4 (K : kS → Int32 → Prop) (k4 : Nat × Int32 × Int32 × kS → Prop) (u : Nat × Int32 × Int32 × kS) : Prop := wp_X1_lettersLying_4 K k4 u.1 u.2.1 u.2.2.1 u.2.2.2
def wp_X1_lettersLying (t0 : Nat) (S : kS) (K : kS → Int32 → Prop) : Prop := (∃ n9, it (ls_X1_lettersLying_4 K) n9 (t0, 0, 0, S))
set_option maxHeartbeats 4000000 in
set_option maxRecDepth 100000 in
theorem kt_X1_lettersLying (l : Launch) (S : kS) (t0 : Nat) (K : kS → Int32 → Prop) (h : wp_X1_lettersLying t0 S K) : kMi l yX1_lettersLying cX1_lettersLying 3 (some .int) 0 0 [.ref t0] S K := by
  refine kv_ofi (own := RX1) (by decide) rfl (Nat.le_of_ble_eq_true rfl) ?_
  intro E p e R s m args below meth c A ls Q hRf hRl hX hC hl hret
  have hx := hX.1.1
  have hb := hX.1.2.1
  have hown := hX.1.2.2.2.1
  have hts := hX.1.2.2.2.2
  have cut4 : ∀ (n4 : Nat) (x0 : Nat) (x1 : Int32) (x2 : Int32) (S : kS) (H : Heap) (locs : List Loc) (ls : Array Slot), it (ls_X1_lettersLying_4 K) n4 (x0, x1, x2, S) → cM E A s.heap S H locs → lv_has ls 3 [(0, .ref x0), (1, .int x1), (2, .int x2)] → W p l e R s m args below meth c H locs 0 0 Q (F0 m 4 ls []) := by
    intro n4
    induction n4 with
    | zero => intro x0 x1 x2 S H locs ls h hC hl; exact h.elim
    | succ n4 ih4 =>
      intro x0 x1 x2 S H locs ls h hC hl
      have h : wp_X1_lettersLying_4 K (it (ls_X1_lettersLying_4 K) n4) x0 x1 x2 S := h
      unfold wp_X1_lettersLying_4 at h
      refine lv_iload_n hx hb dX1_lettersLying_4 rfl (lv_at hl 2 rfl) ?_
      refine lv_bipush (v := 8) hx hb dX1_lettersLying_5 (by decide) ?_
      refine lv_icmp_ge (tgt := 25) hx hb dX1_lettersLying_7 (by decide) (fun c1 => ?_) (fun c1 => ?_)
      · have h := h.1 c1
        refine lv_iload_n hx hb dX1_lettersLying_25 rfl (lv_at hl 1 rfl) ?_
        exact hret _ _ _ _ _ _ hC h dX1_lettersLying_26
      · have h := h.2 c1
        refine lv_iload_n hx hb dX1_lettersLying_10 rfl (lv_at hl 1 rfl) ?_
        refine lv_aload_n hx hb dX1_lettersLying_11 rfl (lv_at hl 0 rfl) ?_
        refine cq_getr (ci := 1) (k := 8) (f := 6) hX hC rfl in_X1 (by decide) wd_250 (fun _ h9 => h9) (fun _ _ => rfl) dX1_lettersLying_12 h (fun z2 h => ?_)
        refine lv_iload_n hx hb dX1_lettersLying_15 rfl (lv_at hl 2 rfl) ?_
        obtain ⟨q3, e9, hh⟩ := h
        subst e9
        have h := hh
        clear hh
        refine cq_ild hX hC dX1_lettersLying_16 h (fun z4 h => ?_)
        refine lq_iadd hx hb dX1_lettersLying_17 h (fun z5 h => ?_)
        refine lv_istore_n (lv' := [(1, .int z5), (0, .ref x0), (2, .int x2)]) hx hb dX1_lettersLying_18 rfl hl (by decide) rfl (fun ls hl => ?_)
        obtain ⟨z6, ez6⟩ : ∃ y : Int32, y = x2 + 1 := ⟨_, rfl⟩
        have h := h z6 ez6
        refine lv_iinc (v := z6) (lv' := [(2, .int z6), (1, .int z5), (0, .ref x0)]) hx hb dX1_lettersLying_19 hl (k := 2) rfl (by rw [ez6]; rfl) (by decide) rfl (fun ls hl => ?_)
        refine lv_goto (tgt := 4) hx hb dX1_lettersLying_22 (by decide) ?_
        exact ih4 x0 z5 z6 S _ _ _ h hC (lv_sub hl [2, 1, 0] rfl)
  have hl : lv_has ls 3 [(0, .ref t0)] := hl
  unfold wp_X1_lettersLying at h
  refine lv_iconst (v := 0) hx hb dX1_lettersLying_0 (by decide) ?_
  refine lv_istore_n (lv' := [(1, .int 0), (0, .ref t0)]) hx hb dX1_lettersLying_1 rfl hl (by decide) rfl (fun ls hl => ?_)
  refine lv_iconst (v := 0) hx hb dX1_lettersLying_2 (by decide) ?_
  refine lv_istore_n (lv' := [(2, .int 0), (1, .int 0), (0, .ref t0)]) hx hb dX1_lettersLying_3 rfl hl (by decide) rfl (fun ls hl => ?_)
  obtain ⟨n9, h⟩ := h
  exact cut4 n9 t0 0 0 S _ _ _ h hC (lv_sub hl [2, 1, 0] rfl)
def wp_X11_count (t0 : Nat) (a0 : Int32) (S : kS) (K : kS → Int32 → Prop) : Prop := ((a0 = 0 → hasO S t0 11 ∧ ∀ z2 : Option Nat, z2 = S.2.1 74 t0 → ∃ q3 : Nat, z2 = some q3 ∧ hasO S q3 5 ∧ ∀ z4 : Int32, z4 = S.1 18 q3 → K S z4) ∧ (¬ a0 = 0 → ((a0 = 1 → hasO S t0 11 ∧ ∀ z6 : Option Nat, z6 = S.2.1 72 t0 → ∃ q7 : Nat, z6 = some q7 ∧ hasO S q7 1 ∧ ∀ z8 : Int32, z8 = S.1 1 q7 → K S z8) ∧ (¬ a0 = 1 → ((a0 = 2 → hasO S t0 11 ∧ ∀ z10 : Option Nat, z10 = S.2.1 72 t0 → ∃ q11 : Nat, z10 = some q11 ∧ hasO S q11 1 ∧ ∀ z12 : Int32, z12 = S.1 2 q11 → K S z12) ∧ (¬ a0 = 2 → ((a0 = 3 → hasO S t0 11 ∧ ∀ z14 : Option Nat, z14 = S.2.1 72 t0 → ∃ q15 : Nat, z14 = some q15 ∧ hasO S q15 1 ∧ ∀ z16 : Int32, z16 = S.1 3 q15 → K S z16) ∧ (¬ a0 = 3 → ((a0 = 4 → hasO S t0 11 ∧ ∀ z18 : Option Nat, z18 = S.2.1 72 t0 → ∃ q19 : Nat, z18 = some q19 ∧ hasO S q19 1 ∧ ∀ z20 : Int32, z20 = S.1 1 q19 → hasO S t0 11 ∧ ∀ z21 : Option Nat, z21 = S.2.1 72 t0 → ∃ q22 : Nat, z21 = some q22 ∧ hasO S q22 1 ∧ ∀ z23 : Int32, z23 = S.1 2 q22 → ∀ z24 : Int32, z24 = z20 - z23 → hasO S t0 11 ∧ ∀ z25 : Option Nat, z25 = S.2.1 72 t0 → ∃ q26 : Nat, z25 = some q26 ∧ hasO S q26 1 ∧ ∀ z27 : Int32, z27 = S.1 3 q26 → ∀ z28 : Int32, z28 = z24 - z27 → K S z28) ∧ (¬ a0 = 4 → ((a0 = 5 → hasO S t0 11 ∧ ∀ z30 : Option Nat, z30 = S.2.1 73 t0 → ∃ q31 : Nat, z30 = some q31 ∧ hasO S q31 6 ∧ ∀ z32 : Option Nat, z32 = S.2.1 40 q31 → ∃ q33 : Nat, z32 = some q33 ∧ hasO S q33 0 ∧ ∀ z34 : Int32, z34 = S.1 0 q33 → K S z34) ∧ (¬ a0 = 5 → ((a0 = 6 → hasO S t0 11 ∧ ∀ z36 : Option Nat, z36 = S.2.1 72 t0 → ∃ q37 : Nat, z36 = some q37 ∧ hasO S q37 1 ∧ ∀ z38 : Option Nat, z38 = S.2.1 9 q37 → ∃ q39 : Nat, z38 = some q39 ∧ hasO S q39 0 ∧ ∀ z40 : Int32, z40 = S.1 0 q39 → K S z40) ∧ (¬ a0 = 6 → ((a0 = 7 → hasO S t0 11 ∧ ∀ z42 : Option Nat, z42 = S.2.1 72 t0 → ∃ q43 : Nat, z42 = some q43 ∧ hasO S q43 1 ∧ ∀ z44 : Int32, z44 = S.1 4 q43 → K S z44) ∧ (¬ a0 = 7 → ((a0 = 8 → hasO S t0 11 ∧ ∀ z46 : Option Nat, z46 = S.2.1 73 t0 → ∃ q47 : Nat, z46 = some q47 ∧ hasO S q47 6 ∧ ∀ z48 : Int32, z48 = S.1 19 q47 → K S z48) ∧ (¬ a0 = 8 → ((a0 = 9 → hasO S t0 11 ∧ ∀ z50 : Option Nat, z50 = S.2.1 73 t0 → ∃ q51 : Nat, z50 = some q51 ∧ hasO S q51 6 ∧ ∀ z52 : Int32, z52 = S.1 20 q51 → K S z52) ∧ (¬ a0 = 9 → ((a0 = 10 → hasO S t0 11 ∧ ∀ z54 : Option Nat, z54 = S.2.1 72 t0 → ∃ q55 : Nat, z54 = some q55 ∧ hasO S q55 1 ∧ wp_X1_lettersLying q55 S (fun (S56 : kS) (r56 : Int32) => K S56 r56)) ∧ (¬ a0 = 10 → ((a0 = 11 → hasO S t0 11 ∧ ∀ z58 : Option Nat, z58 = S.2.1 69 t0 → ∃ q59 : Nat, z58 = some q59 ∧ hasO S q59 10 ∧ ∀ z60 : Int32, z60 = S.1 41 q59 → K S z60) ∧ (¬ a0 = 11 → K S (-1)))))))))))))))))))))))))
theorem cw_X11_222 {R : Room} {s : State} {args : Array Value} {fr lo : Nat} (hts : ∀ w ∈ tb, w.before args s = true) (h1 : fr + 1 ≤ R.frames) (h2 : 8 + (3 + 11) + lo ≤ R.locals) : CallW R s args RX11 RX1 222 yX1_lettersLying cX1_lettersLying 3 (some .int) (.code yX1_lettersLying cX1_lettersLying 3 (some .int) :: tb) (mRm fr lo) 0 0 0 := cwV 0 hts (gd_V wd_1276 wd_1277 wd_1278 wd_9 wd_1279) rfl rfl rfl (by decide +kernel) ⟨h1, h2⟩
set_option maxHeartbeats 4000000 in
set_option maxRecDepth 100000 in
theorem kt_X11_count (l : Launch) (S : kS) (t0 : Nat) (a0 : Int32) (K : kS → Int32 → Prop) (h : wp_X11_count t0 a0 S K) : kMi l yX11_count cX11_count 2 (some .int) 1 22 [.ref t0, .int a0] S K := by
  refine kv_ofi (own := RX11) (by decide) rfl (Nat.le_of_ble_eq_true rfl) ?_
  intro E p e R s m args below meth c A ls Q hRf hRl hX hC hl hret
  have hx := hX.1.1
  have hb := hX.1.2.1
  have hown := hX.1.2.2.2.1
  have hts := hX.1.2.2.2.2
  have hl : lv_has ls 2 [(0, .ref t0), (1, .int a0)] := hl
  unfold wp_X11_count at h
  refine lv_iload_n hx hb dX11_count_0 rfl (lv_at hl 1 rfl) ?_
  rcases Decidable.em (a0 = 0) with c1 | c1
  · have h := h.1 c1
    refine lv_tableIn (tgt := 64) hx hb dX11_count_1 (by rw [c1]; decide) (by rw [c1]; decide) (by rw [c1]; rfl) (by decide) ?_
    refine lv_aload_n hx hb dX11_count_64 rfl (lv_at hl 0 rfl) ?_
    refine cq_getr (ci := 11) (k := 5) (f := 74) hX hC rfl in_X11 (by decide) wd_483 (fun _ h9 => h9) (fun _ _ => rfl) dX11_count_65 h (fun z2 h => ?_)
    obtain ⟨q3, e9, hh⟩ := h
    subst e9
    have h := hh
    clear hh
    refine cq_geti (ci := 5) (k := 5) (f := 18) hX hC rfl in_X5 (by decide) wd_415 (fun _ h9 => h9) (fun _ _ => rfl) dX11_count_68 h (fun z4 h => ?_)
    exact hret _ _ _ _ _ _ hC h dX11_count_71
  have h := h.2 c1
  rcases Decidable.em (a0 = 1) with c5 | c5
  · have h := h.1 c5
    refine lv_tableIn (tgt := 72) hx hb dX11_count_1 (by rw [c5]; decide) (by rw [c5]; decide) (by rw [c5]; rfl) (by decide) ?_
    refine lv_aload_n hx hb dX11_count_72 rfl (lv_at hl 0 rfl) ?_
    refine cq_getr (ci := 11) (k := 3) (f := 72) hX hC rfl in_X11 (by decide) wd_481 (fun _ h9 => h9) (fun _ _ => rfl) dX11_count_73 h (fun z6 h => ?_)
    obtain ⟨q7, e9, hh⟩ := h
    subst e9
    have h := hh
    clear hh
    refine cq_geti (ci := 1) (k := 2) (f := 1) hX hC rfl in_X1 (by decide) wd_238 (fun _ h9 => h9) (fun _ _ => rfl) dX11_count_76 h (fun z8 h => ?_)
    exact hret _ _ _ _ _ _ hC h dX11_count_79
  have h := h.2 c5
  rcases Decidable.em (a0 = 2) with c9 | c9
  · have h := h.1 c9
    refine lv_tableIn (tgt := 80) hx hb dX11_count_1 (by rw [c9]; decide) (by rw [c9]; decide) (by rw [c9]; rfl) (by decide) ?_
    refine lv_aload_n hx hb dX11_count_80 rfl (lv_at hl 0 rfl) ?_
    refine cq_getr (ci := 11) (k := 3) (f := 72) hX hC rfl in_X11 (by decide) wd_481 (fun _ h9 => h9) (fun _ _ => rfl) dX11_count_81 h (fun z10 h => ?_)
    obtain ⟨q11, e9, hh⟩ := h
    subst e9
    have h := hh
    clear hh
    refine cq_geti (ci := 1) (k := 3) (f := 2) hX hC rfl in_X1 (by decide) wd_240 (fun _ h9 => h9) (fun _ _ => rfl) dX11_count_84 h (fun z12 h => ?_)
    exact hret _ _ _ _ _ _ hC h dX11_count_87
  have h := h.2 c9
  rcases Decidable.em (a0 = 3) with c13 | c13
  · have h := h.1 c13
    refine lv_tableIn (tgt := 88) hx hb dX11_count_1 (by rw [c13]; decide) (by rw [c13]; decide) (by rw [c13]; rfl) (by decide) ?_
    refine lv_aload_n hx hb dX11_count_88 rfl (lv_at hl 0 rfl) ?_
    refine cq_getr (ci := 11) (k := 3) (f := 72) hX hC rfl in_X11 (by decide) wd_481 (fun _ h9 => h9) (fun _ _ => rfl) dX11_count_89 h (fun z14 h => ?_)
    obtain ⟨q15, e9, hh⟩ := h
    subst e9
    have h := hh
    clear hh
    refine cq_geti (ci := 1) (k := 5) (f := 3) hX hC rfl in_X1 (by decide) wd_244 (fun _ h9 => h9) (fun _ _ => rfl) dX11_count_92 h (fun z16 h => ?_)
    exact hret _ _ _ _ _ _ hC h dX11_count_95
  have h := h.2 c13
  rcases Decidable.em (a0 = 4) with c17 | c17
  · have h := h.1 c17
    refine lv_tableIn (tgt := 96) hx hb dX11_count_1 (by rw [c17]; decide) (by rw [c17]; decide) (by rw [c17]; rfl) (by decide) ?_
    refine lv_aload_n hx hb dX11_count_96 rfl (lv_at hl 0 rfl) ?_
    refine cq_getr (ci := 11) (k := 3) (f := 72) hX hC rfl in_X11 (by decide) wd_481 (fun _ h9 => h9) (fun _ _ => rfl) dX11_count_97 h (fun z18 h => ?_)
    obtain ⟨q19, e9, hh⟩ := h
    subst e9
    have h := hh
    clear hh
    refine cq_geti (ci := 1) (k := 2) (f := 1) hX hC rfl in_X1 (by decide) wd_238 (fun _ h9 => h9) (fun _ _ => rfl) dX11_count_100 h (fun z20 h => ?_)
    refine lv_aload_n hx hb dX11_count_103 rfl (lv_at hl 0 rfl) ?_
    refine cq_getr (ci := 11) (k := 3) (f := 72) hX hC rfl in_X11 (by decide) wd_481 (fun _ h9 => h9) (fun _ _ => rfl) dX11_count_104 h (fun z21 h => ?_)
    obtain ⟨q22, e9, hh⟩ := h
    subst e9
    have h := hh
    clear hh
    refine cq_geti (ci := 1) (k := 3) (f := 2) hX hC rfl in_X1 (by decide) wd_240 (fun _ h9 => h9) (fun _ _ => rfl) dX11_count_107 h (fun z23 h => ?_)
    refine lq_isub hx hb dX11_count_110 h (fun z24 h => ?_)
    refine lv_aload_n hx hb dX11_count_111 rfl (lv_at hl 0 rfl) ?_
    refine cq_getr (ci := 11) (k := 3) (f := 72) hX hC rfl in_X11 (by decide) wd_481 (fun _ h9 => h9) (fun _ _ => rfl) dX11_count_112 h (fun z25 h => ?_)
    obtain ⟨q26, e9, hh⟩ := h
    subst e9
    have h := hh
    clear hh
    refine cq_geti (ci := 1) (k := 5) (f := 3) hX hC rfl in_X1 (by decide) wd_244 (fun _ h9 => h9) (fun _ _ => rfl) dX11_count_115 h (fun z27 h => ?_)
    refine lq_isub hx hb dX11_count_118 h (fun z28 h => ?_)
    exact hret _ _ _ _ _ _ hC h dX11_count_119
  have h := h.2 c17
  rcases Decidable.em (a0 = 5) with c29 | c29
  · have h := h.1 c29
    refine lv_tableIn (tgt := 120) hx hb dX11_count_1 (by rw [c29]; decide) (by rw [c29]; decide) (by rw [c29]; rfl) (by decide) ?_
    refine lv_aload_n hx hb dX11_count_120 rfl (lv_at hl 0 rfl) ?_
    refine cq_getr (ci := 11) (k := 4) (f := 73) hX hC rfl in_X11 (by decide) wd_482 (fun _ h9 => h9) (fun _ _ => rfl) dX11_count_121 h (fun z30 h => ?_)
    obtain ⟨q31, e9, hh⟩ := h
    subst e9
    have h := hh
    clear hh
    refine cq_getr (ci := 6) (k := 2) (f := 40) hX hC rfl in_X6 (by decide) wd_306 (fun _ h9 => h9) (fun _ _ => rfl) dX11_count_124 h (fun z32 h => ?_)
    obtain ⟨q33, e9, hh⟩ := h
    subst e9
    have h := hh
    clear hh
    refine cq_geti (ci := 0) (k := 0) (f := 0) hX hC rfl in_X0 (by decide) wd_223 (fun _ h9 => h9) (fun _ _ => rfl) dX11_count_127 h (fun z34 h => ?_)
    exact hret _ _ _ _ _ _ hC h dX11_count_130
  have h := h.2 c29
  rcases Decidable.em (a0 = 6) with c35 | c35
  · have h := h.1 c35
    refine lv_tableIn (tgt := 131) hx hb dX11_count_1 (by rw [c35]; decide) (by rw [c35]; decide) (by rw [c35]; rfl) (by decide) ?_
    refine lv_aload_n hx hb dX11_count_131 rfl (lv_at hl 0 rfl) ?_
    refine cq_getr (ci := 11) (k := 3) (f := 72) hX hC rfl in_X11 (by decide) wd_481 (fun _ h9 => h9) (fun _ _ => rfl) dX11_count_132 h (fun z36 h => ?_)
    obtain ⟨q37, e9, hh⟩ := h
    subst e9
    have h := hh
    clear hh
    refine cq_getr (ci := 1) (k := 11) (f := 9) hX hC rfl in_X1 (by decide) wd_258 (fun _ h9 => h9) (fun _ _ => rfl) dX11_count_135 h (fun z38 h => ?_)
    obtain ⟨q39, e9, hh⟩ := h
    subst e9
    have h := hh
    clear hh
    refine cq_geti (ci := 0) (k := 0) (f := 0) hX hC rfl in_X0 (by decide) wd_223 (fun _ h9 => h9) (fun _ _ => rfl) dX11_count_138 h (fun z40 h => ?_)
    exact hret _ _ _ _ _ _ hC h dX11_count_141
  have h := h.2 c35
  rcases Decidable.em (a0 = 7) with c41 | c41
  · have h := h.1 c41
    refine lv_tableIn (tgt := 142) hx hb dX11_count_1 (by rw [c41]; decide) (by rw [c41]; decide) (by rw [c41]; rfl) (by decide) ?_
    refine lv_aload_n hx hb dX11_count_142 rfl (lv_at hl 0 rfl) ?_
    refine cq_getr (ci := 11) (k := 3) (f := 72) hX hC rfl in_X11 (by decide) wd_481 (fun _ h9 => h9) (fun _ _ => rfl) dX11_count_143 h (fun z42 h => ?_)
    obtain ⟨q43, e9, hh⟩ := h
    subst e9
    have h := hh
    clear hh
    refine cq_geti (ci := 1) (k := 6) (f := 4) hX hC rfl in_X1 (by decide) wd_247 (fun _ h9 => h9) (fun _ _ => rfl) dX11_count_146 h (fun z44 h => ?_)
    exact hret _ _ _ _ _ _ hC h dX11_count_149
  have h := h.2 c41
  rcases Decidable.em (a0 = 8) with c45 | c45
  · have h := h.1 c45
    refine lv_tableIn (tgt := 150) hx hb dX11_count_1 (by rw [c45]; decide) (by rw [c45]; decide) (by rw [c45]; rfl) (by decide) ?_
    refine lv_aload_n hx hb dX11_count_150 rfl (lv_at hl 0 rfl) ?_
    refine cq_getr (ci := 11) (k := 4) (f := 73) hX hC rfl in_X11 (by decide) wd_482 (fun _ h9 => h9) (fun _ _ => rfl) dX11_count_151 h (fun z46 h => ?_)
    obtain ⟨q47, e9, hh⟩ := h
    subst e9
    have h := hh
    clear hh
    refine cq_geti (ci := 6) (k := 0) (f := 19) hX hC rfl in_X6 (by decide) wd_302 (fun _ h9 => h9) (fun _ _ => rfl) dX11_count_154 h (fun z48 h => ?_)
    exact hret _ _ _ _ _ _ hC h dX11_count_157
  have h := h.2 c45
  rcases Decidable.em (a0 = 9) with c49 | c49
  · have h := h.1 c49
    refine lv_tableIn (tgt := 158) hx hb dX11_count_1 (by rw [c49]; decide) (by rw [c49]; decide) (by rw [c49]; rfl) (by decide) ?_
    refine lv_aload_n hx hb dX11_count_158 rfl (lv_at hl 0 rfl) ?_
    refine cq_getr (ci := 11) (k := 4) (f := 73) hX hC rfl in_X11 (by decide) wd_482 (fun _ h9 => h9) (fun _ _ => rfl) dX11_count_159 h (fun z50 h => ?_)
    obtain ⟨q51, e9, hh⟩ := h
    subst e9
    have h := hh
    clear hh
    refine cq_geti (ci := 6) (k := 1) (f := 20) hX hC rfl in_X6 (by decide) wd_304 (fun _ h9 => h9) (fun _ _ => rfl) dX11_count_162 h (fun z52 h => ?_)
    exact hret _ _ _ _ _ _ hC h dX11_count_165
  have h := h.2 c49
  rcases Decidable.em (a0 = 10) with c53 | c53
  · have h := h.1 c53
    refine lv_tableIn (tgt := 166) hx hb dX11_count_1 (by rw [c53]; decide) (by rw [c53]; decide) (by rw [c53]; rfl) (by decide) ?_
    refine lv_aload_n hx hb dX11_count_166 rfl (lv_at hl 0 rfl) ?_
    refine cq_getr (ci := 11) (k := 3) (f := 72) hX hC rfl in_X11 (by decide) wd_481 (fun _ h9 => h9) (fun _ _ => rfl) dX11_count_167 h (fun z54 h => ?_)
    obtain ⟨q55, e9, hh⟩ := h
    subst e9
    have h := hh
    clear hh
    refine kv_calli [] (rest := []) (ci := 1) rfl hX hC h.1 (kt_X1_lettersLying l S q55 _ h.2 E _) (cw_X11_222 hts (by omega) (by omega)) rfl hl.1 (Nat.le_of_ble_eq_true rfl) ⟨Nat.zero_le _, Nat.zero_le _⟩ dX11_count_170 (fun r56 S56 H locs hC h => ?_)
    exact hret _ _ _ _ _ _ hC h dX11_count_173
  have h := h.2 c53
  rcases Decidable.em (a0 = 11) with c57 | c57
  · have h := h.1 c57
    refine lv_tableIn (tgt := 174) hx hb dX11_count_1 (by rw [c57]; decide) (by rw [c57]; decide) (by rw [c57]; rfl) (by decide) ?_
    refine lv_aload_n hx hb dX11_count_174 rfl (lv_at hl 0 rfl) ?_
    refine cq_getr (ci := 11) (k := 0) (f := 69) hX hC rfl in_X11 (by decide) wd_478 (fun _ h9 => h9) (fun _ _ => rfl) dX11_count_175 h (fun z58 h => ?_)
    obtain ⟨q59, e9, hh⟩ := h
    subst e9
    have h := hh
    clear hh
    refine cq_geti (ci := 10) (k := 4) (f := 41) hX hC rfl in_X10 (by decide) wd_102 (fun _ h9 => h9) (fun _ _ => rfl) dX11_count_178 h (fun z60 h => ?_)
    exact hret _ _ _ _ _ _ hC h dX11_count_181
  have h := h.2 c57
  refine lv_tableOut (tgt := 182) hx hb dX11_count_1 (by have nc1 := lv_neT c1 (show (0 : Int32).toInt = 0 by decide); have nc5 := lv_neT c5 (show (1 : Int32).toInt = 1 by decide); have nc9 := lv_neT c9 (show (2 : Int32).toInt = 2 by decide); have nc13 := lv_neT c13 (show (3 : Int32).toInt = 3 by decide); have nc17 := lv_neT c17 (show (4 : Int32).toInt = 4 by decide); have nc29 := lv_neT c29 (show (5 : Int32).toInt = 5 by decide); have nc35 := lv_neT c35 (show (6 : Int32).toInt = 6 by decide); have nc41 := lv_neT c41 (show (7 : Int32).toInt = 7 by decide); have nc45 := lv_neT c45 (show (8 : Int32).toInt = 8 by decide); have nc49 := lv_neT c49 (show (9 : Int32).toInt = 9 by decide); have nc53 := lv_neT c53 (show (10 : Int32).toInt = 10 by decide); have nc57 := lv_neT c57 (show (11 : Int32).toInt = 11 by decide); omega) (by decide) ?_
  refine lv_iconst (v := -1) hx hb dX11_count_182 (by decide) ?_
  exact hret _ _ _ _ _ _ hC h dX11_count_183
def wp_X11_feed (t0 : Nat) (a0 : Int64) (a1 : Int64) (a2 : Int64) (S : kS) (K : kS → Int32 → Prop) : Prop := hasO S t0 11 ∧ ∀ z1 : Option Nat, z1 = S.2.1 69 t0 → ∃ q2 : Nat, z1 = some q2 ∧ hasO S q2 10 ∧ wp_X10_add q2 a0 S (fun (S3 : kS) => hasO S3 t0 11 ∧ ∀ z4 : Option Nat, z4 = S3.2.1 69 t0 → ∃ q5 : Nat, z4 = some q5 ∧ hasO S3 q5 10 ∧ wp_X10_add q5 a1 S3 (fun (S6 : kS) => hasO S6 t0 11 ∧ ∀ z7 : Option Nat, z7 = S6.2.1 69 t0 → ∃ q8 : Nat, z7 = some q8 ∧ hasO S6 q8 10 ∧ wp_X10_add q8 a2 S6 (fun (S9 : kS) => hasO S9 t0 11 ∧ ∀ z10 : Option Nat, z10 = S9.2.1 69 t0 → ∃ q11 : Nat, z10 = some q11 ∧ hasO S9 q11 10 ∧ ∀ z12 : Int32, z12 = S9.1 41 q11 → K S9 z12)))
theorem cw_X11_62 {R : Room} {s : State} {args : Array Value} {fr lo : Nat} (hts : ∀ w ∈ tb, w.before args s = true) (h1 : fr + 1 ≤ R.frames) (h2 : 8 + (5 + 11) + lo ≤ R.locals) : CallW R s args RX11 RX10 62 yX10_add cX10_add 5 none (.code yX10_add cX10_add 5 none :: tb) (mRm fr lo) 0 0 1 := cwV 1 hts (gd_V wd_504 wd_505 wd_506 wd_2 wd_507) rfl rfl rfl (by decide +kernel) ⟨h1, h2⟩
set_option maxHeartbeats 4000000 in
set_option maxRecDepth 100000 in
theorem kt_X11_feed (l : Launch) (S : kS) (t0 : Nat) (a0 : Int64) (a1 : Int64) (a2 : Int64) (K : kS → Int32 → Prop) (h : wp_X11_feed t0 a0 a1 a2 S K) : kMi l yX11_feed cX11_feed 7 (some .int) 1 24 [.ref t0, .long a0, .long a1, .long a2] S K := by
  refine kv_ofi (own := RX11) (by decide) rfl (Nat.le_of_ble_eq_true rfl) ?_
  intro E p e R s m args below meth c A ls Q hRf hRl hX hC hl hret
  have hx := hX.1.1
  have hb := hX.1.2.1
  have hown := hX.1.2.2.2.1
  have hts := hX.1.2.2.2.2
  have hl : lv_has ls 7 [(0, .ref t0), (1, .long a0), (3, .long a1), (5, .long a2)] := hl
  unfold wp_X11_feed at h
  refine lv_aload_n hx hb dX11_feed_0 rfl (lv_at hl 0 rfl) ?_
  refine cq_getr (ci := 11) (k := 0) (f := 69) hX hC rfl in_X11 (by decide) wd_478 (fun _ h9 => h9) (fun _ _ => rfl) dX11_feed_1 h (fun z1 h => ?_)
  refine lv_lload_n hx hb dX11_feed_4 rfl (lv_at hl 1 rfl) ?_
  obtain ⟨q2, e9, hh⟩ := h
  subst e9
  have h := hh
  clear hh
  refine kv_callv [.long a0] (rest := []) (ci := 10) rfl hX hC h.1 (kt_X10_add l S q2 a0 _ h.2 E _) (cw_X11_62 hts (by omega) (by omega)) rfl hl.1 (Nat.le_of_ble_eq_true rfl) ⟨Nat.zero_le _, Nat.zero_le _⟩ dX11_feed_5 (fun S3 H locs hC h => ?_)
  refine lv_aload_n hx hb dX11_feed_8 rfl (lv_at hl 0 rfl) ?_
  refine cq_getr (ci := 11) (k := 0) (f := 69) hX hC rfl in_X11 (by decide) wd_478 (fun _ h9 => h9) (fun _ _ => rfl) dX11_feed_9 h (fun z4 h => ?_)
  refine lv_lload_n hx hb dX11_feed_12 rfl (lv_at hl 2 rfl) ?_
  obtain ⟨q5, e9, hh⟩ := h
  subst e9
  have h := hh
  clear hh
  refine kv_callv [.long a1] (rest := []) (ci := 10) rfl hX hC h.1 (kt_X10_add l S3 q5 a1 _ h.2 E _) (cw_X11_62 hts (by omega) (by omega)) rfl hl.1 (Nat.le_of_ble_eq_true rfl) ⟨Nat.zero_le _, Nat.zero_le _⟩ dX11_feed_13 (fun S6 H locs hC h => ?_)
  refine lv_aload_n hx hb dX11_feed_16 rfl (lv_at hl 0 rfl) ?_
  refine cq_getr (ci := 11) (k := 0) (f := 69) hX hC rfl in_X11 (by decide) wd_478 (fun _ h9 => h9) (fun _ _ => rfl) dX11_feed_17 h (fun z7 h => ?_)
  refine lv_lload hx hb dX11_feed_20 (lv_at hl 3 rfl) ?_
  obtain ⟨q8, e9, hh⟩ := h
  subst e9
  have h := hh
  clear hh
  refine kv_callv [.long a2] (rest := []) (ci := 10) rfl hX hC h.1 (kt_X10_add l S6 q8 a2 _ h.2 E _) (cw_X11_62 hts (by omega) (by omega)) rfl hl.1 (Nat.le_of_ble_eq_true rfl) ⟨Nat.zero_le _, Nat.zero_le _⟩ dX11_feed_22 (fun S9 H locs hC h => ?_)
  refine lv_aload_n hx hb dX11_feed_25 rfl (lv_at hl 0 rfl) ?_
  refine cq_getr (ci := 11) (k := 0) (f := 69) hX hC rfl in_X11 (by decide) wd_478 (fun _ h9 => h9) (fun _ _ => rfl) dX11_feed_26 h (fun z10 h => ?_)
  obtain ⟨q11, e9, hh⟩ := h
  subst e9
  have h := hh
  clear hh
  refine cq_geti (ci := 10) (k := 4) (f := 41) hX hC rfl in_X10 (by decide) wd_102 (fun _ h9 => h9) (fun _ _ => rfl) dX11_feed_29 h (fun z12 h => ?_)
  exact hret _ _ _ _ _ _ hC h dX11_feed_32
def wp_X1_deliver (t0 : Nat) (a0 : Int32) (a1 : Int32) (S : kS) (K : kS → Int32 → Prop) : Prop := ((a0 < 0 → K S (-2)) ∧ (¬ a0 < 0 → ((8 ≤ a0 → K S (-2)) ∧ (¬ 8 ≤ a0 → hasO S t0 1 ∧ ∀ z3 : Option Nat, z3 = S.2.1 6 t0 → ∃ q4 : Nat, z3 = some q4 ∧ hasA S q4 8 0 ∧ inR a0 8 ∧ ∀ z5 : Int32, z5 = S.2.2.1 q4 (ix a0) → ((z5 < 50 → hasO S t0 1 ∧ ∀ z7 : Option Nat, z7 = S.2.1 7 t0 → ∃ q8 : Nat, z7 = some q8 ∧ hasA S q8 8 4 ∧ inR a0 8 ∧ ∀ z9 : Option Nat, z9 = S.2.2.2.2.1 q8 (ix a0) → ∃ q10 : Nat, z9 = some q10 ∧ hasO S q10 2 ∧ ∀ z11 : Option Nat, z11 = S.2.1 12 q10 → ((z11 = none → hasO S t0 1 ∧ ∀ z13 : Option Nat, z13 = S.2.1 5 t0 → ∀ z14 : Int32, z14 = a0 * 50 → hasO S t0 1 ∧ ∀ z15 : Option Nat, z15 = S.2.1 6 t0 → ∃ q16 : Nat, z15 = some q16 ∧ hasA S q16 8 0 ∧ inR a0 8 ∧ ∀ z17 : Int32, z17 = S.2.2.1 q16 (ix a0) → ∀ z18 : Int32, z18 = z14 + z17 → ∃ q19 : Nat, z13 = some q19 ∧ hasA S q19 400 0 ∧ inR z18 400 ∧ ∀ S20 : kS, S20 = cA S q19 (ix z18) a1 → hasO S20 t0 1 ∧ ∀ z21 : Option Nat, z21 = S20.2.1 6 t0 → ∃ q22 : Nat, z21 = some q22 ∧ hasA S20 q22 8 0 ∧ inR a0 8 ∧ ∀ z23 : Int32, z23 = S20.2.2.1 q22 (ix a0) → ∀ z24 : Int32, z24 = z23 + 1 → hasA S20 q22 8 0 ∧ inR a0 8 ∧ ∀ S25 : kS, S25 = cA S20 q22 (ix a0) z24 → K S25 (-1)) ∧ (∀ q12 : Nat, z11 = some q12 → hasO S t0 1 ∧ wp_X1_report t0 q12 1 a1 S (fun (S26 : kS) => hasO S26 t0 1 ∧ wp_X1_work t0 S26 (fun (S27 : kS) => hasO S27 q12 4 ∧ ∀ z28 : Option Nat, z28 = S27.2.1 21 q12 → ∃ q29 : Nat, z28 = some q29 ∧ hasO S27 q29 9 ∧ ∀ z30 : Int32, z30 = S27.1 28 q29 → K S27 z30))))) ∧ (¬ z5 < 50 → K S (-2)))))))
set_option maxHeartbeats 4000000 in
set_option maxRecDepth 100000 in
theorem kt_X1_deliver (l : Launch) (S : kS) (t0 : Nat) (a0 : Int32) (a1 : Int32) (K : kS → Int32 → Prop) (h : wp_X1_deliver t0 a0 a1 S K) : kMi l yX1_deliver cX1_deliver 4 (some .int) 5 110 [.ref t0, .int a0, .int a1] S K := by
  refine kv_ofi (own := RX1) (by decide) rfl (Nat.le_of_ble_eq_true rfl) ?_
  intro E p e R s m args below meth c A ls Q hRf hRl hX hC hl hret
  have hx := hX.1.1
  have hb := hX.1.2.1
  have hown := hX.1.2.2.2.1
  have hts := hX.1.2.2.2.2
  have hl : lv_has ls 4 [(0, .ref t0), (1, .int a0), (2, .int a1)] := hl
  unfold wp_X1_deliver at h
  refine lv_iload_n hx hb dX1_deliver_0 rfl (lv_at hl 1 rfl) ?_
  refine lv_if_lt (tgt := 21) hx hb dX1_deliver_1 (by decide) (fun c1 => ?_) (fun c1 => ?_)
  · have h := h.1 c1
    refine lv_bipush (v := -2) hx hb dX1_deliver_21 (by decide) ?_
    exact hret _ _ _ _ _ _ hC h dX1_deliver_23
  · have h := h.2 c1
    refine lv_iload_n hx hb dX1_deliver_4 rfl (lv_at hl 1 rfl) ?_
    refine lv_bipush (v := 8) hx hb dX1_deliver_5 (by decide) ?_
    refine lv_icmp_ge (tgt := 21) hx hb dX1_deliver_7 (by decide) (fun c2 => ?_) (fun c2 => ?_)
    · have h := h.1 c2
      refine lv_bipush (v := -2) hx hb dX1_deliver_21 (by decide) ?_
      exact hret _ _ _ _ _ _ hC h dX1_deliver_23
    · have h := h.2 c2
      refine lv_aload_n hx hb dX1_deliver_10 rfl (lv_at hl 0 rfl) ?_
      refine cq_getr (ci := 1) (k := 8) (f := 6) hX hC rfl in_X1 (by decide) wd_250 (fun _ h9 => h9) (fun _ _ => rfl) dX1_deliver_11 h (fun z3 h => ?_)
      refine lv_iload_n hx hb dX1_deliver_14 rfl (lv_at hl 1 rfl) ?_
      obtain ⟨q4, e9, hh⟩ := h
      subst e9
      have h := hh
      clear hh
      refine cq_ild hX hC dX1_deliver_15 h (fun z5 h => ?_)
      refine lv_bipush (v := 50) hx hb dX1_deliver_16 (by decide) ?_
      refine lv_icmp_lt (tgt := 24) hx hb dX1_deliver_18 (by decide) (fun c6 => ?_) (fun c6 => ?_)
      · have h := h.1 c6
        refine lv_aload_n hx hb dX1_deliver_24 rfl (lv_at hl 0 rfl) ?_
        refine cq_getr (ci := 1) (k := 9) (f := 7) hX hC rfl in_X1 (by decide) wd_253 (fun _ h9 => h9) (fun _ _ => rfl) dX1_deliver_25 h (fun z7 h => ?_)
        refine lv_iload_n hx hb dX1_deliver_28 rfl (lv_at hl 1 rfl) ?_
        obtain ⟨q8, e9, hh⟩ := h
        subst e9
        have h := hh
        clear hh
        refine cq_qld4 hX hC dX1_deliver_29 h (fun z9 h => ?_)
        obtain ⟨q10, e9, hh⟩ := h
        subst e9
        have h := hh
        clear hh
        refine cq_getr (ci := 2) (k := 0) (f := 12) hX hC rfl in_X2 (by decide) wd_209 (fun _ h9 => h9) (fun _ _ => rfl) dX1_deliver_30 h (fun z11 h => ?_)
        refine lo_astore_n (lv' := [(3, va_rf z11), (0, .ref t0), (1, .int a0), (2, .int a1)]) hx hb dX1_deliver_33 rfl hl (by decide) (by rcases z11 with _ | _ <;> rfl) (fun ls hl => ?_)
        refine lo_aload_n hx hb dX1_deliver_34 rfl (lv_at hl 0 rfl) ?_
        rcases z11 with _ | q12
        · have h := h.1 rfl
          refine lv_ifnonnullN hx hb dX1_deliver_35 ?_
          refine lv_aload_n hx hb dX1_deliver_38 rfl (lv_at hl 1 rfl) ?_
          refine cq_getr (ci := 1) (k := 7) (f := 5) hX hC rfl in_X1 (by decide) wd_248 (fun _ h9 => h9) (fun _ _ => rfl) dX1_deliver_39 h (fun z13 h => ?_)
          refine lv_iload_n hx hb dX1_deliver_42 rfl (lv_at hl 2 rfl) ?_
          refine lv_bipush (v := 50) hx hb dX1_deliver_43 (by decide) ?_
          refine lq_imul hx hb dX1_deliver_45 h (fun z14 h => ?_)
          refine lv_aload_n hx hb dX1_deliver_46 rfl (lv_at hl 1 rfl) ?_
          refine cq_getr (ci := 1) (k := 8) (f := 6) hX hC rfl in_X1 (by decide) wd_250 (fun _ h9 => h9) (fun _ _ => rfl) dX1_deliver_47 h (fun z15 h => ?_)
          refine lv_iload_n hx hb dX1_deliver_50 rfl (lv_at hl 2 rfl) ?_
          obtain ⟨q16, e9, hh⟩ := h
          subst e9
          have h := hh
          clear hh
          refine cq_ild hX hC dX1_deliver_51 h (fun z17 h => ?_)
          refine lq_iadd hx hb dX1_deliver_52 h (fun z18 h => ?_)
          refine lv_iload_n hx hb dX1_deliver_53 rfl (lv_at hl 3 rfl) ?_
          obtain ⟨q19, e9, hh⟩ := h
          subst e9
          have h := hh
          clear hh
          refine cq_ist hX hC dX1_deliver_54 h.1 h.2.1 h.2.2 (fun S20 H locs hC h => ?_)
          refine lv_aload_n hx hb dX1_deliver_55 rfl (lv_at hl 1 rfl) ?_
          refine cq_getr (ci := 1) (k := 8) (f := 6) hX hC rfl in_X1 (by decide) wd_250 (fun _ h9 => h9) (fun _ _ => rfl) dX1_deliver_56 h (fun z21 h => ?_)
          refine lv_iload_n hx hb dX1_deliver_59 rfl (lv_at hl 2 rfl) ?_
          refine lv_dup2_11 hx hb dX1_deliver_60 (by first | rfl | exact cat_o) (by first | rfl | exact cat_o) ?_
          obtain ⟨q22, e9, hh⟩ := h
          subst e9
          have h := hh
          clear hh
          refine cq_ild hX hC dX1_deliver_61 h (fun z23 h => ?_)
          refine lv_iconst (v := 1) hx hb dX1_deliver_62 (by decide) ?_
          refine lq_iadd hx hb dX1_deliver_63 h (fun z24 h => ?_)
          refine cq_ist hX hC dX1_deliver_64 h.1 h.2.1 h.2.2 (fun S25 H locs hC h => ?_)
          refine lv_iconst (v := -1) hx hb dX1_deliver_65 (by decide) ?_
          exact hret _ _ _ _ _ _ hC h dX1_deliver_66
        · have h := h.2 q12 rfl
          refine lv_ifnonnull (tgt := 67) hx hb dX1_deliver_35 (by decide) ?_
          refine lv_aload_n hx hb dX1_deliver_67 rfl (lv_at hl 1 rfl) ?_
          refine lv_aload_n hx hb dX1_deliver_68 rfl (lv_at hl 0 rfl) ?_
          refine lv_iconst (v := 1) hx hb dX1_deliver_69 (by decide) ?_
          refine lv_iload_n hx hb dX1_deliver_70 rfl (lv_at hl 3 rfl) ?_
          refine kv_callv [.ref q12, .int 1, .int a1] (rest := []) (ci := 1) rfl hX hC h.1 (kt_X1_report l S t0 q12 1 a1 _ h.2 E _) (cw_X1_186 hts (by omega) (by omega)) rfl hl.1 (Nat.le_of_ble_eq_true rfl) ⟨Nat.zero_le _, Nat.zero_le _⟩ dX1_deliver_71 (fun S26 H locs hC h => ?_)
          refine lv_aload_n hx hb dX1_deliver_74 rfl (lv_at hl 1 rfl) ?_
          refine kv_callv [] (rest := []) (ci := 1) rfl hX hC h.1 (kt_X1_work l S26 t0 _ h.2 E _) (cw_X1_190 hts (by omega) (by omega)) rfl hl.1 (Nat.le_of_ble_eq_true rfl) ⟨Nat.zero_le _, Nat.zero_le _⟩ dX1_deliver_75 (fun S27 H locs hC h => ?_)
          refine lv_aload_n hx hb dX1_deliver_78 rfl (lv_at hl 0 rfl) ?_
          refine cq_getr (ci := 4) (k := 0) (f := 21) hX hC rfl in_X4 (by decide) wd_1057 (fun _ h9 => h9) (fun _ _ => rfl) dX1_deliver_79 h (fun z28 h => ?_)
          obtain ⟨q29, e9, hh⟩ := h
          subst e9
          have h := hh
          clear hh
          refine cq_geti (ci := 9) (k := 0) (f := 28) hX hC rfl in_X9 (by decide) wd_864 (fun _ h9 => h9) (fun _ _ => rfl) dX1_deliver_82 h (fun z30 h => ?_)
          exact hret _ _ _ _ _ _ hC h dX1_deliver_85
      · have h := h.2 c6
        refine lv_bipush (v := -2) hx hb dX1_deliver_21 (by decide) ?_
        exact hret _ _ _ _ _ _ hC h dX1_deliver_23
def wp_X11_letter (t0 : Nat) (a0 : Int32) (a1 : Int32) (S : kS) (K : kS → Int32 → Prop) : Prop := hasO S t0 11 ∧ ∀ z1 : Option Nat, z1 = S.2.1 72 t0 → ∃ q2 : Nat, z1 = some q2 ∧ hasO S q2 1 ∧ wp_X1_deliver q2 a0 a1 S (fun (S3 : kS) (r3 : Int32) => K S3 r3)
theorem cw_X11_146 {R : Room} {s : State} {args : Array Value} {fr lo : Nat} (hts : ∀ w ∈ tb, w.before args s = true) (h1 : fr + 1 ≤ R.frames) (h2 : 8 + (4 + 11) + lo ≤ R.locals) : CallW R s args RX11 RX1 146 yX1_deliver cX1_deliver 4 (some .int) (.code yX1_deliver cX1_deliver 4 (some .int) :: tb) (mRm fr lo) 0 0 2 := cwV 2 hts (gd_V wd_1220 wd_1221 wd_1222 wd_9 wd_1223) rfl rfl rfl (by decide +kernel) ⟨h1, h2⟩
set_option maxHeartbeats 4000000 in
set_option maxRecDepth 100000 in
theorem kt_X11_letter (l : Launch) (S : kS) (t0 : Nat) (a0 : Int32) (a1 : Int32) (K : kS → Int32 → Prop) (h : wp_X11_letter t0 a0 a1 S K) : kMi l yX11_letter cX11_letter 3 (some .int) 6 133 [.ref t0, .int a0, .int a1] S K := by
  refine kv_ofi (own := RX11) (by decide) rfl (Nat.le_of_ble_eq_true rfl) ?_
  intro E p e R s m args below meth c A ls Q hRf hRl hX hC hl hret
  have hx := hX.1.1
  have hb := hX.1.2.1
  have hown := hX.1.2.2.2.1
  have hts := hX.1.2.2.2.2
  have hl : lv_has ls 3 [(0, .ref t0), (1, .int a0), (2, .int a1)] := hl
  unfold wp_X11_letter at h
  refine lv_aload_n hx hb dX11_letter_0 rfl (lv_at hl 0 rfl) ?_
  refine cq_getr (ci := 11) (k := 3) (f := 72) hX hC rfl in_X11 (by decide) wd_481 (fun _ h9 => h9) (fun _ _ => rfl) dX11_letter_1 h (fun z1 h => ?_)
  refine lv_iload_n hx hb dX11_letter_4 rfl (lv_at hl 1 rfl) ?_
  refine lv_iload_n hx hb dX11_letter_5 rfl (lv_at hl 2 rfl) ?_
  obtain ⟨q2, e9, hh⟩ := h
  subst e9
  have h := hh
  clear hh
  refine kv_calli [.int a0, .int a1] (rest := []) (ci := 1) rfl hX hC h.1 (kt_X1_deliver l S q2 a0 a1 _ h.2 E _) (cw_X11_146 hts (by omega) (by omega)) rfl hl.1 (Nat.le_of_ble_eq_true rfl) ⟨Nat.zero_le _, Nat.zero_le _⟩ dX11_letter_6 (fun r3 S3 H locs hC h => ?_)
  exact hret _ _ _ _ _ _ hC h dX11_letter_9
def wp_X5_has (t0 : Nat) (a0 : Int32) (S : kS) (K : kS → Int32 → Prop) : Prop := ((a0 < 0 → K S 0) ∧ (¬ a0 < 0 → hasO S t0 5 ∧ ∀ z2 : Int32, z2 = S.1 18 t0 → ((z2 ≤ a0 → K S 0) ∧ (¬ z2 ≤ a0 → K S 1))))
set_option maxHeartbeats 4000000 in
set_option maxRecDepth 100000 in
theorem kt_X5_has (l : Launch) (S : kS) (t0 : Nat) (a0 : Int32) (K : kS → Int32 → Prop) (h : wp_X5_has t0 a0 S K) : kMi l yX5_has cX5_has 2 (some .boolean) 0 0 [.ref t0, .int a0] S K := by
  refine kv_ofz (own := RX5) (by decide) rfl (Nat.le_of_ble_eq_true rfl) ?_
  intro E p e R s m args below meth c A ls Q hRf hRl hX hC hl hret
  have hx := hX.1.1
  have hb := hX.1.2.1
  have hown := hX.1.2.2.2.1
  have hts := hX.1.2.2.2.2
  have hl : lv_has ls 2 [(0, .ref t0), (1, .int a0)] := hl
  unfold wp_X5_has at h
  refine lv_iload_n hx hb dX5_has_0 rfl (lv_at hl 1 rfl) ?_
  refine lv_if_lt (tgt := 16) hx hb dX5_has_1 (by decide) (fun c1 => ?_) (fun c1 => ?_)
  · have h := h.1 c1
    refine lv_iconst (v := 0) hx hb dX5_has_16 (by decide) ?_
    exact hret _ _ _ _ _ _ hC (Or.inl rfl) h dX5_has_17
  · have h := h.2 c1
    refine lv_iload_n hx hb dX5_has_4 rfl (lv_at hl 1 rfl) ?_
    refine lv_aload_n hx hb dX5_has_5 rfl (lv_at hl 0 rfl) ?_
    refine cq_geti (ci := 5) (k := 5) (f := 18) hX hC rfl in_X5 (by decide) wd_413 (fun _ h9 => h9) (fun _ _ => rfl) dX5_has_6 h (fun z2 h => ?_)
    refine lv_icmp_ge (tgt := 16) hx hb dX5_has_9 (by decide) (fun c3 => ?_) (fun c3 => ?_)
    · have h := h.1 c3
      refine lv_iconst (v := 0) hx hb dX5_has_16 (by decide) ?_
      exact hret _ _ _ _ _ _ hC (Or.inl rfl) h dX5_has_17
    · have h := h.2 c3
      refine lv_iconst (v := 1) hx hb dX5_has_12 (by decide) ?_
      refine lv_goto (tgt := 17) hx hb dX5_has_13 (by decide) ?_
      exact hret _ _ _ _ _ _ hC (Or.inr rfl) h dX5_has_17
def wp_X5_hasState (t0 : Nat) (a0 : Int32) (a1 : Int32) (S : kS) (K : kS → Int32 → Prop) : Prop := hasO S t0 5 ∧ wp_X5_has t0 a0 S (fun (S1 : kS) (r1 : Int32) => ((r1 = 0 → K S1 0) ∧ (¬ r1 = 0 → ((a1 < 0 → K S1 0) ∧ (¬ a1 < 0 → hasO S1 t0 5 ∧ ∀ z4 : Option Nat, z4 = S1.2.1 36 t0 → ∃ q5 : Nat, z4 = some q5 ∧ hasA S1 q5 12 0 ∧ inR a0 12 ∧ ∀ z6 : Int32, z6 = S1.2.2.1 q5 (ix a0) → ((z6 < a1 → K S1 0) ∧ (¬ z6 < a1 → K S1 1)))))))
theorem cw_X5_63 {R : Room} {s : State} {args : Array Value} {fr lo : Nat} (hts : ∀ w ∈ tb, w.before args s = true) (h1 : fr + 1 ≤ R.frames) (h2 : 8 + (2 + 11) + lo ≤ R.locals) : CallW R s args RX5 RX5 63 yX5_has cX5_has 2 (some .boolean) (.code yX5_has cX5_has 2 (some .boolean) :: tb) (mRm fr lo) 0 0 1 := cwV 1 hts (gd_V wd_648 wd_649 wd_650 wd_13 wd_651) rfl rfl rfl (by decide +kernel) ⟨h1, h2⟩
set_option maxHeartbeats 4000000 in
set_option maxRecDepth 100000 in
theorem kt_X5_hasState (l : Launch) (S : kS) (t0 : Nat) (a0 : Int32) (a1 : Int32) (K : kS → Int32 → Prop) (h : wp_X5_hasState t0 a0 a1 S K) : kMi l yX5_hasState cX5_hasState 3 (some .boolean) 1 21 [.ref t0, .int a0, .int a1] S K := by
  refine kv_ofz (own := RX5) (by decide) rfl (Nat.le_of_ble_eq_true rfl) ?_
  intro E p e R s m args below meth c A ls Q hRf hRl hX hC hl hret
  have hx := hX.1.1
  have hb := hX.1.2.1
  have hown := hX.1.2.2.2.1
  have hts := hX.1.2.2.2.2
  have hl : lv_has ls 3 [(0, .ref t0), (1, .int a0), (2, .int a1)] := hl
  unfold wp_X5_hasState at h
  refine lv_aload_n hx hb dX5_hasState_0 rfl (lv_at hl 0 rfl) ?_
  refine lv_iload_n hx hb dX5_hasState_1 rfl (lv_at hl 1 rfl) ?_
  refine kv_calli [.int a0] (rest := []) (ci := 5) rfl hX hC h.1 (kt_X5_has l S t0 a0 _ h.2 E _) (cw_X5_63 hts (by omega) (by omega)) rfl hl.1 (Nat.le_of_ble_eq_true rfl) ⟨Nat.zero_le _, Nat.zero_le _⟩ dX5_hasState_2 (fun r1 S1 H locs hC h => ?_)
  refine lv_if_eq (tgt := 26) hx hb dX5_hasState_5 (by decide) (fun c2 => ?_) (fun c2 => ?_)
  · have h := h.1 c2
    refine lv_iconst (v := 0) hx hb dX5_hasState_26 (by decide) ?_
    exact hret _ _ _ _ _ _ hC (Or.inl rfl) h dX5_hasState_27
  · have h := h.2 c2
    refine lv_iload_n hx hb dX5_hasState_8 rfl (lv_at hl 2 rfl) ?_
    refine lv_if_lt (tgt := 26) hx hb dX5_hasState_9 (by decide) (fun c3 => ?_) (fun c3 => ?_)
    · have h := h.1 c3
      refine lv_iconst (v := 0) hx hb dX5_hasState_26 (by decide) ?_
      exact hret _ _ _ _ _ _ hC (Or.inl rfl) h dX5_hasState_27
    · have h := h.2 c3
      refine lv_iload_n hx hb dX5_hasState_12 rfl (lv_at hl 2 rfl) ?_
      refine lv_aload_n hx hb dX5_hasState_13 rfl (lv_at hl 0 rfl) ?_
      refine cq_getr (ci := 5) (k := 10) (f := 36) hX hC rfl in_X5 (by decide) wd_427 (fun _ h9 => h9) (fun _ _ => rfl) dX5_hasState_14 h (fun z4 h => ?_)
      refine lv_iload_n hx hb dX5_hasState_17 rfl (lv_at hl 1 rfl) ?_
      obtain ⟨q5, e9, hh⟩ := h
      subst e9
      have h := hh
      clear hh
      refine cq_ild hX hC dX5_hasState_18 h (fun z6 h => ?_)
      refine lv_icmp_gt (tgt := 26) hx hb dX5_hasState_19 (by decide) (fun c7 => ?_) (fun c7 => ?_)
      · have h := h.1 c7
        refine lv_iconst (v := 0) hx hb dX5_hasState_26 (by decide) ?_
        exact hret _ _ _ _ _ _ hC (Or.inl rfl) h dX5_hasState_27
      · have h := h.2 c7
        refine lv_iconst (v := 1) hx hb dX5_hasState_22 (by decide) ?_
        refine lv_goto (tgt := 27) hx hb dX5_hasState_23 (by decide) ?_
        exact hret _ _ _ _ _ _ hC (Or.inr rfl) h dX5_hasState_27
def wp_X7_is (t0 : Nat) (a0 : Int32) (a1 : Int32) (S : kS) (K : kS → Int32 → Prop) : Prop := hasO S t0 7 ∧ ∀ z1 : Option Nat, z1 = S.2.1 49 t0 → ∃ q2 : Nat, z1 = some q2 ∧ hasA S q2 460 0 ∧ inR a0 460 ∧ ∀ z3 : Int32, z3 = S.2.2.1 q2 (ix a0) → ∀ z4 : Int32, z4 = z3 &&& a1 → ((z4 = 0 → K S 0) ∧ (¬ z4 = 0 → K S 1))
set_option maxHeartbeats 4000000 in
set_option maxRecDepth 100000 in
theorem kt_X7_is (l : Launch) (S : kS) (t0 : Nat) (a0 : Int32) (a1 : Int32) (K : kS → Int32 → Prop) (h : wp_X7_is t0 a0 a1 S K) : kMi l yX7_is cX7_is 3 (some .boolean) 0 0 [.ref t0, .int a0, .int a1] S K := by
  refine kv_ofz (own := RX7) (by decide) rfl (Nat.le_of_ble_eq_true rfl) ?_
  intro E p e R s m args below meth c A ls Q hRf hRl hX hC hl hret
  have hx := hX.1.1
  have hb := hX.1.2.1
  have hown := hX.1.2.2.2.1
  have hts := hX.1.2.2.2.2
  have hl : lv_has ls 3 [(0, .ref t0), (1, .int a0), (2, .int a1)] := hl
  unfold wp_X7_is at h
  refine lv_aload_n hx hb dX7_is_0 rfl (lv_at hl 0 rfl) ?_
  refine cq_getr (ci := 7) (k := 7) (f := 49) hX hC rfl in_X7 (by decide) wd_360 (fun _ h9 => h9) (fun _ _ => rfl) dX7_is_1 h (fun z1 h => ?_)
  refine lv_iload_n hx hb dX7_is_4 rfl (lv_at hl 1 rfl) ?_
  obtain ⟨q2, e9, hh⟩ := h
  subst e9
  have h := hh
  clear hh
  refine cq_ild hX hC dX7_is_5 h (fun z3 h => ?_)
  refine lv_iload_n hx hb dX7_is_6 rfl (lv_at hl 2 rfl) ?_
  refine lq_iand hx hb dX7_is_7 h (fun z4 h => ?_)
  refine lv_if_eq (tgt := 15) hx hb dX7_is_8 (by decide) (fun c5 => ?_) (fun c5 => ?_)
  · have h := h.1 c5
    refine lv_iconst (v := 0) hx hb dX7_is_15 (by decide) ?_
    exact hret _ _ _ _ _ _ hC (Or.inl rfl) h dX7_is_16
  · have h := h.2 c5
    refine lv_iconst (v := 1) hx hb dX7_is_11 (by decide) ?_
    refine lv_goto (tgt := 16) hx hb dX7_is_12 (by decide) ?_
    exact hret _ _ _ _ _ _ hC (Or.inr rfl) h dX7_is_16
def wp_X7_leaveTo_57 (K : kS → Int32 → Prop) (k6 : Nat × Int32 × Int32 × Int32 × Int32 × kS → Prop) (x0 : Nat) (x2 : Int32) (x3 : Int32) (x5 : Int32) (x6 : Int32) (S : kS) : Prop := hasO S x0 7 ∧ ∀ z12 : Option Nat, z12 = S.2.1 43 x0 → ∃ q13 : Nat, z12 = some q13 ∧ hasA S q13 460 0 ∧ inR x6 460 ∧ ∀ z14 : Int32, z14 = S.2.2.1 q13 (ix x6) → ∀ z15 : Int32, z15 = x5 + 1 → k6 (x0, x2, x3, z14, z15, S)
def wp_X7_leaveTo_6 (K : kS → Int32 → Prop) (k6 : Nat × Int32 × Int32 × Int32 × Int32 × kS → Prop) (x0 : Nat) (x2 : Int32) (x3 : Int32) (x4 : Int32) (x5 : Int32) (S : kS) : Prop := ((460 ≤ x5 → K S x3) ∧ (¬ 460 ≤ x5 → ((x4 < 0 → K S x3) ∧ (¬ x4 < 0 → ((x4 = x2 → K S x3) ∧ (¬ x4 = x2 → ¬ (3 : Int32) = 0 ∧ ∀ z4 : Int32, z4 = x4 / 3 → ¬ (3 : Int32) = 0 ∧ ∀ z5 : Int32, z5 = x4 - x4 / 3 * 3 → ((z5 = 2 → wp_X7_leaveTo_57 K k6 x0 x2 x3 x5 z4 S) ∧ (¬ z5 = 2 → hasO S x0 7 ∧ wp_X7_is x0 z4 2 S (fun (S7 : kS) (r7 : Int32) => ((r7 = 0 → wp_X7_leaveTo_57 K k6 x0 x2 x3 x5 z4 S7) ∧ (¬ r7 = 0 → hasO S7 x0 7 ∧ ∀ z9 : Option Nat, z9 = S7.2.1 47 x0 → ∃ q10 : Nat, z9 = some q10 ∧ hasA S7 q10 460 0 ∧ inR z4 460 ∧ ∀ z11 : Int32, z11 = S7.2.2.1 q10 (ix z4) → K S7 z11)))))))))))
def ls_X7_leaveTo_6 (K : kS → Int32 → Prop) (k6 : Nat × Int32 × Int32 × Int32 × Int32 × kS → Prop) (u : Nat × Int32 × Int32 × Int32 × Int32 × kS) : Prop := wp_X7_leaveTo_6 K k6 u.1 u.2.1 u.2.2.1 u.2.2.2.1 u.2.2.2.2.1 u.2.2.2.2.2
def wp_X7_leaveTo (t0 : Nat) (a0 : Int32) (a1 : Int32) (a2 : Int32) (S : kS) (K : kS → Int32 → Prop) : Prop := (∃ n9, it (ls_X7_leaveTo_6 K) n9 (t0, a1, a2, a0, 0, S))
theorem cw_X7_49 {R : Room} {s : State} {args : Array Value} {fr lo : Nat} (hts : ∀ w ∈ tb, w.before args s = true) (h1 : fr + 1 ≤ R.frames) (h2 : 8 + (3 + 11) + lo ≤ R.locals) : CallW R s args RX7 RX7 49 yX7_is cX7_is 3 (some .boolean) (.code yX7_is cX7_is 3 (some .boolean) :: tb) (mRm fr lo) 0 0 2 := cwV 2 hts (gd_V wd_818 wd_819 wd_820 wd_14 wd_821) rfl rfl rfl (by decide +kernel) ⟨h1, h2⟩
set_option maxHeartbeats 4000000 in
set_option maxRecDepth 100000 in
theorem kt_X7_leaveTo (l : Launch) (S : kS) (t0 : Nat) (a0 : Int32) (a1 : Int32) (a2 : Int32) (K : kS → Int32 → Prop) (h : wp_X7_leaveTo t0 a0 a1 a2 S K) : kMi l yX7_leaveTo cX7_leaveTo 7 (some .int) 1 22 [.ref t0, .int a0, .int a1, .int a2] S K := by
  refine kv_ofi (own := RX7) (by decide) rfl (Nat.le_of_ble_eq_true rfl) ?_
  intro E p e R s m args below meth c A ls Q hRf hRl hX hC hl hret
  have hx := hX.1.1
  have hb := hX.1.2.1
  have hown := hX.1.2.2.2.1
  have hts := hX.1.2.2.2.2
  have cut6 : ∀ (n6 : Nat) (x0 : Nat) (x2 : Int32) (x3 : Int32) (x4 : Int32) (x5 : Int32) (S : kS) (H : Heap) (locs : List Loc) (ls : Array Slot), it (ls_X7_leaveTo_6 K) n6 (x0, x2, x3, x4, x5, S) → cM E A s.heap S H locs → lv_has ls 7 [(0, .ref x0), (2, .int x2), (3, .int x3), (4, .int x4), (5, .int x5)] → W p l e R s m args below meth c H locs 0 0 Q (F0 m 6 ls []) := by
    intro n6
    induction n6 with
    | zero => intro x0 x2 x3 x4 x5 S H locs ls h hC hl; exact h.elim
    | succ n6 ih6 =>
      have cut57 : ∀ (x0 : Nat) (x2 : Int32) (x3 : Int32) (x5 : Int32) (x6 : Int32) (S : kS) (H : Heap) (locs : List Loc) (ls : Array Slot), wp_X7_leaveTo_57 K (it (ls_X7_leaveTo_6 K) n6) x0 x2 x3 x5 x6 S → cM E A s.heap S H locs → lv_has ls 7 [(0, .ref x0), (2, .int x2), (3, .int x3), (5, .int x5), (6, .int x6)] → W p l e R s m args below meth c H locs 0 0 Q (F0 m 57 ls []) := by
        intro x0 x2 x3 x5 x6 S H locs ls h hC hl
        unfold wp_X7_leaveTo_57 at h
        refine lv_aload_n hx hb dX7_leaveTo_57 rfl (lv_at hl 0 rfl) ?_
        refine cq_getr (ci := 7) (k := 1) (f := 43) hX hC rfl in_X7 (by decide) wd_342 (fun _ h9 => h9) (fun _ _ => rfl) dX7_leaveTo_58 h (fun z12 h => ?_)
        refine lv_iload hx hb dX7_leaveTo_61 (lv_at hl 4 rfl) ?_
        obtain ⟨q13, e9, hh⟩ := h
        subst e9
        have h := hh
        clear hh
        refine cq_ild hX hC dX7_leaveTo_63 h (fun z14 h => ?_)
        refine lv_istore (lv' := [(4, .int z14), (0, .ref x0), (2, .int x2), (3, .int x3), (5, .int x5), (6, .int x6)]) hx hb dX7_leaveTo_64 hl (by decide) rfl (fun ls hl => ?_)
        obtain ⟨z15, ez15⟩ : ∃ y : Int32, y = x5 + 1 := ⟨_, rfl⟩
        have h := h z15 ez15
        refine lv_iinc (v := z15) (lv' := [(5, .int z15), (4, .int z14), (0, .ref x0), (2, .int x2), (3, .int x3), (6, .int x6)]) hx hb dX7_leaveTo_66 hl (k := 4) rfl (by rw [ez15]; rfl) (by decide) rfl (fun ls hl => ?_)
        refine lv_goto (tgt := 6) hx hb dX7_leaveTo_69 (by decide) ?_
        exact ih6 x0 x2 x3 z14 z15 S _ _ _ h hC (lv_sub hl [2, 3, 4, 1, 0] rfl)
      intro x0 x2 x3 x4 x5 S H locs ls h hC hl
      have h : wp_X7_leaveTo_6 K (it (ls_X7_leaveTo_6 K) n6) x0 x2 x3 x4 x5 S := h
      unfold wp_X7_leaveTo_6 at h
      refine lv_iload hx hb dX7_leaveTo_6 (lv_at hl 4 rfl) ?_
      refine lv_sipush (v := 460) hx hb dX7_leaveTo_8 (by decide) ?_
      refine lv_icmp_ge (tgt := 72) hx hb dX7_leaveTo_11 (by decide) (fun c1 => ?_) (fun c1 => ?_)
      · have h := h.1 c1
        refine lv_iload_n hx hb dX7_leaveTo_72 rfl (lv_at hl 2 rfl) ?_
        exact hret _ _ _ _ _ _ hC h dX7_leaveTo_73
      · have h := h.2 c1
        refine lv_iload hx hb dX7_leaveTo_14 (lv_at hl 3 rfl) ?_
        refine lv_if_lt (tgt := 72) hx hb dX7_leaveTo_16 (by decide) (fun c2 => ?_) (fun c2 => ?_)
        · have h := h.1 c2
          refine lv_iload_n hx hb dX7_leaveTo_72 rfl (lv_at hl 2 rfl) ?_
          exact hret _ _ _ _ _ _ hC h dX7_leaveTo_73
        · have h := h.2 c2
          refine lv_iload hx hb dX7_leaveTo_19 (lv_at hl 3 rfl) ?_
          refine lv_iload_n hx hb dX7_leaveTo_21 rfl (lv_at hl 1 rfl) ?_
          refine lv_icmp_eq (tgt := 72) hx hb dX7_leaveTo_22 (by decide) (fun c3 => ?_) (fun c3 => ?_)
          · have h := h.1 c3
            refine lv_iload_n hx hb dX7_leaveTo_72 rfl (lv_at hl 2 rfl) ?_
            exact hret _ _ _ _ _ _ hC h dX7_leaveTo_73
          · have h := h.2 c3
            refine lv_iload hx hb dX7_leaveTo_25 (lv_at hl 3 rfl) ?_
            refine lv_iconst (v := 3) hx hb dX7_leaveTo_27 (by decide) ?_
            refine lq_idiv hx hb dX7_leaveTo_28 h (fun z4 h => ?_)
            refine lv_istore (lv' := [(6, .int z4), (0, .ref x0), (2, .int x2), (3, .int x3), (4, .int x4), (5, .int x5)]) hx hb dX7_leaveTo_29 hl (by decide) rfl (fun ls hl => ?_)
            refine lv_iload hx hb dX7_leaveTo_31 (lv_at hl 4 rfl) ?_
            refine lv_iconst (v := 3) hx hb dX7_leaveTo_33 (by decide) ?_
            refine lq_irem hx hb dX7_leaveTo_34 h (fun z5 h => ?_)
            refine lv_iconst (v := 2) hx hb dX7_leaveTo_35 (by decide) ?_
            refine lv_icmp_eq (tgt := 57) hx hb dX7_leaveTo_36 (by decide) (fun c6 => ?_) (fun c6 => ?_)
            · have h := h.1 c6
              exact cut57 x0 x2 x3 x5 z4 S _ _ _ h hC (lv_sub hl [1, 2, 3, 5, 0] rfl)
            · have h := h.2 c6
              refine lv_aload_n hx hb dX7_leaveTo_39 rfl (lv_at hl 1 rfl) ?_
              refine lv_iload hx hb dX7_leaveTo_40 (lv_at hl 0 rfl) ?_
              refine lv_iconst (v := 2) hx hb dX7_leaveTo_42 (by decide) ?_
              refine kv_calli [.int z4, .int 2] (rest := []) (ci := 7) rfl hX hC h.1 (kt_X7_is l S x0 z4 2 _ h.2 E _) (cw_X7_49 hts (by omega) (by omega)) rfl hl.1 (Nat.le_of_ble_eq_true rfl) ⟨Nat.zero_le _, Nat.zero_le _⟩ dX7_leaveTo_43 (fun r7 S7 H locs hC h => ?_)
              refine lv_if_eq (tgt := 57) hx hb dX7_leaveTo_46 (by decide) (fun c8 => ?_) (fun c8 => ?_)
              · have h := h.1 c8
                exact cut57 x0 x2 x3 x5 z4 S7 _ _ _ h hC (lv_sub hl [1, 2, 3, 5, 0] rfl)
              · have h := h.2 c8
                refine lv_aload_n hx hb dX7_leaveTo_49 rfl (lv_at hl 1 rfl) ?_
                refine cq_getr (ci := 7) (k := 5) (f := 47) hX hC rfl in_X7 (by decide) wd_352 (fun _ h9 => h9) (fun _ _ => rfl) dX7_leaveTo_50 h (fun z9 h => ?_)
                refine lv_iload hx hb dX7_leaveTo_53 (lv_at hl 0 rfl) ?_
                obtain ⟨q10, e9, hh⟩ := h
                subst e9
                have h := hh
                clear hh
                refine cq_ild hX hC dX7_leaveTo_55 h (fun z11 h => ?_)
                exact hret _ _ _ _ _ _ hC h dX7_leaveTo_56
  have hl : lv_has ls 7 [(0, .ref t0), (1, .int a0), (2, .int a1), (3, .int a2)] := hl
  unfold wp_X7_leaveTo at h
  refine lv_iload_n hx hb dX7_leaveTo_0 rfl (lv_at hl 1 rfl) ?_
  refine lv_istore (lv' := [(4, .int a0), (0, .ref t0), (1, .int a0), (2, .int a1), (3, .int a2)]) hx hb dX7_leaveTo_1 hl (by decide) rfl (fun ls hl => ?_)
  refine lv_iconst (v := 0) hx hb dX7_leaveTo_3 (by decide) ?_
  refine lv_istore (lv' := [(5, .int 0), (4, .int a0), (0, .ref t0), (1, .int a0), (2, .int a1), (3, .int a2)]) hx hb dX7_leaveTo_4 hl (by decide) rfl (fun ls hl => ?_)
  obtain ⟨n9, h⟩ := h
  exact cut6 n9 t0 a1 a2 a0 0 S _ _ _ h hC (lv_sub hl [2, 4, 5, 1, 0] rfl)
def wp_X7_breakTo (t0 : Nat) (a0 : Int32) (a1 : Int32) (S : kS) (K : kS → Int32 → Prop) : Prop := hasO S t0 7 ∧ ∀ z1 : Option Nat, z1 = S.2.1 50 t0 → ∃ q2 : Nat, z1 = some q2 ∧ hasA S q2 460 0 ∧ inR a1 460 ∧ ∀ z3 : Int32, z3 = S.2.2.1 q2 (ix a1) → hasO S t0 7 ∧ ∀ z4 : Option Nat, z4 = S.2.1 52 t0 → ∃ q5 : Nat, z4 = some q5 ∧ hasA S q5 460 0 ∧ inR a1 460 ∧ ∀ z6 : Int32, z6 = S.2.2.1 q5 (ix a1) → hasO S t0 7 ∧ wp_X7_leaveTo t0 a0 z3 z6 S (fun (S7 : kS) (r7 : Int32) => K S7 r7)
theorem cw_X7_53 {R : Room} {s : State} {args : Array Value} {fr lo : Nat} (hts : ∀ w ∈ tb, w.before args s = true) (h1 : fr + 1 ≤ R.frames) (h2 : 8 + (7 + 11) + lo ≤ R.locals) : CallW R s args RX7 RX7 53 yX7_leaveTo cX7_leaveTo 7 (some .int) (.code yX7_leaveTo cX7_leaveTo 7 (some .int) :: tb) (mRm fr lo) 0 0 3 := cwV 3 hts (gd_V wd_814 wd_815 wd_816 wd_14 wd_817) rfl rfl rfl (by decide +kernel) ⟨h1, h2⟩
set_option maxHeartbeats 4000000 in
set_option maxRecDepth 100000 in
theorem kt_X7_breakTo (l : Launch) (S : kS) (t0 : Nat) (a0 : Int32) (a1 : Int32) (K : kS → Int32 → Prop) (h : wp_X7_breakTo t0 a0 a1 S K) : kMi l yX7_breakTo cX7_breakTo 3 (some .int) 2 48 [.ref t0, .int a0, .int a1] S K := by
  refine kv_ofi (own := RX7) (by decide) rfl (Nat.le_of_ble_eq_true rfl) ?_
  intro E p e R s m args below meth c A ls Q hRf hRl hX hC hl hret
  have hx := hX.1.1
  have hb := hX.1.2.1
  have hown := hX.1.2.2.2.1
  have hts := hX.1.2.2.2.2
  have hl : lv_has ls 3 [(0, .ref t0), (1, .int a0), (2, .int a1)] := hl
  unfold wp_X7_breakTo at h
  refine lv_aload_n hx hb dX7_breakTo_0 rfl (lv_at hl 0 rfl) ?_
  refine lv_iload_n hx hb dX7_breakTo_1 rfl (lv_at hl 1 rfl) ?_
  refine lv_aload_n hx hb dX7_breakTo_2 rfl (lv_at hl 0 rfl) ?_
  refine cq_getr (ci := 7) (k := 9) (f := 50) hX hC rfl in_X7 (by decide) wd_362 (fun _ h9 => h9) (fun _ _ => rfl) dX7_breakTo_3 h (fun z1 h => ?_)
  refine lv_iload_n hx hb dX7_breakTo_6 rfl (lv_at hl 2 rfl) ?_
  obtain ⟨q2, e9, hh⟩ := h
  subst e9
  have h := hh
  clear hh
  refine cq_ild hX hC dX7_breakTo_7 h (fun z3 h => ?_)
  refine lv_aload_n hx hb dX7_breakTo_8 rfl (lv_at hl 0 rfl) ?_
  refine cq_getr (ci := 7) (k := 11) (f := 52) hX hC rfl in_X7 (by decide) wd_367 (fun _ h9 => h9) (fun _ _ => rfl) dX7_breakTo_9 h (fun z4 h => ?_)
  refine lv_iload_n hx hb dX7_breakTo_12 rfl (lv_at hl 2 rfl) ?_
  obtain ⟨q5, e9, hh⟩ := h
  subst e9
  have h := hh
  clear hh
  refine cq_ild hX hC dX7_breakTo_13 h (fun z6 h => ?_)
  refine kv_calli [.int a0, .int z3, .int z6] (rest := []) (ci := 7) rfl hX hC h.1 (kt_X7_leaveTo l S t0 a0 z3 z6 _ h.2 E _) (cw_X7_53 hts (by omega) (by omega)) rfl hl.1 (Nat.le_of_ble_eq_true rfl) ⟨Nat.zero_le _, Nat.zero_le _⟩ dX7_breakTo_14 (fun r7 S7 H locs hC h => ?_)
  exact hret _ _ _ _ _ _ hC h dX7_breakTo_17
def wp_X7_cancelTo (t0 : Nat) (a0 : Int32) (a1 : Int32) (S : kS) (K : kS → Int32 → Prop) : Prop := hasO S t0 7 ∧ wp_X7_leaveTo t0 a0 (-1) a1 S (fun (S1 : kS) (r1 : Int32) => K S1 r1)
set_option maxHeartbeats 4000000 in
set_option maxRecDepth 100000 in
theorem kt_X7_cancelTo (l : Launch) (S : kS) (t0 : Nat) (a0 : Int32) (a1 : Int32) (K : kS → Int32 → Prop) (h : wp_X7_cancelTo t0 a0 a1 S K) : kMi l yX7_cancelTo cX7_cancelTo 3 (some .int) 2 48 [.ref t0, .int a0, .int a1] S K := by
  refine kv_ofi (own := RX7) (by decide) rfl (Nat.le_of_ble_eq_true rfl) ?_
  intro E p e R s m args below meth c A ls Q hRf hRl hX hC hl hret
  have hx := hX.1.1
  have hb := hX.1.2.1
  have hown := hX.1.2.2.2.1
  have hts := hX.1.2.2.2.2
  have hl : lv_has ls 3 [(0, .ref t0), (1, .int a0), (2, .int a1)] := hl
  unfold wp_X7_cancelTo at h
  refine lv_aload_n hx hb dX7_cancelTo_0 rfl (lv_at hl 0 rfl) ?_
  refine lv_iload_n hx hb dX7_cancelTo_1 rfl (lv_at hl 1 rfl) ?_
  refine lv_iconst (v := -1) hx hb dX7_cancelTo_2 (by decide) ?_
  refine lv_iload_n hx hb dX7_cancelTo_3 rfl (lv_at hl 2 rfl) ?_
  refine kv_calli [.int a0, .int (-1), .int a1] (rest := []) (ci := 7) rfl hX hC h.1 (kt_X7_leaveTo l S t0 a0 (-1) a1 _ h.2 E _) (cw_X7_53 hts (by omega) (by omega)) rfl hl.1 (Nat.le_of_ble_eq_true rfl) ⟨Nat.zero_le _, Nat.zero_le _⟩ dX7_cancelTo_4 (fun r1 S1 H locs hC h => ?_)
  exact hret _ _ _ _ _ _ hC h dX7_cancelTo_7
def wp_X7_continueTo (t0 : Nat) (a0 : Int32) (a1 : Int32) (S : kS) (K : kS → Int32 → Prop) : Prop := hasO S t0 7 ∧ ∀ z1 : Option Nat, z1 = S.2.1 50 t0 → ∃ q2 : Nat, z1 = some q2 ∧ hasA S q2 460 0 ∧ inR a1 460 ∧ ∀ z3 : Int32, z3 = S.2.2.1 q2 (ix a1) → hasO S t0 7 ∧ ∀ z4 : Option Nat, z4 = S.2.1 51 t0 → ∃ q5 : Nat, z4 = some q5 ∧ hasA S q5 460 0 ∧ inR a1 460 ∧ ∀ z6 : Int32, z6 = S.2.2.1 q5 (ix a1) → hasO S t0 7 ∧ wp_X7_leaveTo t0 a0 z3 z6 S (fun (S7 : kS) (r7 : Int32) => K S7 r7)
set_option maxHeartbeats 4000000 in
set_option maxRecDepth 100000 in
theorem kt_X7_continueTo (l : Launch) (S : kS) (t0 : Nat) (a0 : Int32) (a1 : Int32) (K : kS → Int32 → Prop) (h : wp_X7_continueTo t0 a0 a1 S K) : kMi l yX7_continueTo cX7_continueTo 3 (some .int) 2 48 [.ref t0, .int a0, .int a1] S K := by
  refine kv_ofi (own := RX7) (by decide) rfl (Nat.le_of_ble_eq_true rfl) ?_
  intro E p e R s m args below meth c A ls Q hRf hRl hX hC hl hret
  have hx := hX.1.1
  have hb := hX.1.2.1
  have hown := hX.1.2.2.2.1
  have hts := hX.1.2.2.2.2
  have hl : lv_has ls 3 [(0, .ref t0), (1, .int a0), (2, .int a1)] := hl
  unfold wp_X7_continueTo at h
  refine lv_aload_n hx hb dX7_continueTo_0 rfl (lv_at hl 0 rfl) ?_
  refine lv_iload_n hx hb dX7_continueTo_1 rfl (lv_at hl 1 rfl) ?_
  refine lv_aload_n hx hb dX7_continueTo_2 rfl (lv_at hl 0 rfl) ?_
  refine cq_getr (ci := 7) (k := 9) (f := 50) hX hC rfl in_X7 (by decide) wd_362 (fun _ h9 => h9) (fun _ _ => rfl) dX7_continueTo_3 h (fun z1 h => ?_)
  refine lv_iload_n hx hb dX7_continueTo_6 rfl (lv_at hl 2 rfl) ?_
  obtain ⟨q2, e9, hh⟩ := h
  subst e9
  have h := hh
  clear hh
  refine cq_ild hX hC dX7_continueTo_7 h (fun z3 h => ?_)
  refine lv_aload_n hx hb dX7_continueTo_8 rfl (lv_at hl 0 rfl) ?_
  refine cq_getr (ci := 7) (k := 10) (f := 51) hX hC rfl in_X7 (by decide) wd_365 (fun _ h9 => h9) (fun _ _ => rfl) dX7_continueTo_9 h (fun z4 h => ?_)
  refine lv_iload_n hx hb dX7_continueTo_12 rfl (lv_at hl 2 rfl) ?_
  obtain ⟨q5, e9, hh⟩ := h
  subst e9
  have h := hh
  clear hh
  refine cq_ild hX hC dX7_continueTo_13 h (fun z6 h => ?_)
  refine kv_calli [.int a0, .int z3, .int z6] (rest := []) (ci := 7) rfl hX hC h.1 (kt_X7_leaveTo l S t0 a0 z3 z6 _ h.2 E _) (cw_X7_53 hts (by omega) (by omega)) rfl hl.1 (Nat.le_of_ble_eq_true rfl) ⟨Nat.zero_le _, Nat.zero_le _⟩ dX7_continueTo_14 (fun r7 S7 H locs hC h => ?_)
  exact hret _ _ _ _ _ _ hC h dX7_continueTo_17
