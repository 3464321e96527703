theorem wd_251 : (Jvm.Cond.fieldLink "Sleepers$Runner" (244 : Nat) "Sleepers$Hall" "letterCount" "[I") ∈ tb := tb_at 251 (by decide +kernel) (by decide +kernel)
theorem wd_254 : (Jvm.Cond.fieldLink "Sleepers$Runner" (250 : Nat) "Sleepers$Hall" "lines" "[LSleepers$Line;") ∈ tb := tb_at 254 (by decide +kernel) (by decide +kernel)
theorem wd_418 : (Jvm.Cond.fieldLink "Sleepers$Hall" (103 : Nat) "Sleepers$Program" "start" "[I") ∈ tb := tb_at 418 (by decide +kernel) (by decide +kernel)
theorem wd_856 : (Jvm.Cond.instantiable "Sleepers$Task" (20 : Nat)) ∈ tb := tb_at 856 (by decide +kernel) (by decide +kernel)
theorem wd_857 : (Jvm.Cond.methodLink "Sleepers$Hall" (73 : Nat) ({ cls := "Sleepers$Task", name := "<init>", desc := "(I)V" } : Jvm.MethodName)) ∈ tb := tb_at 857 (by decide +kernel) (by decide +kernel)
theorem wd_858 : (Jvm.Cond.instanceMethod ({ cls := "Sleepers$Task", name := "<init>", desc := "(I)V" } : Jvm.MethodName)) ∈ tb := tb_at 858 (by decide +kernel) (by decide +kernel)
theorem wd_859 : (Jvm.Cond.code ({ cls := "Sleepers$Task", name := "<init>", desc := "(I)V" } : Jvm.MethodName) prog_11_method_1_code (2 : Nat) (Option.none : Option Jvm.ClassFile.FieldType)) ∈ tb := tb_at 859 (by decide +kernel) (by decide +kernel)
theorem wd_860 : (Jvm.Cond.methodLink "Sleepers$Task" (3 : Nat) ({ cls := "java/lang/Object", name := "<init>", desc := "()V" } : Jvm.MethodName)) ∈ tb := tb_at 860 (by decide +kernel) (by decide +kernel)
theorem wd_867 : (Jvm.Cond.fieldLink "Sleepers$Hall" (76 : Nat) "Sleepers$Task" "routine" "I") ∈ tb := tb_at 867 (by decide +kernel) (by decide +kernel)
theorem wd_883 : (Jvm.Cond.fieldLink "Sleepers$Hall" (93 : Nat) "Sleepers$Task" "at" "I") ∈ tb := tb_at 883 (by decide +kernel) (by decide +kernel)
theorem wd_891 : (Jvm.Cond.fieldLink "Sleepers$Hall" (108 : Nat) "Sleepers$Task" "pc" "I") ∈ tb := tb_at 891 (by decide +kernel) (by decide +kernel)
theorem wd_893 : (Jvm.Cond.fieldLink "Sleepers$Hall" (111 : Nat) "Sleepers$Task" "cells" "[I") ∈ tb := tb_at 893 (by decide +kernel) (by decide +kernel)
theorem wd_894 : (Jvm.Cond.fieldLink "Sleepers$Task" (15 : Nat) "Sleepers$Task" "leftBy" "[I") ∈ tb := tb_at 894 (by decide +kernel) (by decide +kernel)
theorem wd_896 : (Jvm.Cond.fieldLink "Sleepers$Task" (18 : Nat) "Sleepers$Task" "leftWith" "[I") ∈ tb := tb_at 896 (by decide +kernel) (by decide +kernel)
theorem wd_1046 : (Jvm.Cond.methodLink "Sleepers$Runner" (220 : Nat) ({ cls := "Sleepers$Hall", name := "newPart", desc := "(LSleepers$Task;I)LSleepers$Part;" } : Jvm.MethodName)) ∈ tb := tb_at 1046 (by decide +kernel) (by decide +kernel)
theorem wd_1047 : (Jvm.Cond.instanceMethod ({ cls := "Sleepers$Hall", name := "newPart", desc := "(LSleepers$Task;I)LSleepers$Part;" } : Jvm.MethodName)) ∈ tb := tb_at 1047 (by decide +kernel) (by decide +kernel)
theorem wd_1048 : (Jvm.Cond.selects "Sleepers$Hall" ({ cls := "Sleepers$Hall", name := "newPart", desc := "(LSleepers$Task;I)LSleepers$Part;" } : Jvm.MethodName) ({ cls := "Sleepers$Hall", name := "newPart", desc := "(LSleepers$Task;I)LSleepers$Part;" } : Jvm.MethodName)) ∈ tb := tb_at 1048 (by decide +kernel) (by decide +kernel)
theorem wd_1049 : (Jvm.Cond.code ({ cls := "Sleepers$Hall", name := "newPart", desc := "(LSleepers$Task;I)LSleepers$Part;" } : Jvm.MethodName) prog_3_method_8_code (4 : Nat) (Option.some (Jvm.ClassFile.FieldType.object "Sleepers$Part"))) ∈ tb := tb_at 1049 (by decide +kernel) (by decide +kernel)
theorem wd_1050 : (Jvm.Cond.classLink "Sleepers$Hall" (117 : Nat) "Sleepers$Part") ∈ tb := tb_at 1050 (by decide +kernel) (by decide +kernel)
theorem wd_1051 : (Jvm.Cond.instantiable "Sleepers$Part" (12 : Nat)) ∈ tb := tb_at 1051 (by decide +kernel) (by decide +kernel)
theorem wd_1053 : (Jvm.Cond.instanceMethod ({ cls := "Sleepers$Part", name := "<init>", desc := "()V" } : Jvm.MethodName)) ∈ tb := tb_at 1053 (by decide +kernel) (by decide +kernel)
theorem wd_1054 : (Jvm.Cond.code ({ cls := "Sleepers$Part", name := "<init>", desc := "()V" } : Jvm.MethodName) prog_6_method_1_code (1 : Nat) (Option.none : Option Jvm.ClassFile.FieldType)) ∈ tb := tb_at 1054 (by decide +kernel) (by decide +kernel)
theorem wd_1055 : (Jvm.Cond.methodLink "Sleepers$Part" (1 : Nat) ({ cls := "java/lang/Object", name := "<init>", desc := "()V" } : Jvm.MethodName)) ∈ tb := tb_at 1055 (by decide +kernel) (by decide +kernel)
theorem wd_1068 : (Jvm.Cond.fieldLink "Sleepers$Hall" (150 : Nat) "Sleepers$Part" "left" "I") ∈ tb := tb_at 1068 (by decide +kernel) (by decide +kernel)
theorem wd_1081 : (Jvm.Cond.fieldLink "Sleepers$Hall" (169 : Nat) "Sleepers$Part" "ahead" "LSleepers$Part;") ∈ tb := tb_at 1081 (by decide +kernel) (by decide +kernel)
theorem wd_1083 : (Jvm.Cond.fieldLink "Sleepers$Hall" (172 : Nat) "Sleepers$Part" "behind" "LSleepers$Part;") ∈ tb := tb_at 1083 (by decide +kernel) (by decide +kernel)
theorem wd_1109 : (Jvm.Cond.methodLink "Sleepers$Runner" (247 : Nat) ({ cls := "Sleepers$Hall", name := "takeLetter", desc := "(I)I" } : Jvm.MethodName)) ∈ tb := tb_at 1109 (by decide +kernel) (by decide +kernel)
theorem wd_1110 : (Jvm.Cond.instanceMethod ({ cls := "Sleepers$Hall", name := "takeLetter", desc := "(I)I" } : Jvm.MethodName)) ∈ tb := tb_at 1110 (by decide +kernel) (by decide +kernel)
theorem wd_1111 : (Jvm.Cond.selects "Sleepers$Hall" ({ cls := "Sleepers$Hall", name := "takeLetter", desc := "(I)I" } : Jvm.MethodName) ({ cls := "Sleepers$Hall", name := "takeLetter", desc := "(I)I" } : Jvm.MethodName)) ∈ tb := tb_at 1111 (by decide +kernel) (by decide +kernel)
theorem wd_1112 : (Jvm.Cond.code ({ cls := "Sleepers$Hall", name := "takeLetter", desc := "(I)I" } : Jvm.MethodName) prog_3_method_11_code (5 : Nat) (Option.some Jvm.ClassFile.FieldType.int)) ∈ tb := tb_at 1112 (by decide +kernel) (by decide +kernel)
theorem wd_1113 : (Jvm.Cond.methodLink "Sleepers$Runner" (224 : Nat) ({ cls := "Sleepers$Runner", name := "come", desc := "(LSleepers$Part;I)V" } : Jvm.MethodName)) ∈ tb := tb_at 1113 (by decide +kernel) (by decide +kernel)
theorem wd_1115 : (Jvm.Cond.instanceMethod ({ cls := "Sleepers$Runner", name := "come", desc := "(LSleepers$Part;I)V" } : Jvm.MethodName)) ∈ tb := tb_at 1115 (by decide +kernel) (by decide +kernel)
theorem wd_1116 : (Jvm.Cond.code ({ cls := "Sleepers$Runner", name := "come", desc := "(LSleepers$Part;I)V" } : Jvm.MethodName) prog_8_method_19_code (3 : Nat) (Option.none : Option Jvm.ClassFile.FieldType)) ∈ tb := tb_at 1116 (by decide +kernel) (by decide +kernel)
theorem wd_1125 : (Jvm.Cond.methodLink "Sleepers$Runner" (254 : Nat) ({ cls := "Sleepers$Line", name := "add", desc := "(LSleepers$Part;)V" } : Jvm.MethodName)) ∈ tb := tb_at 1125 (by decide +kernel) (by decide +kernel)
theorem sl_X6_come : Cond.selects RX6 yX6_come yX6_come ∈ tb := sl_of (y := ⟨"Sleepers$Runner", "come", "(LSleepers$Part;I)V"⟩) (n := 8) (by decide +kernel) (by decide +kernel)
theorem dX1_newPart_0 : decode cX1_newPart 0 = .ok (.aload_n 0, 1) := by decide +kernel
theorem dX1_newPart_1 : decode cX1_newPart 1 = .ok (.getfield 131, 3) := by decide +kernel
theorem dX1_newPart_4 : decode cX1_newPart 4 = .ok (.astore_n 3, 1) := by decide +kernel
theorem dX1_newPart_5 : decode cX1_newPart 5 = .ok (.aload_n 3, 1) := by decide +kernel
theorem dX1_newPart_6 : decode cX1_newPart 6 = .ok (.ifnonnull 14, 3) := by decide +kernel
theorem dX1_newPart_9 : decode cX1_newPart 9 = .ok (.new 117, 3) := by decide +kernel
theorem dX1_newPart_12 : decode cX1_newPart 12 = .ok (.dup, 1) := by decide +kernel
theorem dX1_newPart_13 : decode cX1_newPart 13 = .ok (.invokespecial 134, 3) := by decide +kernel
theorem dX1_newPart_16 : decode cX1_newPart 16 = .ok (.astore_n 3, 1) := by decide +kernel
theorem dX1_newPart_17 : decode cX1_newPart 17 = .ok (.goto 11, 3) := by decide +kernel
theorem dX1_newPart_20 : decode cX1_newPart 20 = .ok (.aload_n 0, 1) := by decide +kernel
theorem dX1_newPart_21 : decode cX1_newPart 21 = .ok (.aload_n 3, 1) := by decide +kernel
theorem dX1_newPart_22 : decode cX1_newPart 22 = .ok (.getfield 135, 3) := by decide +kernel
theorem dX1_newPart_25 : decode cX1_newPart 25 = .ok (.putfield 131, 3) := by decide +kernel
theorem dX1_newPart_28 : decode cX1_newPart 28 = .ok (.aload_n 3, 1) := by decide +kernel
theorem dX1_newPart_29 : decode cX1_newPart 29 = .ok (.aload_n 1, 1) := by decide +kernel
theorem dX1_newPart_30 : decode cX1_newPart 30 = .ok (.putfield 138, 3) := by decide +kernel
theorem dX1_newPart_33 : decode cX1_newPart 33 = .ok (.aload_n 3, 1) := by decide +kernel
theorem dX1_newPart_34 : decode cX1_newPart 34 = .ok (.iload_n 2, 1) := by decide +kernel
theorem dX1_newPart_35 : decode cX1_newPart 35 = .ok (.putfield 141, 3) := by decide +kernel
theorem dX1_newPart_38 : decode cX1_newPart 38 = .ok (.aload_n 3, 1) := by decide +kernel
theorem dX1_newPart_39 : decode cX1_newPart 39 = .ok (.iconst 0, 1) := by decide +kernel
theorem dX1_newPart_40 : decode cX1_newPart 40 = .ok (.putfield 144, 3) := by decide +kernel
theorem dX1_newPart_43 : decode cX1_newPart 43 = .ok (.aload_n 3, 1) := by decide +kernel
theorem dX1_newPart_44 : decode cX1_newPart 44 = .ok (.iconst 0, 1) := by decide +kernel
theorem dX1_newPart_45 : decode cX1_newPart 45 = .ok (.putfield 147, 3) := by decide +kernel
theorem dX1_newPart_48 : decode cX1_newPart 48 = .ok (.aload_n 3, 1) := by decide +kernel
theorem dX1_newPart_49 : decode cX1_newPart 49 = .ok (.iconst 0, 1) := by decide +kernel
theorem dX1_newPart_50 : decode cX1_newPart 50 = .ok (.putfield 150, 3) := by decide +kernel
theorem dX1_newPart_53 : decode cX1_newPart 53 = .ok (.aload_n 3, 1) := by decide +kernel
theorem dX1_newPart_54 : decode cX1_newPart 54 = .ok (.iconst 0, 1) := by decide +kernel
theorem dX1_newPart_55 : decode cX1_newPart 55 = .ok (.putfield 153, 3) := by decide +kernel
theorem dX1_newPart_58 : decode cX1_newPart 58 = .ok (.aload_n 3, 1) := by decide +kernel
theorem dX1_newPart_59 : decode cX1_newPart 59 = .ok (.aconst_null, 1) := by decide +kernel
theorem dX1_newPart_60 : decode cX1_newPart 60 = .ok (.putfield 156, 3) := by decide +kernel
theorem dX1_newPart_63 : decode cX1_newPart 63 = .ok (.aload_n 3, 1) := by decide +kernel
theorem dX1_newPart_64 : decode cX1_newPart 64 = .ok (.aload_n 1, 1) := by decide +kernel
theorem dX1_newPart_65 : decode cX1_newPart 65 = .ok (.getfield 159, 3) := by decide +kernel
theorem dX1_newPart_68 : decode cX1_newPart 68 = .ok (.putfield 162, 3) := by decide +kernel
theorem dX1_newPart_71 : decode cX1_newPart 71 = .ok (.aload_n 3, 1) := by decide +kernel
theorem dX1_newPart_72 : decode cX1_newPart 72 = .ok (.aload_n 1, 1) := by decide +kernel
theorem dX1_newPart_73 : decode cX1_newPart 73 = .ok (.getfield 163, 3) := by decide +kernel
theorem dX1_newPart_76 : decode cX1_newPart 76 = .ok (.putfield 135, 3) := by decide +kernel
theorem dX1_newPart_79 : decode cX1_newPart 79 = .ok (.aload_n 3, 1) := by decide +kernel
theorem dX1_newPart_80 : decode cX1_newPart 80 = .ok (.aconst_null, 1) := by decide +kernel
theorem dX1_newPart_81 : decode cX1_newPart 81 = .ok (.putfield 166, 3) := by decide +kernel
theorem dX1_newPart_84 : decode cX1_newPart 84 = .ok (.aload_n 3, 1) := by decide +kernel
theorem dX1_newPart_85 : decode cX1_newPart 85 = .ok (.aconst_null, 1) := by decide +kernel
theorem dX1_newPart_86 : decode cX1_newPart 86 = .ok (.putfield 169, 3) := by decide +kernel
theorem dX1_newPart_89 : decode cX1_newPart 89 = .ok (.aload_n 3, 1) := by decide +kernel
theorem dX1_newPart_90 : decode cX1_newPart 90 = .ok (.aconst_null, 1) := by decide +kernel
theorem dX1_newPart_91 : decode cX1_newPart 91 = .ok (.putfield 172, 3) := by decide +kernel
theorem dX1_newPart_94 : decode cX1_newPart 94 = .ok (.aload_n 1, 1) := by decide +kernel
theorem dX1_newPart_95 : decode cX1_newPart 95 = .ok (.aload_n 3, 1) := by decide +kernel
theorem dX1_newPart_96 : decode cX1_newPart 96 = .ok (.putfield 163, 3) := by decide +kernel
theorem dX1_newPart_99 : decode cX1_newPart 99 = .ok (.aload_n 1, 1) := by decide +kernel
theorem dX1_newPart_100 : decode cX1_newPart 100 = .ok (.getfield 175, 3) := by decide +kernel
theorem dX1_newPart_103 : decode cX1_newPart 103 = .ok (.ifnonnull 8, 3) := by decide +kernel
theorem dX1_newPart_106 : decode cX1_newPart 106 = .ok (.aload_n 1, 1) := by decide +kernel
theorem dX1_newPart_107 : decode cX1_newPart 107 = .ok (.aload_n 3, 1) := by decide +kernel
theorem dX1_newPart_108 : decode cX1_newPart 108 = .ok (.putfield 175, 3) := by decide +kernel
theorem dX1_newPart_111 : decode cX1_newPart 111 = .ok (.aload_n 3, 1) := by decide +kernel
theorem dX1_newPart_112 : decode cX1_newPart 112 = .ok (.areturn, 1) := by decide +kernel
theorem dX1_newTask_0 : decode cX1_newTask 0 = .ok (.aload_n 0, 1) := by decide +kernel
theorem dX1_newTask_1 : decode cX1_newTask 1 = .ok (.getfield 52, 3) := by decide +kernel
theorem dX1_newTask_4 : decode cX1_newTask 4 = .ok (.sipush 200, 3) := by decide +kernel
theorem dX1_newTask_7 : decode cX1_newTask 7 = .ok (.if_icmp .lt 5, 3) := by decide +kernel
theorem dX1_newTask_10 : decode cX1_newTask 10 = .ok (.aconst_null, 1) := by decide +kernel
theorem dX1_newTask_11 : decode cX1_newTask 11 = .ok (.areturn, 1) := by decide +kernel
theorem dX1_newTask_12 : decode cX1_newTask 12 = .ok (.aload_n 0, 1) := by decide +kernel
theorem dX1_newTask_13 : decode cX1_newTask 13 = .ok (.getfield 11, 3) := by decide +kernel
theorem dX1_newTask_16 : decode cX1_newTask 16 = .ok (.aload_n 0, 1) := by decide +kernel
theorem dX1_newTask_17 : decode cX1_newTask 17 = .ok (.getfield 52, 3) := by decide +kernel
theorem dX1_newTask_20 : decode cX1_newTask 20 = .ok (.aaload, 1) := by decide +kernel
theorem dX1_newTask_21 : decode cX1_newTask 21 = .ok (.astore_n 3, 1) := by decide +kernel
theorem dX1_newTask_22 : decode cX1_newTask 22 = .ok (.aload_n 3, 1) := by decide +kernel
theorem dX1_newTask_23 : decode cX1_newTask 23 = .ok (.ifnonnull 25, 3) := by decide +kernel
theorem dX1_newTask_26 : decode cX1_newTask 26 = .ok (.new 9, 3) := by decide +kernel
theorem dX1_newTask_29 : decode cX1_newTask 29 = .ok (.dup, 1) := by decide +kernel
theorem dX1_newTask_30 : decode cX1_newTask 30 = .ok (.aload_n 0, 1) := by decide +kernel
theorem dX1_newTask_31 : decode cX1_newTask 31 = .ok (.getfield 52, 3) := by decide +kernel
theorem dX1_newTask_34 : decode cX1_newTask 34 = .ok (.invokespecial 73, 3) := by decide +kernel
theorem dX1_newTask_37 : decode cX1_newTask 37 = .ok (.astore_n 3, 1) := by decide +kernel
theorem dX1_newTask_38 : decode cX1_newTask 38 = .ok (.aload_n 0, 1) := by decide +kernel
theorem dX1_newTask_39 : decode cX1_newTask 39 = .ok (.getfield 11, 3) := by decide +kernel
theorem dX1_newTask_42 : decode cX1_newTask 42 = .ok (.aload_n 0, 1) := by decide +kernel
theorem dX1_newTask_43 : decode cX1_newTask 43 = .ok (.getfield 52, 3) := by decide +kernel
theorem dX1_newTask_46 : decode cX1_newTask 46 = .ok (.aload_n 3, 1) := by decide +kernel
theorem dX1_newTask_47 : decode cX1_newTask 47 = .ok (.aastore, 1) := by decide +kernel
theorem dX1_newTask_48 : decode cX1_newTask 48 = .ok (.aload_n 0, 1) := by decide +kernel
theorem dX1_newTask_49 : decode cX1_newTask 49 = .ok (.dup, 1) := by decide +kernel
theorem dX1_newTask_50 : decode cX1_newTask 50 = .ok (.getfield 52, 3) := by decide +kernel
theorem dX1_newTask_53 : decode cX1_newTask 53 = .ok (.iconst 1, 1) := by decide +kernel
theorem dX1_newTask_54 : decode cX1_newTask 54 = .ok (.iadd, 1) := by decide +kernel
theorem dX1_newTask_55 : decode cX1_newTask 55 = .ok (.putfield 52, 3) := by decide +kernel
theorem dX1_newTask_58 : decode cX1_newTask 58 = .ok (.aload_n 3, 1) := by decide +kernel
theorem dX1_newTask_59 : decode cX1_newTask 59 = .ok (.iload_n 1, 1) := by decide +kernel
theorem dX1_newTask_60 : decode cX1_newTask 60 = .ok (.putfield 76, 3) := by decide +kernel
theorem dX1_newTask_63 : decode cX1_newTask 63 = .ok (.aload_n 3, 1) := by decide +kernel
theorem dX1_newTask_64 : decode cX1_newTask 64 = .ok (.aload_n 2, 1) := by decide +kernel
theorem dX1_newTask_65 : decode cX1_newTask 65 = .ok (.putfield 79, 3) := by decide +kernel
theorem dX1_newTask_68 : decode cX1_newTask 68 = .ok (.aload_n 3, 1) := by decide +kernel
theorem dX1_newTask_69 : decode cX1_newTask 69 = .ok (.aconst_null, 1) := by decide +kernel
theorem dX1_newTask_70 : decode cX1_newTask 70 = .ok (.putfield 83, 3) := by decide +kernel
theorem dX1_newTask_73 : decode cX1_newTask 73 = .ok (.aload_n 3, 1) := by decide +kernel
theorem dX1_newTask_74 : decode cX1_newTask 74 = .ok (.iconst 0, 1) := by decide +kernel
theorem dX1_newTask_75 : decode cX1_newTask 75 = .ok (.putfield 87, 3) := by decide +kernel
theorem dX1_newTask_78 : decode cX1_newTask 78 = .ok (.aload_n 3, 1) := by decide +kernel
theorem dX1_newTask_79 : decode cX1_newTask 79 = .ok (.iconst 0, 1) := by decide +kernel
theorem dX1_newTask_80 : decode cX1_newTask 80 = .ok (.putfield 90, 3) := by decide +kernel
theorem dX1_newTask_83 : decode cX1_newTask 83 = .ok (.aload_n 3, 1) := by decide +kernel
theorem dX1_newTask_84 : decode cX1_newTask 84 = .ok (.iconst 0, 1) := by decide +kernel
theorem dX1_newTask_85 : decode cX1_newTask 85 = .ok (.putfield 93, 3) := by decide +kernel
theorem dX1_newTask_88 : decode cX1_newTask 88 = .ok (.aload_n 3, 1) := by decide +kernel
theorem dX1_newTask_89 : decode cX1_newTask 89 = .ok (.iconst 0, 1) := by decide +kernel
theorem dX1_newTask_90 : decode cX1_newTask 90 = .ok (.putfield 96, 3) := by decide +kernel
theorem dX1_newTask_93 : decode cX1_newTask 93 = .ok (.aload_n 3, 1) := by decide +kernel
theorem dX1_newTask_94 : decode cX1_newTask 94 = .ok (.iconst 0, 1) := by decide +kernel
theorem dX1_newTask_95 : decode cX1_newTask 95 = .ok (.putfield 99, 3) := by decide +kernel
theorem dX1_newTask_98 : decode cX1_newTask 98 = .ok (.aload_n 3, 1) := by decide +kernel
theorem dX1_newTask_99 : decode cX1_newTask 99 = .ok (.aload_n 0, 1) := by decide +kernel
theorem dX1_newTask_100 : decode cX1_newTask 100 = .ok (.getfield 48, 3) := by decide +kernel
theorem dX1_newTask_103 : decode cX1_newTask 103 = .ok (.getfield 103, 3) := by decide +kernel
theorem dX1_newTask_106 : decode cX1_newTask 106 = .ok (.iload_n 1, 1) := by decide +kernel
theorem dX1_newTask_107 : decode cX1_newTask 107 = .ok (.iaload, 1) := by decide +kernel
theorem dX1_newTask_108 : decode cX1_newTask 108 = .ok (.putfield 108, 3) := by decide +kernel
theorem dX1_newTask_111 : decode cX1_newTask 111 = .ok (.iconst 0, 1) := by decide +kernel
theorem dX1_newTask_112 : decode cX1_newTask 112 = .ok (.istore 4, 2) := by decide +kernel
theorem dX1_newTask_114 : decode cX1_newTask 114 = .ok (.iload 4, 2) := by decide +kernel
theorem dX1_newTask_116 : decode cX1_newTask 116 = .ok (.bipush 12, 2) := by decide +kernel
theorem dX1_newTask_118 : decode cX1_newTask 118 = .ok (.if_icmp .ge 17, 3) := by decide +kernel
theorem dX1_newTask_121 : decode cX1_newTask 121 = .ok (.aload_n 3, 1) := by decide +kernel
theorem dX1_newTask_122 : decode cX1_newTask 122 = .ok (.getfield 111, 3) := by decide +kernel
theorem dX1_newTask_125 : decode cX1_newTask 125 = .ok (.iload 4, 2) := by decide +kernel
theorem dX1_newTask_127 : decode cX1_newTask 127 = .ok (.iconst 0, 1) := by decide +kernel
theorem dX1_newTask_128 : decode cX1_newTask 128 = .ok (.iastore, 1) := by decide +kernel
theorem dX1_newTask_129 : decode cX1_newTask 129 = .ok (.iinc 4 1, 3) := by decide +kernel
theorem dX1_newTask_132 : decode cX1_newTask 132 = .ok (.goto (-18), 3) := by decide +kernel
theorem dX1_newTask_135 : decode cX1_newTask 135 = .ok (.aload_n 3, 1) := by decide +kernel
theorem dX1_newTask_136 : decode cX1_newTask 136 = .ok (.iconst 0, 1) := by decide +kernel
theorem dX1_newTask_137 : decode cX1_newTask 137 = .ok (.putfield 114, 3) := by decide +kernel
theorem dX1_newTask_140 : decode cX1_newTask 140 = .ok (.aload_n 3, 1) := by decide +kernel
theorem dX1_newTask_141 : decode cX1_newTask 141 = .ok (.iconst 0, 1) := by decide +kernel
theorem dX1_newTask_142 : decode cX1_newTask 142 = .ok (.putfield 119, 3) := by decide +kernel
theorem dX1_newTask_145 : decode cX1_newTask 145 = .ok (.aload_n 0, 1) := by decide +kernel
theorem dX1_newTask_146 : decode cX1_newTask 146 = .ok (.aload_n 3, 1) := by decide +kernel
theorem dX1_newTask_147 : decode cX1_newTask 147 = .ok (.invokevirtual 122, 3) := by decide +kernel
theorem dX1_newTask_150 : decode cX1_newTask 150 = .ok (.aload_n 3, 1) := by decide +kernel
theorem dX1_newTask_151 : decode cX1_newTask 151 = .ok (.areturn, 1) := by decide +kernel
theorem dX4_init_0 : decode cX4_init 0 = .ok (.aload_n 0, 1) := by decide +kernel
theorem dX4_init_1 : decode cX4_init 1 = .ok (.invokespecial 1, 3) := by decide +kernel
theorem dX4_init_4 : decode cX4_init 4 = .ok (.return_, 1) := by decide +kernel
theorem dX6_beginLetter_0 : decode cX6_beginLetter 0 = .ok (.aload_n 0, 1) := by decide +kernel
theorem dX6_beginLetter_1 : decode cX6_beginLetter 1 = .ok (.getfield 22, 3) := by decide +kernel
theorem dX6_beginLetter_4 : decode cX6_beginLetter 4 = .ok (.aload_n 1, 1) := by decide +kernel
theorem dX6_beginLetter_5 : decode cX6_beginLetter 5 = .ok (.iconst 0, 1) := by decide +kernel
theorem dX6_beginLetter_6 : decode cX6_beginLetter 6 = .ok (.invokevirtual 220, 3) := by decide +kernel
theorem dX6_beginLetter_9 : decode cX6_beginLetter 9 = .ok (.astore_n 3, 1) := by decide +kernel
theorem dX6_beginLetter_10 : decode cX6_beginLetter 10 = .ok (.aload_n 0, 1) := by decide +kernel
theorem dX6_beginLetter_11 : decode cX6_beginLetter 11 = .ok (.getfield 22, 3) := by decide +kernel
theorem dX6_beginLetter_14 : decode cX6_beginLetter 14 = .ok (.getfield 244, 3) := by decide +kernel
theorem dX6_beginLetter_17 : decode cX6_beginLetter 17 = .ok (.iload_n 2, 1) := by decide +kernel
theorem dX6_beginLetter_18 : decode cX6_beginLetter 18 = .ok (.iaload, 1) := by decide +kernel
theorem dX6_beginLetter_19 : decode cX6_beginLetter 19 = .ok (.ifCond .le 19, 3) := by decide +kernel
theorem dX6_beginLetter_22 : decode cX6_beginLetter 22 = .ok (.aload_n 0, 1) := by decide +kernel
theorem dX6_beginLetter_23 : decode cX6_beginLetter 23 = .ok (.aload_n 3, 1) := by decide +kernel
theorem dX6_beginLetter_24 : decode cX6_beginLetter 24 = .ok (.aload_n 0, 1) := by decide +kernel
theorem dX6_beginLetter_25 : decode cX6_beginLetter 25 = .ok (.getfield 22, 3) := by decide +kernel
theorem dX6_beginLetter_28 : decode cX6_beginLetter 28 = .ok (.iload_n 2, 1) := by decide +kernel
theorem dX6_beginLetter_29 : decode cX6_beginLetter 29 = .ok (.invokevirtual 247, 3) := by decide +kernel
theorem dX6_beginLetter_32 : decode cX6_beginLetter 32 = .ok (.invokevirtual 224, 3) := by decide +kernel
theorem dX6_beginLetter_35 : decode cX6_beginLetter 35 = .ok (.goto 16, 3) := by decide +kernel
theorem dX6_beginLetter_38 : decode cX6_beginLetter 38 = .ok (.aload_n 0, 1) := by decide +kernel
theorem dX6_beginLetter_39 : decode cX6_beginLetter 39 = .ok (.getfield 22, 3) := by decide +kernel
theorem dX6_beginLetter_42 : decode cX6_beginLetter 42 = .ok (.getfield 250, 3) := by decide +kernel
theorem dX6_beginLetter_45 : decode cX6_beginLetter 45 = .ok (.iload_n 2, 1) := by decide +kernel
theorem dX6_beginLetter_46 : decode cX6_beginLetter 46 = .ok (.aaload, 1) := by decide +kernel
theorem dX6_beginLetter_47 : decode cX6_beginLetter 47 = .ok (.aload_n 3, 1) := by decide +kernel
theorem dX6_beginLetter_48 : decode cX6_beginLetter 48 = .ok (.invokevirtual 254, 3) := by decide +kernel
theorem dX6_beginLetter_51 : decode cX6_beginLetter 51 = .ok (.return_, 1) := by decide +kernel
theorem dX6_beginTick_0 : decode cX6_beginTick 0 = .ok (.aload_n 0, 1) := by decide +kernel
theorem dX6_beginTick_1 : decode cX6_beginTick 1 = .ok (.getfield 22, 3) := by decide +kernel
theorem dX6_beginTick_4 : decode cX6_beginTick 4 = .ok (.aload_n 1, 1) := by decide +kernel
theorem dX6_beginTick_5 : decode cX6_beginTick 5 = .ok (.iconst 2, 1) := by decide +kernel
theorem dX6_beginTick_6 : decode cX6_beginTick 6 = .ok (.invokevirtual 220, 3) := by decide +kernel
theorem dX6_beginTick_9 : decode cX6_beginTick 9 = .ok (.astore_n 3, 1) := by decide +kernel
theorem dX6_beginTick_10 : decode cX6_beginTick 10 = .ok (.iload_n 2, 1) := by decide +kernel
theorem dX6_beginTick_11 : decode cX6_beginTick 11 = .ok (.ifCond .gt 12, 3) := by decide +kernel
theorem dX6_beginTick_14 : decode cX6_beginTick 14 = .ok (.aload_n 0, 1) := by decide +kernel
theorem dX6_beginTick_15 : decode cX6_beginTick 15 = .ok (.aload_n 3, 1) := by decide +kernel
theorem dX6_beginTick_16 : decode cX6_beginTick 16 = .ok (.iconst 0, 1) := by decide +kernel
theorem dX6_beginTick_17 : decode cX6_beginTick 17 = .ok (.invokevirtual 224, 3) := by decide +kernel
theorem dX6_beginTick_20 : decode cX6_beginTick 20 = .ok (.goto 12, 3) := by decide +kernel
theorem dX6_beginTick_23 : decode cX6_beginTick 23 = .ok (.aload_n 0, 1) := by decide +kernel
theorem dX6_beginTick_24 : decode cX6_beginTick 24 = .ok (.getfield 22, 3) := by decide +kernel
theorem dX6_beginTick_27 : decode cX6_beginTick 27 = .ok (.aload_n 3, 1) := by decide +kernel
theorem dX6_beginTick_28 : decode cX6_beginTick 28 = .ok (.iload_n 2, 1) := by decide +kernel
theorem dX6_beginTick_29 : decode cX6_beginTick 29 = .ok (.invokevirtual 260, 3) := by decide +kernel
theorem dX6_beginTick_32 : decode cX6_beginTick 32 = .ok (.return_, 1) := by decide +kernel
theorem dX9_init_0 : decode cX9_init 0 = .ok (.aload_n 0, 1) := by decide +kernel
theorem dX9_init_1 : decode cX9_init 1 = .ok (.invokespecial 3, 3) := by decide +kernel
theorem dX9_init_4 : decode cX9_init 4 = .ok (.aload_n 0, 1) := by decide +kernel
theorem dX9_init_5 : decode cX9_init 5 = .ok (.bipush 12, 2) := by decide +kernel
theorem dX9_init_7 : decode cX9_init 7 = .ok (.newarray .int, 2) := by decide +kernel
theorem dX9_init_9 : decode cX9_init 9 = .ok (.putfield 9, 3) := by decide +kernel
theorem dX9_init_12 : decode cX9_init 12 = .ok (.aload_n 0, 1) := by decide +kernel
theorem dX9_init_13 : decode cX9_init 13 = .ok (.bipush 10, 2) := by decide +kernel
theorem dX9_init_15 : decode cX9_init 15 = .ok (.newarray .int, 2) := by decide +kernel
theorem dX9_init_17 : decode cX9_init 17 = .ok (.putfield 15, 3) := by decide +kernel
theorem dX9_init_20 : decode cX9_init 20 = .ok (.aload_n 0, 1) := by decide +kernel
theorem dX9_init_21 : decode cX9_init 21 = .ok (.bipush 10, 2) := by decide +kernel
theorem dX9_init_23 : decode cX9_init 23 = .ok (.newarray .int, 2) := by decide +kernel
theorem dX9_init_25 : decode cX9_init 25 = .ok (.putfield 18, 3) := by decide +kernel
theorem dX9_init_28 : decode cX9_init 28 = .ok (.aload_n 0, 1) := by decide +kernel
theorem dX9_init_29 : decode cX9_init 29 = .ok (.iload_n 1, 1) := by decide +kernel
theorem dX9_init_30 : decode cX9_init 30 = .ok (.putfield 21, 3) := by decide +kernel
theorem dX9_init_33 : decode cX9_init 33 = .ok (.return_, 1) := by decide +kernel
def wp_X4_init (t0 : Nat) (S : kS) (K : kS → Prop) : Prop := K S
set_option maxHeartbeats 4000000 in
set_option maxRecDepth 100000 in
theorem kt_X4_init (l : Launch) (S : kS) (t0 : Nat) (K : kS → Prop) (h : wp_X4_init t0 S K) : kMv l yX4_init cX4_init 1 none 1 12 [.ref t0] S K := by
  refine kv_ofv (own := RX4) (by decide) rfl (Nat.le_of_ble_eq_true rfl) ?_
  intro E p e R s m args below meth c A ls Q hRf hRl hX hC hl hret
  have hx := hX.1.1
  have hb := hX.1.2.1
  have hown := hX.1.2.2.2.1
  have hts := hX.1.2.2.2.2
  have hl : lv_has ls 1 [(0, .ref t0)] := hl
  unfold wp_X4_init at h
  refine lv_aload_n hx hb dX4_init_0 rfl (lv_at hl 0 rfl) ?_
  refine W.objInit hx hb hown (hts _ wd_1055) (hts _ wd_30) (hts _ wd_obj) rfl (by rw [hX.1.2.2.1]; exact hl.1) rfl dX4_init_1 (by omega) (by show 2 * 0 + 0 + 12 ≤ R.locals; omega) ?_
  refine W.eq (g2 := F0 m 4 ls []) rfl ?_
  exact hret _ _ _ _ _ hC h dX4_init_4
theorem km_X4_init (t0 : Nat) : KmV [] [] [] [] [] (wp_X4_init t0) := by
  intro S0 K K' hk h
  have hF : KF [] [] [] [] [] S0 S0 := KF_rf
  unfold wp_X4_init at h ⊢
  exact hk _ hF h
def wp_X9_init (t0 : Nat) (a0 : Int32) (S : kS) (K : kS → Prop) : Prop := ∀ q1 : Nat, (∀ k : cK, (q1, k) ∉ S.2.2.2.2.2) → ∀ S2 : kS, S2 = cNw S q1 (.inr (12, 0)) → hasO S2 t0 9 ∧ ∀ S3 : kS, S3 = cR S2 58 t0 (some q1) → ∀ q4 : Nat, (∀ k : cK, (q4, k) ∉ S3.2.2.2.2.2) → ∀ S5 : kS, S5 = cNw S3 q4 (.inr (10, 0)) → hasO S5 t0 9 ∧ ∀ S6 : kS, S6 = cR S5 59 t0 (some q4) → ∀ q7 : Nat, (∀ k : cK, (q7, k) ∉ S6.2.2.2.2.2) → ∀ S8 : kS, S8 = cNw S6 q7 (.inr (10, 0)) → hasO S8 t0 9 ∧ ∀ S9 : kS, S9 = cR S8 60 t0 (some q7) → hasO S9 t0 9 ∧ ∀ S10 : kS, S10 = cI S9 28 t0 a0 → K S10
set_option maxHeartbeats 4000000 in
set_option maxRecDepth 100000 in
theorem kt_X9_init (l : Launch) (S : kS) (t0 : Nat) (a0 : Int32) (K : kS → Prop) (h : wp_X9_init t0 a0 S K) : nMv l yX9_init cX9_init 2 none 1 12 3 [.ref t0, .int a0] S K := by
  refine nv_ofv (own := RX9) (by decide) rfl (Nat.le_of_ble_eq_true rfl) ?_
  intro E p e R s m args below meth c A ls Q hRf hRl hRc hRs hX hC hl hmL hini hret
  obtain ⟨n0, hn⟩ : ∃ n0, cnt S = n0 := ⟨_, rfl⟩
  rw [hn] at hret ⊢
  have hx := hX.1.1
  have hb := hX.1.2.1
  have hown := hX.1.2.2.2.1
  have hts := hX.1.2.2.2.2
  have hl : lv_has ls 2 [(0, .ref t0), (1, .int a0)] := hl
  unfold wp_X9_init at h
  refine lv_aload_n hx hb dX9_init_0 rfl (lv_at hl 0 rfl) ?_
  refine W.objInit hx hb hown (hts _ wd_860) (hts _ wd_30) (hts _ wd_obj) rfl (by rw [hX.1.2.2.1]; exact hl.1) rfl dX9_init_1 (by omega) (by show 2 * 0 + 0 + 12 ≤ R.locals; omega) ?_
  refine W.eq (g2 := F0 m 4 ls []) rfl ?_
  refine lv_aload_n hx hb dX9_init_4 rfl (lv_at hl 0 rfl) ?_
  refine lv_bipush (v := 12) hx hb dX9_init_5 (by decide) ?_
  refine cq_newa (N := 12) hX hC wd_121 (by decide) (by decide) (by decide) (by omega) (by omega) dX9_init_7 (fun q9 f9 S9 e9 => And.intro (h q9 f9 S9 e9) (show cnt S9 = n0 + 1 by rw [e9, cnt_N, hn])) (fun q1 S2 H hC hh => ?_)
  obtain ⟨h, hn⟩ := hh
  refine W.widen (k := n0 + 1 - n0) (n := 20 * (n0 + 1 - n0)) (by omega) (by omega) ?_
  refine cq_putFr (v := q1) (ci := 9) (k := 11) (f := 58) hX hC rfl in_X9 (by decide) wd_892 (fun _ h9 => h9) tyX9 tyX9_ok nmX9 rfl (hini rfl) rfl rfl rfl (fun _ _ => Nat.le_of_ble_eq_true rfl) (fun _ _ _ => rfl) dX9_init_9 h.1 (fun S9 e9 => And.intro (h.2 S9 e9) (show cnt S9 = n0 + 1 by rw [e9]; exact hn)) (fun S3 H locs hC hh => ?_)
  obtain ⟨h, hn⟩ := hh
  refine lv_aload_n hx hb dX9_init_12 rfl (lv_at hl 0 rfl) ?_
  refine lv_bipush (v := 10) hx hb dX9_init_13 (by decide) ?_
  refine cq_newa (N := 10) hX hC wd_121 (by decide) (by decide) (by decide) (by omega) (by omega) dX9_init_15 (fun q9 f9 S9 e9 => And.intro (h q9 f9 S9 e9) (show cnt S9 = n0 + 1 + 1 by rw [e9, cnt_N, hn])) (fun q4 S5 H hC hh => ?_)
  obtain ⟨h, hn⟩ := hh
  refine W.widen (k := n0 + 1 + 1 - n0) (n := 20 * (n0 + 1 + 1 - n0)) (by omega) (by omega) ?_
  refine cq_putFr (v := q4) (ci := 9) (k := 12) (f := 59) hX hC rfl in_X9 (by decide) wd_894 (fun _ h9 => h9) tyX9 tyX9_ok nmX9 rfl (hini rfl) rfl rfl rfl (fun _ _ => Nat.le_of_ble_eq_true rfl) (fun _ _ _ => rfl) dX9_init_17 h.1 (fun S9 e9 => And.intro (h.2 S9 e9) (show cnt S9 = n0 + 1 + 1 by rw [e9]; exact hn)) (fun S6 H locs hC hh => ?_)
  obtain ⟨h, hn⟩ := hh
  refine lv_aload_n hx hb dX9_init_20 rfl (lv_at hl 0 rfl) ?_
  refine lv_bipush (v := 10) hx hb dX9_init_21 (by decide) ?_
  refine cq_newa (N := 10) hX hC wd_121 (by decide) (by decide) (by decide) (by omega) (by omega) dX9_init_23 (fun q9 f9 S9 e9 => And.intro (h q9 f9 S9 e9) (show cnt S9 = n0 + 1 + 1 + 1 by rw [e9, cnt_N, hn])) (fun q7 S8 H hC hh => ?_)
  obtain ⟨h, hn⟩ := hh
  refine W.widen (k := n0 + 1 + 1 + 1 - n0) (n := 20 * (n0 + 1 + 1 + 1 - n0)) (by omega) (by omega) ?_
  refine cq_putFr (v := q7) (ci := 9) (k := 13) (f := 60) hX hC rfl in_X9 (by decide) wd_896 (fun _ h9 => h9) tyX9 tyX9_ok nmX9 rfl (hini rfl) rfl rfl rfl (fun _ _ => Nat.le_of_ble_eq_true rfl) (fun _ _ _ => rfl) dX9_init_25 h.1 (fun S9 e9 => And.intro (h.2 S9 e9) (show cnt S9 = n0 + 1 + 1 + 1 by rw [e9]; exact hn)) (fun S9 H locs hC hh => ?_)
  obtain ⟨h, hn⟩ := hh
  refine lv_aload_n hx hb dX9_init_28 rfl (lv_at hl 0 rfl) ?_
  refine lv_iload_n hx hb dX9_init_29 rfl (lv_at hl 1 rfl) ?_
  refine cq_putFi (v := a0) (ci := 9) (k := 0) (f := 28) hX hC rfl in_X9 (by decide) wd_861 (fun _ h9 => h9) tyX9 tyX9_ok nmX9 rfl (hini rfl) rfl rfl rfl (fun _ _ => Nat.le_of_ble_eq_true rfl) (fun _ _ _ => rfl) dX9_init_30 h.1 (fun S9 e9 => And.intro (h.2 S9 e9) (show cnt S9 = n0 + 1 + 1 + 1 by rw [e9]; exact hn)) (fun S10 H locs hC hh => ?_)
  obtain ⟨h, hn⟩ := hh
  exact hret _ (n0 + 1 + 1 + 1) _ _ _ _ hC hn (by omega) (by omega) h dX9_init_33
def wp_X1_newPart_111 (K : kS → Option Nat → Prop) (x3 : Nat) (S : kS) : Prop := K S (some x3)
def wp_X1_newPart_28 (K : kS → Option Nat → Prop) (x1 : Nat) (x2 : Int32) (x3 : Nat) (S : kS) : Prop := hasO S x3 4 ∧ ∀ S8 : kS, S8 = cR S 21 x3 (some x1) → hasO S8 x3 4 ∧ ∀ S9 : kS, S9 = cI S8 12 x3 x2 → hasO S9 x3 4 ∧ ∀ S10 : kS, S10 = cI S9 13 x3 0 → hasO S10 x3 4 ∧ ∀ S11 : kS, S11 = cI S10 14 x3 0 → hasO S11 x3 4 ∧ ∀ S12 : kS, S12 = cI S11 15 x3 0 → hasO S12 x3 4 ∧ ∀ S13 : kS, S13 = cI S12 16 x3 0 → hasO S13 x3 4 ∧ ∀ S14 : kS, S14 = cR S13 22 x3 none → hasO S14 x1 9 ∧ ∀ z15 : Option Nat, z15 = S14.2.1 63 x1 → hasO S14 x3 4 ∧ ∀ S16 : kS, S16 = cR S14 23 x3 z15 → hasO S16 x1 9 ∧ ∀ z17 : Option Nat, z17 = S16.2.1 61 x1 → hasO S16 x3 4 ∧ ∀ S18 : kS, S18 = cR S16 24 x3 z17 → hasO S18 x3 4 ∧ ∀ S19 : kS, S19 = cR S18 25 x3 none → hasO S19 x3 4 ∧ ∀ S20 : kS, S20 = cR S19 26 x3 none → hasO S20 x3 4 ∧ ∀ S21 : kS, S21 = cR S20 27 x3 none → hasO S21 x1 9 ∧ ∀ S22 : kS, S22 = cR S21 61 x1 (some x3) → hasO S22 x1 9 ∧ ∀ z23 : Option Nat, z23 = S22.2.1 62 x1 → ((z23 = none → hasO S22 x1 9 ∧ ∀ S25 : kS, S25 = cR S22 62 x1 (some x3) → wp_X1_newPart_111 K x3 S25) ∧ (∀ q24 : Nat, z23 = some q24 → wp_X1_newPart_111 K x3 S22))
def wp_X1_newPart (t0 : Nat) (a0 : Nat) (a1 : Int32) (S : kS) (K : kS → Option Nat → Prop) : Prop := hasO S t0 1 ∧ ∀ z1 : Option Nat, z1 = S.2.1 11 t0 → ((z1 = none → ∀ q3 : Nat, (∀ k : cK, (q3, k) ∉ S.2.2.2.2.2) → ∀ S4 : kS, S4 = cNw S q3 (.inl 4) → wp_X4_init q3 S4 (fun (S5 : kS) => wp_X1_newPart_28 K a0 a1 q3 S5)) ∧ (∀ q2 : Nat, z1 = some q2 → hasO S q2 4 ∧ ∀ z6 : Option Nat, z6 = S.2.1 24 q2 → hasO S t0 1 ∧ ∀ S7 : kS, S7 = cR S 11 t0 z6 → wp_X1_newPart_28 K a0 a1 q2 S7))
set_option maxHeartbeats 4000000 in
set_option maxRecDepth 100000 in
theorem kt_X1_newPart (l : Launch) (S : kS) (t0 : Nat) (a0 : Nat) (a1 : Int32) (K : kS → Option Nat → Prop) (h : wp_X1_newPart t0 a0 a1 S K) : nMo l yX1_newPart cX1_newPart 4 (some (.object "Sleepers$Part")) 2 32 1 [.ref t0, .ref a0, .int a1] S K := by
  refine nv_ofo (own := RX1) (by decide) rfl (Nat.le_of_ble_eq_true rfl) ?_
  intro E p e R s m args below meth c A ls Q hRf hRl hRc hRs hX hC hl hmL hini hret
  obtain ⟨n0, hn⟩ : ∃ n0, cnt S = n0 := ⟨_, rfl⟩
  rw [hn] at hret ⊢
  have hx := hX.1.1
  have hb := hX.1.2.1
  have hown := hX.1.2.2.2.1
  have hts := hX.1.2.2.2.2
  have cut111 : ∀ (x3 : Nat) (S : kS) (n : Nat) (H : Heap) (locs : List Loc) (ls : Array Slot), wp_X1_newPart_111 K x3 S → cM E A s.heap S H locs → cnt S = n → n0 ≤ n → n ≤ n0 + 1 → lv_has ls 4 [(3, .ref x3)] → W p l e R s m args below meth c H locs (n - n0) (20 * (n - n0)) Q (F0 m 111 ls []) := by
    intro x3 S n H locs ls h hC hn hb1 hb2 hl
    unfold wp_X1_newPart_111 at h
    refine lv_aload_n hx hb dX1_newPart_111 rfl (lv_at hl 0 rfl) ?_
    exact hret (some x3) _ n _ _ _ _ hC hn (by omega) (by omega) h dX1_newPart_112
  have cut28 : ∀ (x1 : Nat) (x2 : Int32) (x3 : Nat) (S : kS) (n : Nat) (H : Heap) (locs : List Loc) (ls : Array Slot), wp_X1_newPart_28 K x1 x2 x3 S → cM E A s.heap S H locs → cnt S = n → n0 ≤ n → n ≤ n0 + 1 → lv_has ls 4 [(1, .ref x1), (2, .int x2), (3, .ref x3)] → W p l e R s m args below meth c H locs (n - n0) (20 * (n - n0)) Q (F0 m 28 ls []) := by
    intro x1 x2 x3 S n H locs ls h hC hn hb1 hb2 hl
    unfold wp_X1_newPart_28 at h
    refine lv_aload_n hx hb dX1_newPart_28 rfl (lv_at hl 2 rfl) ?_
    refine lv_aload_n hx hb dX1_newPart_29 rfl (lv_at hl 0 rfl) ?_
    refine cq_putr (v := (some x1)) (ci := 4) (k := 0) (f := 21) hX hC rfl in_X4 (by decide) wd_1057 (fun _ h9 => h9) tyX4 tyX4_ok nmX4 rfl rfl (fun _ _ => Nat.le_of_ble_eq_true rfl) (fun _ _ _ => rfl) dX1_newPart_30 h.1 (fun S9 e9 => And.intro (h.2 S9 e9) (show cnt S9 = n by rw [e9]; exact hn)) (fun S8 H locs hC hh => ?_)
    obtain ⟨h, hn⟩ := hh
    refine lv_aload_n hx hb dX1_newPart_33 rfl (lv_at hl 2 rfl) ?_
    refine lv_iload_n hx hb dX1_newPart_34 rfl (lv_at hl 1 rfl) ?_
    refine cq_puti (v := x2) (ci := 4) (k := 1) (f := 12) hX hC rfl in_X4 (by decide) wd_1059 (fun _ h9 => h9) tyX4 tyX4_ok nmX4 rfl rfl rfl (fun _ _ => Nat.le_of_ble_eq_true rfl) (fun _ _ _ => rfl) dX1_newPart_35 h.1 (fun S9 e9 => And.intro (h.2 S9 e9) (show cnt S9 = n by rw [e9]; exact hn)) (fun S9 H locs hC hh => ?_)
    obtain ⟨h, hn⟩ := hh
    refine lv_aload_n hx hb dX1_newPart_38 rfl (lv_at hl 2 rfl) ?_
    refine lv_iconst (v := 0) hx hb dX1_newPart_39 (by decide) ?_
    refine cq_puti (v := 0) (ci := 4) (k := 2) (f := 13) hX hC rfl in_X4 (by decide) wd_1062 (fun _ h9 => h9) tyX4 tyX4_ok nmX4 rfl rfl rfl (fun _ _ => Nat.le_of_ble_eq_true rfl) (fun _ _ _ => rfl) dX1_newPart_40 h.1 (fun S9 e9 => And.intro (h.2 S9 e9) (show cnt S9 = n by rw [e9]; exact hn)) (fun S10 H locs hC hh => ?_)
    obtain ⟨h, hn⟩ := hh
    refine lv_aload_n hx hb dX1_newPart_43 rfl (lv_at hl 2 rfl) ?_
    refine lv_iconst (v := 0) hx hb dX1_newPart_44 (by decide) ?_
    refine cq_puti (v := 0) (ci := 4) (k := 3) (f := 14) hX hC rfl in_X4 (by decide) wd_1065 (fun _ h9 => h9) tyX4 tyX4_ok nmX4 rfl rfl rfl (fun _ _ => Nat.le_of_ble_eq_true rfl) (fun _ _ _ => rfl) dX1_newPart_45 h.1 (fun S9 e9 => And.intro (h.2 S9 e9) (show cnt S9 = n by rw [e9]; exact hn)) (fun S11 H locs hC hh => ?_)
    obtain ⟨h, hn⟩ := hh
    refine lv_aload_n hx hb dX1_newPart_48 rfl (lv_at hl 2 rfl) ?_
    refine lv_iconst (v := 0) hx hb dX1_newPart_49 (by decide) ?_
    refine cq_puti (v := 0) (ci := 4) (k := 4) (f := 15) hX hC rfl in_X4 (by decide) wd_1068 (fun _ h9 => h9) tyX4 tyX4_ok nmX4 rfl rfl rfl (fun _ _ => Nat.le_of_ble_eq_true rfl) (fun _ _ _ => rfl) dX1_newPart_50 h.1 (fun S9 e9 => And.intro (h.2 S9 e9) (show cnt S9 = n by rw [e9]; exact hn)) (fun S12 H locs hC hh => ?_)
    obtain ⟨h, hn⟩ := hh
    refine lv_aload_n hx hb dX1_newPart_53 rfl (lv_at hl 2 rfl) ?_
    refine lv_iconst (v := 0) hx hb dX1_newPart_54 (by decide) ?_
    refine cq_puti (v := 0) (ci := 4) (k := 5) (f := 16) hX hC rfl in_X4 (by decide) wd_1071 (fun _ h9 => h9) tyX4 tyX4_ok nmX4 rfl rfl rfl (fun _ _ => Nat.le_of_ble_eq_true rfl) (fun _ _ _ => rfl) dX1_newPart_55 h.1 (fun S9 e9 => And.intro (h.2 S9 e9) (show cnt S9 = n by rw [e9]; exact hn)) (fun S13 H locs hC hh => ?_)
    obtain ⟨h, hn⟩ := hh
    refine lv_aload_n hx hb dX1_newPart_58 rfl (lv_at hl 2 rfl) ?_
    refine lv_null hx hb dX1_newPart_59 ?_
    refine cq_putr (v := none) (ci := 4) (k := 6) (f := 22) hX hC rfl in_X4 (by decide) wd_1072 (fun _ h9 => h9) tyX4 tyX4_ok nmX4 rfl rfl (fun _ _ => Nat.le_of_ble_eq_true rfl) (fun _ _ _ => rfl) dX1_newPart_60 h.1 (fun S9 e9 => And.intro (h.2 S9 e9) (show cnt S9 = n by rw [e9]; exact hn)) (fun S14 H locs hC hh => ?_)
    obtain ⟨h, hn⟩ := hh
    refine lv_aload_n hx hb dX1_newPart_63 rfl (lv_at hl 2 rfl) ?_
    refine lv_aload_n hx hb dX1_newPart_64 rfl (lv_at hl 0 rfl) ?_
    refine cq_getr (ci := 9) (k := 16) (f := 63) hX hC rfl in_X9 (by decide) wd_900 (fun _ h9 => h9) (fun _ _ => rfl) dX1_newPart_65 h (fun z15 h => ?_)
    refine cq_putr (v := z15) (ci := 4) (k := 7) (f := 23) hX hC rfl in_X4 (by decide) wd_1075 (fun _ h9 => h9) tyX4 tyX4_ok nmX4 rfl rfl (fun _ _ => Nat.le_of_ble_eq_true rfl) (fun _ _ _ => rfl) dX1_newPart_68 h.1 (fun S9 e9 => And.intro (h.2 S9 e9) (show cnt S9 = n by rw [e9]; exact hn)) (fun S16 H locs hC hh => ?_)
    obtain ⟨h, hn⟩ := hh
    refine lv_aload_n hx hb dX1_newPart_71 rfl (lv_at hl 2 rfl) ?_
    refine lv_aload_n hx hb dX1_newPart_72 rfl (lv_at hl 0 rfl) ?_
    refine cq_getr (ci := 9) (k := 14) (f := 61) hX hC rfl in_X9 (by decide) wd_898 (fun _ h9 => h9) (fun _ _ => rfl) dX1_newPart_73 h (fun z17 h => ?_)
    refine cq_putr (v := z17) (ci := 4) (k := 8) (f := 24) hX hC rfl in_X4 (by decide) wd_1077 (fun _ h9 => h9) tyX4 tyX4_ok nmX4 rfl rfl (fun _ _ => Nat.le_of_ble_eq_true rfl) (fun _ _ _ => rfl) dX1_newPart_76 h.1 (fun S9 e9 => And.intro (h.2 S9 e9) (show cnt S9 = n by rw [e9]; exact hn)) (fun S18 H locs hC hh => ?_)
    obtain ⟨h, hn⟩ := hh
    refine lv_aload_n hx hb dX1_newPart_79 rfl (lv_at hl 2 rfl) ?_
    refine lv_null hx hb dX1_newPart_80 ?_
    refine cq_putr (v := none) (ci := 4) (k := 9) (f := 25) hX hC rfl in_X4 (by decide) wd_1079 (fun _ h9 => h9) tyX4 tyX4_ok nmX4 rfl rfl (fun _ _ => Nat.le_of_ble_eq_true rfl) (fun _ _ _ => rfl) dX1_newPart_81 h.1 (fun S9 e9 => And.intro (h.2 S9 e9) (show cnt S9 = n by rw [e9]; exact hn)) (fun S19 H locs hC hh => ?_)
    obtain ⟨h, hn⟩ := hh
    refine lv_aload_n hx hb dX1_newPart_84 rfl (lv_at hl 2 rfl) ?_
    refine lv_null hx hb dX1_newPart_85 ?_
    refine cq_putr (v := none) (ci := 4) (k := 10) (f := 26) hX hC rfl in_X4 (by decide) wd_1081 (fun _ h9 => h9) tyX4 tyX4_ok nmX4 rfl rfl (fun _ _ => Nat.le_of_ble_eq_true rfl) (fun _ _ _ => rfl) dX1_newPart_86 h.1 (fun S9 e9 => And.intro (h.2 S9 e9) (show cnt S9 = n by rw [e9]; exact hn)) (fun S20 H locs hC hh => ?_)
    obtain ⟨h, hn⟩ := hh
    refine lv_aload_n hx hb dX1_newPart_89 rfl (lv_at hl 2 rfl) ?_
    refine lv_null hx hb dX1_newPart_90 ?_
    refine cq_putr (v := none) (ci := 4) (k := 11) (f := 27) hX hC rfl in_X4 (by decide) wd_1083 (fun _ h9 => h9) tyX4 tyX4_ok nmX4 rfl rfl (fun _ _ => Nat.le_of_ble_eq_true rfl) (fun _ _ _ => rfl) dX1_newPart_91 h.1 (fun S9 e9 => And.intro (h.2 S9 e9) (show cnt S9 = n by rw [e9]; exact hn)) (fun S21 H locs hC hh => ?_)
    obtain ⟨h, hn⟩ := hh
    refine lv_aload_n hx hb dX1_newPart_94 rfl (lv_at hl 0 rfl) ?_
    refine lv_aload_n hx hb dX1_newPart_95 rfl (lv_at hl 2 rfl) ?_
    refine cq_putr (v := (some x3)) (ci := 9) (k := 14) (f := 61) hX hC rfl in_X9 (by decide) wd_898 (fun _ h9 => h9) tyX9 tyX9_ok nmX9 rfl rfl (fun _ _ => Nat.le_of_ble_eq_true rfl) (fun _ _ _ => rfl) dX1_newPart_96 h.1 (fun S9 e9 => And.intro (h.2 S9 e9) (show cnt S9 = n by rw [e9]; exact hn)) (fun S22 H locs hC hh => ?_)
    obtain ⟨h, hn⟩ := hh
    refine lv_aload_n hx hb dX1_newPart_99 rfl (lv_at hl 0 rfl) ?_
    refine cq_getr (ci := 9) (k := 15) (f := 62) hX hC rfl in_X9 (by decide) wd_899 (fun _ h9 => h9) (fun _ _ => rfl) dX1_newPart_100 h (fun z23 h => ?_)
    rcases z23 with _ | q24
    · have h := h.1 rfl
      refine lv_ifnonnullN hx hb dX1_newPart_103 ?_
      refine lv_aload_n hx hb dX1_newPart_106 rfl (lv_at hl 0 rfl) ?_
      refine lv_aload_n hx hb dX1_newPart_107 rfl (lv_at hl 2 rfl) ?_
      refine cq_putr (v := (some x3)) (ci := 9) (k := 15) (f := 62) hX hC rfl in_X9 (by decide) wd_899 (fun _ h9 => h9) tyX9 tyX9_ok nmX9 rfl rfl (fun _ _ => Nat.le_of_ble_eq_true rfl) (fun _ _ _ => rfl) dX1_newPart_108 h.1 (fun S9 e9 => And.intro (h.2 S9 e9) (show cnt S9 = n by rw [e9]; exact hn)) (fun S25 H locs hC hh => ?_)
      obtain ⟨h, hn⟩ := hh
      exact cut111 x3 S25 n _ _ _ h hC hn (by omega) (by omega) (lv_sub hl [2] rfl)
    · have h := h.2 q24 rfl
      refine lv_ifnonnull (tgt := 111) hx hb dX1_newPart_103 (by decide) ?_
      exact cut111 x3 S22 n _ _ _ h hC hn (by omega) (by omega) (lv_sub hl [2] rfl)
  have hl : lv_has ls 4 [(0, .ref t0), (1, .ref a0), (2, .int a1)] := hl
  unfold wp_X1_newPart at h
  refine lv_aload_n hx hb dX1_newPart_0 rfl (lv_at hl 0 rfl) ?_
  refine cq_getr (ci := 1) (k := 14) (f := 11) hX hC rfl in_X1 (by decide) wd_261 (fun _ h9 => h9) (fun _ _ => rfl) dX1_newPart_1 h (fun z1 h => ?_)
  refine lo_astore_n (lv' := [(3, va_rf z1), (0, .ref t0), (1, .ref a0), (2, .int a1)]) hx hb dX1_newPart_4 rfl hl (by decide) (by rcases z1 with _ | _ <;> rfl) (fun ls hl => ?_)
  refine lo_aload_n hx hb dX1_newPart_5 rfl (lv_at hl 0 rfl) ?_
  rcases z1 with _ | q2
  · have h := h.1 rfl
    refine lv_ifnonnullN hx hb dX1_newPart_6 ?_
    refine cq_new (ci := 4) (N := 12) hX hC rfl in_X4 tyX4 tyX4_ok wd_1050 wd_1051 wd_23 df_X4 (by omega) (by omega) dX1_newPart_9 (fun q9 f9 S9 e9 => And.intro (h q9 f9 S9 e9) (show cnt S9 = n0 + 1 by rw [e9, cnt_N, hn])) (fun q3 S4 H hC hh => ?_)
    obtain ⟨h, hn⟩ := hh
    refine lv_dup hx hb dX1_newPart_12 rfl ?_
    refine nv_callIN [] (rest := [.ref q3]) hX hC (kt_X4_init l S4 q3 _ (km_X4_init _ _ _ _ (fun S9 hF h => And.intro h (show cnt S9 = n0 + 1 by show S9.2.2.2.2.2.length = _; rw [hF.2.2.2.2.2]; exact hn)) h) E _) ⟨va_cnB 0 hts (gd_c wd_1054) rfl rfl rfl hX.2.2.2.2.2.2.1 (hts _ wd_23) (by decide +kernel) ⟨by show 1 + 1 ≤ R.frames; omega, by show 8 + (1 + 11) + 12 ≤ R.locals; omega⟩, rfl, hts _ wd_1053⟩ rfl hl.1 (Nat.le_of_ble_eq_true rfl) ⟨by omega, by omega⟩ dX1_newPart_13 (fun S5 H locs hC hh => ?_)
    obtain ⟨h, hn⟩ := hh
    refine W.widen (k := n0 + 1 - n0) (n := 20 * (n0 + 1 - n0)) (by omega) (by omega) ?_
    refine lv_astore_n (lv' := [(3, .ref q3), (0, .ref t0), (1, .ref a0), (2, .int a1)]) hx hb dX1_newPart_16 rfl hl (by decide) rfl (fun ls hl => ?_)
    refine lv_goto (tgt := 28) hx hb dX1_newPart_17 (by decide) ?_
    exact cut28 a0 a1 q3 S5 (n0 + 1) _ _ _ h hC hn (by omega) (by omega) (lv_sub hl [2, 3, 0] rfl)
  · have h := h.2 q2 rfl
    refine lv_ifnonnull (tgt := 20) hx hb dX1_newPart_6 (by decide) ?_
    refine lv_aload_n hx hb dX1_newPart_20 rfl (lv_at hl 1 rfl) ?_
    refine lv_aload_n hx hb dX1_newPart_21 rfl (lv_at hl 0 rfl) ?_
    refine cq_getr (ci := 4) (k := 8) (f := 24) hX hC rfl in_X4 (by decide) wd_1077 (fun _ h9 => h9) (fun _ _ => rfl) dX1_newPart_22 h (fun z6 h => ?_)
    refine cq_putr (v := z6) (ci := 1) (k := 14) (f := 11) hX hC rfl in_X1 (by decide) wd_261 (fun _ h9 => h9) tyX1 tyX1_ok nmX1 rfl rfl (fun _ _ => Nat.le_of_ble_eq_true rfl) (fun _ _ _ => rfl) dX1_newPart_25 h.1 (fun S9 e9 => And.intro (h.2 S9 e9) (show cnt S9 = n0 by rw [e9]; exact hn)) (fun S7 H locs hC hh => ?_)
    obtain ⟨h, hn⟩ := hh
    exact cut28 a0 a1 q2 S7 n0 _ _ _ h hC hn (by omega) (by omega) (lv_sub hl [2, 3, 0] rfl)
def wp_X1_newTask_114 (K : kS → Option Nat → Prop) (k114 : Nat × Nat × Int32 × kS → Prop) (x0 : Nat) (x3 : Nat) (x4 : Int32) (S : kS) : Prop := ((12 ≤ x4 → hasO S x3 9 ∧ ∀ S34 : kS, S34 = cI S 37 x3 0 → hasO S34 x3 9 ∧ ∀ S35 : kS, S35 = cI S34 38 x3 0 → hasO S35 x0 1 ∧ wp_X1_enterRow x0 x3 S35 (fun (S36 : kS) => K S36 (some x3))) ∧ (¬ 12 ≤ x4 → hasO S x3 9 ∧ ∀ z37 : Option Nat, z37 = S.2.1 58 x3 → ∃ q38 : Nat, z37 = some q38 ∧ hasA S q38 12 0 ∧ inR x4 12 ∧ ∀ S39 : kS, S39 = cA S q38 (ix x4) 0 → ∀ z40 : Int32, z40 = x4 + 1 → k114 (x0, x3, z40, S39)))
def ls_X1_newTask_114 (K : kS → Option Nat → Prop) (k114 : Nat × Nat × Int32 × kS → Prop) (u : Nat × Nat × Int32 × kS) : Prop := wp_X1_newTask_114 K k114 u.1 u.2.1 u.2.2.1 u.2.2.2
def wp_X1_newTask_48 (K : kS → Option Nat → Prop) (x0 : Nat) (x1 : Int32) (x2 : Option Nat) (x3 : Nat) (S : kS) : Prop := hasO S x0 1 ∧ ∀ z16 : Int32, z16 = S.1 1 x0 → ∀ z17 : Int32, z17 = z16 + 1 → hasO S x0 1 ∧ ∀ S18 : kS, S18 = cI S 1 x0 z17 → hasO S18 x3 9 ∧ ∀ S19 : kS, S19 = cI S18 29 x3 x1 → hasO S19 x3 9 ∧ ∀ S20 : kS, S20 = cR S19 56 x3 x2 → hasO S20 x3 9 ∧ ∀ S21 : kS, S21 = cR S20 57 x3 none → hasO S21 x3 9 ∧ ∀ S22 : kS, S22 = cI S21 31 x3 0 → hasO S22 x3 9 ∧ ∀ S23 : kS, S23 = cI S22 32 x3 0 → hasO S23 x3 9 ∧ ∀ S24 : kS, S24 = cI S23 33 x3 0 → hasO S24 x3 9 ∧ ∀ S25 : kS, S25 = cI S24 34 x3 0 → hasO S25 x3 9 ∧ ∀ S26 : kS, S26 = cI S25 35 x3 0 → hasO S26 x0 1 ∧ ∀ z27 : Option Nat, z27 = S26.2.1 2 x0 → ∃ q28 : Nat, z27 = some q28 ∧ hasO S26 q28 5 ∧ ∀ z29 : Option Nat, z29 = S26.2.1 32 q28 → ∃ q30 : Nat, z29 = some q30 ∧ hasA S26 q30 12 0 ∧ inR x1 12 ∧ ∀ z31 : Int32, z31 = S26.2.2.1 q30 (ix x1) → hasO S26 x3 9 ∧ ∀ S32 : kS, S32 = cI S26 36 x3 z31 → (∃ n9, it (ls_X1_newTask_114 K) n9 (x0, x3, 0, S32))
def wp_X1_newTask (t0 : Nat) (a0 : Int32) (a1 : Option Nat) (S : kS) (K : kS → Option Nat → Prop) : Prop := hasO S t0 1 ∧ ∀ z1 : Int32, z1 = S.1 1 t0 → ((z1 < 200 → hasO S t0 1 ∧ ∀ z3 : Option Nat, z3 = S.2.1 3 t0 → hasO S t0 1 ∧ ∀ z4 : Int32, z4 = S.1 1 t0 → ∃ q5 : Nat, z3 = some q5 ∧ hasA S q5 200 2 ∧ inR z4 200 ∧ ∀ z6 : Option Nat, z6 = S.2.2.2.2.1 q5 (ix z4) → ((z6 = none → ∀ q8 : Nat, (∀ k : cK, (q8, k) ∉ S.2.2.2.2.2) → ∀ S9 : kS, S9 = cNw S q8 (.inl 9) → hasO S9 t0 1 ∧ ∀ z10 : Int32, z10 = S9.1 1 t0 → wp_X9_init q8 z10 S9 (fun (S11 : kS) => hasO S11 t0 1 ∧ ∀ z12 : Option Nat, z12 = S11.2.1 3 t0 → hasO S11 t0 1 ∧ ∀ z13 : Int32, z13 = S11.1 1 t0 → ∃ q14 : Nat, z12 = some q14 ∧ hasA S11 q14 200 2 ∧ hasO S11 q8 9 ∧ inR z13 200 ∧ ∀ S15 : kS, S15 = cQ S11 q14 (ix z13) (some q8) → wp_X1_newTask_48 K t0 a0 a1 q8 S15)) ∧ (∀ q7 : Nat, z6 = some q7 → wp_X1_newTask_48 K t0 a0 a1 q7 S))) ∧ (¬ z1 < 200 → K S none))
set_option maxHeartbeats 4000000 in
set_option maxRecDepth 100000 in
theorem kt_X1_newTask (l : Launch) (S : kS) (t0 : Nat) (a0 : Int32) (a1 : Option Nat) (K : kS → Option Nat → Prop) (h : wp_X1_newTask t0 a0 a1 S K) : nMo l yX1_newTask cX1_newTask 5 (some (.object "Sleepers$Task")) 2 33 4 [.ref t0, .int a0, va_rf a1] S K := by
  refine nv_ofo (own := RX1) (by decide) rfl (Nat.le_of_ble_eq_true (by cases a1 <;> rfl)) ?_
  intro E p e R s m args below meth c A ls Q hRf hRl hRc hRs hX hC hl hmL hini hret
  obtain ⟨n0, hn⟩ : ∃ n0, cnt S = n0 := ⟨_, rfl⟩
  rw [hn] at hret ⊢
  have hx := hX.1.1
  have hb := hX.1.2.1
  have hown := hX.1.2.2.2.1
  have hts := hX.1.2.2.2.2
  have cut114 : ∀ (n114 : Nat) (x0 : Nat) (x3 : Nat) (x4 : Int32) (S : kS) (n : Nat) (H : Heap) (locs : List Loc) (ls : Array Slot), it (ls_X1_newTask_114 K) n114 (x0, x3, x4, S) → cM E A s.heap S H locs → cnt S = n → n0 ≤ n → n ≤ n0 + 4 → lv_has ls 5 [(0, .ref x0), (3, .ref x3), (4, .int x4)] → W p l e R s m args below meth c H locs (n - n0) (20 * (n - n0)) Q (F0 m 114 ls []) := by
    intro n114
    induction n114 with
    | zero => intro x0 x3 x4 S n H locs ls h hC hn hb1 hb2 hl; exact h.elim
    | succ n114 ih114 =>
      intro x0 x3 x4 S n H locs ls h hC hn hb1 hb2 hl
      have h : wp_X1_newTask_114 K (it (ls_X1_newTask_114 K) n114) x0 x3 x4 S := h
      unfold wp_X1_newTask_114 at h
      refine lv_iload hx hb dX1_newTask_114 (lv_at hl 2 rfl) ?_
      refine lv_bipush (v := 12) hx hb dX1_newTask_116 (by decide) ?_
      refine lv_icmp_ge (tgt := 135) hx hb dX1_newTask_118 (by decide) (fun c33 => ?_) (fun c33 => ?_)
      · have h := h.1 c33
        refine lv_aload_n hx hb dX1_newTask_135 rfl (lv_at hl 1 rfl) ?_
        refine lv_iconst (v := 0) hx hb dX1_newTask_136 (by decide) ?_
        refine cq_puti (v := 0) (ci := 9) (k := 17) (f := 37) hX hC rfl in_X9 (by decide) wd_902 (fun _ h9 => h9) tyX9 tyX9_ok nmX9 rfl rfl rfl (fun _ _ => Nat.le_of_ble_eq_true rfl) (fun _ _ _ => rfl) dX1_newTask_137 h.1 (fun S9 e9 => And.intro (h.2 S9 e9) (show cnt S9 = n by rw [e9]; exact hn)) (fun S34 H locs hC hh => ?_)
        obtain ⟨h, hn⟩ := hh
        refine lv_aload_n hx hb dX1_newTask_140 rfl (lv_at hl 1 rfl) ?_
        refine lv_iconst (v := 0) hx hb dX1_newTask_141 (by decide) ?_
        refine cq_puti (v := 0) (ci := 9) (k := 18) (f := 38) hX hC rfl in_X9 (by decide) wd_905 (fun _ h9 => h9) tyX9 tyX9_ok nmX9 rfl rfl rfl (fun _ _ => Nat.le_of_ble_eq_true rfl) (fun _ _ _ => rfl) dX1_newTask_142 h.1 (fun S9 e9 => And.intro (h.2 S9 e9) (show cnt S9 = n by rw [e9]; exact hn)) (fun S35 H locs hC hh => ?_)
        obtain ⟨h, hn⟩ := hh
        refine lv_aload_n hx hb dX1_newTask_145 rfl (lv_at hl 0 rfl) ?_
        refine lv_aload_n hx hb dX1_newTask_146 rfl (lv_at hl 1 rfl) ?_
        refine kv_callv [.ref x3] (rest := []) (ci := 1) rfl hX hC h.1 (kt_X1_enterRow l S35 x0 x3 _ (km_X1_enterRow _ _ _ _ _ (fun S9 hF h => And.intro h (show cnt S9 = n by show S9.2.2.2.2.2.length = _; rw [hF.2.2.2.2.2]; exact hn)) h.2) E _) (cw_X1_122 hts (by omega) (by omega)) rfl hl.1 (Nat.le_of_ble_eq_true rfl) ⟨by omega, by omega⟩ dX1_newTask_147 (fun S36 H locs hC hh => ?_)
        obtain ⟨h, hn⟩ := hh
        refine lv_aload_n hx hb dX1_newTask_150 rfl (lv_at hl 1 rfl) ?_
        exact hret (some x3) _ n _ _ _ _ hC hn (by omega) (by omega) h dX1_newTask_151
      · have h := h.2 c33
        refine lv_aload_n hx hb dX1_newTask_121 rfl (lv_at hl 1 rfl) ?_
        refine cq_getr (ci := 9) (k := 11) (f := 58) hX hC rfl in_X9 (by decide) wd_893 (fun _ h9 => h9) (fun _ _ => rfl) dX1_newTask_122 h (fun z37 h => ?_)
        refine lv_iload hx hb dX1_newTask_125 (lv_at hl 2 rfl) ?_
        refine lv_iconst (v := 0) hx hb dX1_newTask_127 (by decide) ?_
        obtain ⟨q38, e9, hh⟩ := h
        subst e9
        have h := hh
        clear hh
        refine cq_ist hX hC dX1_newTask_128 h.1 h.2.1 (fun S9 e9 => And.intro (h.2.2 S9 e9) (show cnt S9 = n by rw [e9]; exact hn)) (fun S39 H locs hC hh => ?_)
        obtain ⟨h, hn⟩ := hh
        obtain ⟨z40, ez40⟩ : ∃ y : Int32, y = x4 + 1 := ⟨_, rfl⟩
        have h := h z40 ez40
        refine lv_iinc (v := z40) (lv' := [(4, .int z40), (0, .ref x0), (3, .ref x3)]) hx hb dX1_newTask_129 hl (k := 2) rfl (by rw [ez40]; rfl) (by decide) rfl (fun ls hl => ?_)
        refine lv_goto (tgt := 114) hx hb dX1_newTask_132 (by decide) ?_
        exact ih114 x0 x3 z40 S39 n _ _ _ h hC hn (by omega) (by omega) (lv_sub hl [1, 2, 0] rfl)
  have cut48 : ∀ (x0 : Nat) (x1 : Int32) (x2 : Option Nat) (x3 : Nat) (S : kS) (n : Nat) (H : Heap) (locs : List Loc) (ls : Array Slot), wp_X1_newTask_48 K x0 x1 x2 x3 S → cM E A s.heap S H locs → cnt S = n → n0 ≤ n → n ≤ n0 + 4 → lv_has ls 5 [(0, .ref x0), (1, .int x1), (2, va_rf x2), (3, .ref x3)] → W p l e R s m args below meth c H locs (n - n0) (20 * (n - n0)) Q (F0 m 48 ls []) := by
    intro x0 x1 x2 x3 S n H locs ls h hC hn hb1 hb2 hl
    unfold wp_X1_newTask_48 at h
    refine lv_aload_n hx hb dX1_newTask_48 rfl (lv_at hl 0 rfl) ?_
    refine lv_dup hx hb dX1_newTask_49 rfl ?_
    refine cq_geti (ci := 1) (k := 2) (f := 1) hX hC rfl in_X1 (by decide) wd_237 (fun _ h9 => h9) (fun _ _ => rfl) dX1_newTask_50 h (fun z16 h => ?_)
    refine lv_iconst (v := 1) hx hb dX1_newTask_53 (by decide) ?_
    refine lq_iadd hx hb dX1_newTask_54 h (fun z17 h => ?_)
    refine cq_puti (v := z17) (ci := 1) (k := 2) (f := 1) hX hC rfl in_X1 (by decide) wd_237 (fun _ h9 => h9) tyX1 tyX1_ok nmX1 rfl rfl rfl (fun _ _ => Nat.le_of_ble_eq_true rfl) (fun _ _ _ => rfl) dX1_newTask_55 h.1 (fun S9 e9 => And.intro (h.2 S9 e9) (show cnt S9 = n by rw [e9]; exact hn)) (fun S18 H locs hC hh => ?_)
    obtain ⟨h, hn⟩ := hh
    refine lv_aload_n hx hb dX1_newTask_58 rfl (lv_at hl 3 rfl) ?_
    refine lv_iload_n hx hb dX1_newTask_59 rfl (lv_at hl 1 rfl) ?_
    refine cq_puti (v := x1) (ci := 9) (k := 1) (f := 29) hX hC rfl in_X9 (by decide) wd_867 (fun _ h9 => h9) tyX9 tyX9_ok nmX9 rfl rfl rfl (fun _ _ => Nat.le_of_ble_eq_true rfl) (fun _ _ _ => rfl) dX1_newTask_60 h.1 (fun S9 e9 => And.intro (h.2 S9 e9) (show cnt S9 = n by rw [e9]; exact hn)) (fun S19 H locs hC hh => ?_)
    obtain ⟨h, hn⟩ := hh
    refine lv_aload_n hx hb dX1_newTask_63 rfl (lv_at hl 3 rfl) ?_
    refine lo_aload_n hx hb dX1_newTask_64 rfl (lv_at hl 2 rfl) ?_
    refine cq_putr (v := x2) (ci := 9) (k := 2) (f := 56) hX hC rfl in_X9 (by decide) wd_870 (fun _ h9 => h9) tyX9 tyX9_ok nmX9 rfl rfl (fun _ _ => Nat.le_of_ble_eq_true rfl) (fun _ _ _ => rfl) dX1_newTask_65 h.1 (fun S9 e9 => And.intro (h.2 S9 e9) (show cnt S9 = n by rw [e9]; exact hn)) (fun S20 H locs hC hh => ?_)
    obtain ⟨h, hn⟩ := hh
    refine lv_aload_n hx hb dX1_newTask_68 rfl (lv_at hl 3 rfl) ?_
    refine lv_null hx hb dX1_newTask_69 ?_
    refine cq_putr (v := none) (ci := 9) (k := 3) (f := 57) hX hC rfl in_X9 (by decide) wd_871 (fun _ h9 => h9) tyX9 tyX9_ok nmX9 rfl rfl (fun _ _ => Nat.le_of_ble_eq_true rfl) (fun _ _ _ => rfl) dX1_newTask_70 h.1 (fun S9 e9 => And.intro (h.2 S9 e9) (show cnt S9 = n by rw [e9]; exact hn)) (fun S21 H locs hC hh => ?_)
    obtain ⟨h, hn⟩ := hh
    refine lv_aload_n hx hb dX1_newTask_73 rfl (lv_at hl 3 rfl) ?_
    refine lv_iconst (v := 0) hx hb dX1_newTask_74 (by decide) ?_
    refine cq_puti (v := 0) (ci := 9) (k := 5) (f := 31) hX hC rfl in_X9 (by decide) wd_877 (fun _ h9 => h9) tyX9 tyX9_ok nmX9 rfl rfl rfl (fun _ _ => Nat.le_of_ble_eq_true rfl) (fun _ _ _ => rfl) dX1_newTask_75 h.1 (fun S9 e9 => And.intro (h.2 S9 e9) (show cnt S9 = n by rw [e9]; exact hn)) (fun S22 H locs hC hh => ?_)
    obtain ⟨h, hn⟩ := hh
    refine lv_aload_n hx hb dX1_newTask_78 rfl (lv_at hl 3 rfl) ?_
    refine lv_iconst (v := 0) hx hb dX1_newTask_79 (by decide) ?_
    refine cq_puti (v := 0) (ci := 9) (k := 6) (f := 32) hX hC rfl in_X9 (by decide) wd_880 (fun _ h9 => h9) tyX9 tyX9_ok nmX9 rfl rfl rfl (fun _ _ => Nat.le_of_ble_eq_true rfl) (fun _ _ _ => rfl) dX1_newTask_80 h.1 (fun S9 e9 => And.intro (h.2 S9 e9) (show cnt S9 = n by rw [e9]; exact hn)) (fun S23 H locs hC hh => ?_)
    obtain ⟨h, hn⟩ := hh
    refine lv_aload_n hx hb dX1_newTask_83 rfl (lv_at hl 3 rfl) ?_
    refine lv_iconst (v := 0) hx hb dX1_newTask_84 (by decide) ?_
    refine cq_puti (v := 0) (ci := 9) (k := 7) (f := 33) hX hC rfl in_X9 (by decide) wd_883 (fun _ h9 => h9) tyX9 tyX9_ok nmX9 rfl rfl rfl (fun _ _ => Nat.le_of_ble_eq_true rfl) (fun _ _ _ => rfl) dX1_newTask_85 h.1 (fun S9 e9 => And.intro (h.2 S9 e9) (show cnt S9 = n by rw [e9]; exact hn)) (fun S24 H locs hC hh => ?_)
    obtain ⟨h, hn⟩ := hh
    refine lv_aload_n hx hb dX1_newTask_88 rfl (lv_at hl 3 rfl) ?_
    refine lv_iconst (v := 0) hx hb dX1_newTask_89 (by decide) ?_
    refine cq_puti (v := 0) (ci := 9) (k := 8) (f := 34) hX hC rfl in_X9 (by decide) wd_887 (fun _ h9 => h9) tyX9 tyX9_ok nmX9 rfl rfl rfl (fun _ _ => Nat.le_of_ble_eq_true rfl) (fun _ _ _ => rfl) dX1_newTask_90 h.1 (fun S9 e9 => And.intro (h.2 S9 e9) (show cnt S9 = n by rw [e9]; exact hn)) (fun S25 H locs hC hh => ?_)
    obtain ⟨h, hn⟩ := hh
    refine lv_aload_n hx hb dX1_newTask_93 rfl (lv_at hl 3 rfl) ?_
    refine lv_iconst (v := 0) hx hb dX1_newTask_94 (by decide) ?_
    refine cq_puti (v := 0) (ci := 9) (k := 9) (f := 35) hX hC rfl in_X9 (by decide) wd_889 (fun _ h9 => h9) tyX9 tyX9_ok nmX9 rfl rfl rfl (fun _ _ => Nat.le_of_ble_eq_true rfl) (fun _ _ _ => rfl) dX1_newTask_95 h.1 (fun S9 e9 => And.intro (h.2 S9 e9) (show cnt S9 = n by rw [e9]; exact hn)) (fun S26 H locs hC hh => ?_)
    obtain ⟨h, hn⟩ := hh
    refine lv_aload_n hx hb dX1_newTask_98 rfl (lv_at hl 3 rfl) ?_
    refine lv_aload_n hx hb dX1_newTask_99 rfl (lv_at hl 0 rfl) ?_
    refine cq_getr (ci := 1) (k := 0) (f := 2) hX hC rfl in_X1 (by decide) wd_233 (fun _ h9 => h9) (fun _ _ => rfl) dX1_newTask_100 h (fun z27 h => ?_)
    obtain ⟨q28, e9, hh⟩ := h
    subst e9
    have h := hh
    clear hh
    refine cq_getr (ci := 5) (k := 6) (f := 32) hX hC rfl in_X5 (by decide) wd_418 (fun _ h9 => h9) (fun _ _ => rfl) dX1_newTask_103 h (fun z29 h => ?_)
    refine lv_iload_n hx hb dX1_newTask_106 rfl (lv_at hl 1 rfl) ?_
    obtain ⟨q30, e9, hh⟩ := h
    subst e9
    have h := hh
    clear hh
    refine cq_ild hX hC dX1_newTask_107 h (fun z31 h => ?_)
    refine cq_puti (v := z31) (ci := 9) (k := 10) (f := 36) hX hC rfl in_X9 (by decide) wd_891 (fun _ h9 => h9) tyX9 tyX9_ok nmX9 rfl rfl rfl (fun _ _ => Nat.le_of_ble_eq_true rfl) (fun _ _ _ => rfl) dX1_newTask_108 h.1 (fun S9 e9 => And.intro (h.2 S9 e9) (show cnt S9 = n by rw [e9]; exact hn)) (fun S32 H locs hC hh => ?_)
    obtain ⟨h, hn⟩ := hh
    refine lv_iconst (v := 0) hx hb dX1_newTask_111 (by decide) ?_
    refine lv_istore (lv' := [(4, .int 0), (0, .ref x0), (1, .int x1), (2, va_rf x2), (3, .ref x3)]) hx hb dX1_newTask_112 hl (by decide) (by rcases x2 with _ | _ <;> rfl) (fun ls hl => ?_)
    obtain ⟨n9, h⟩ := h
    exact cut114 n9 x0 x3 0 S32 n _ _ _ h hC hn (by omega) (by omega) (lv_sub hl [1, 4, 0] rfl)
  have hl : lv_has ls 5 [(0, .ref t0), (1, .int a0), (2, va_rf a1)] := by cases a1 <;> exact hl
  unfold wp_X1_newTask at h
  refine lv_aload_n hx hb dX1_newTask_0 rfl (lv_at hl 0 rfl) ?_
  refine cq_geti (ci := 1) (k := 2) (f := 1) hX hC rfl in_X1 (by decide) wd_237 (fun _ h9 => h9) (fun _ _ => rfl) dX1_newTask_1 h (fun z1 h => ?_)
  refine lv_sipush (v := 200) hx hb dX1_newTask_4 (by decide) ?_
  refine lv_icmp_lt (tgt := 12) hx hb dX1_newTask_7 (by decide) (fun c2 => ?_) (fun c2 => ?_)
  · have h := h.1 c2
    refine lv_aload_n hx hb dX1_newTask_12 rfl (lv_at hl 0 rfl) ?_
    refine cq_getr (ci := 1) (k := 1) (f := 3) hX hC rfl in_X1 (by decide) wd_235 (fun _ h9 => h9) (fun _ _ => rfl) dX1_newTask_13 h (fun z3 h => ?_)
    refine lv_aload_n hx hb dX1_newTask_16 rfl (lv_at hl 0 rfl) ?_
    refine cq_geti (ci := 1) (k := 2) (f := 1) hX hC rfl in_X1 (by decide) wd_237 (fun _ h9 => h9) (fun _ _ => rfl) dX1_newTask_17 h (fun z4 h => ?_)
    obtain ⟨q5, e9, hh⟩ := h
    subst e9
    have h := hh
    clear hh
    refine cq_qld2 hX hC dX1_newTask_20 h (fun z6 h => ?_)
    refine lo_astore_n (lv' := [(3, va_rf z6), (0, .ref t0), (1, .int a0), (2, va_rf a1)]) hx hb dX1_newTask_21 rfl hl (by decide) (by rcases a1 with _ | _ <;> rcases z6 with _ | _ <;> rfl) (fun ls hl => ?_)
    refine lo_aload_n hx hb dX1_newTask_22 rfl (lv_at hl 0 rfl) ?_
    rcases z6 with _ | q7
    · have h := h.1 rfl
      refine lv_ifnonnullN hx hb dX1_newTask_23 ?_
      refine cq_new (ci := 9) (N := 20) hX hC rfl in_X9 tyX9 tyX9_ok wd_199 wd_856 wd_22 df_X9 (by omega) (by omega) dX1_newTask_26 (fun q9 f9 S9 e9 => And.intro (h q9 f9 S9 e9) (show cnt S9 = n0 + 1 by rw [e9, cnt_N, hn])) (fun q8 S9 H hC hh => ?_)
      obtain ⟨h, hn⟩ := hh
      refine lv_dup hx hb dX1_newTask_29 rfl ?_
      refine lv_aload_n hx hb dX1_newTask_30 rfl (lv_at hl 1 rfl) ?_
      refine cq_geti (ci := 1) (k := 2) (f := 1) hX hC rfl in_X1 (by decide) wd_237 (fun _ h9 => h9) (fun _ _ => rfl) dX1_newTask_31 h (fun z10 h => ?_)
      refine nv_callI [.int z10] (rest := [.ref q8]) hX hC (kt_X9_init l S9 q8 z10 _ h E _) (cwI 1 hts (gd_c wd_859) rfl rfl rfl (hts _ wd_22) (hts _ wd_857) (hts _ wd_858) rfl (by decide +kernel) ⟨by show 1 + 1 ≤ R.frames; omega, by show 8 + (2 + 11) + 12 ≤ R.locals; omega⟩) rfl hl.1 (Nat.le_of_ble_eq_true rfl) ⟨by omega, by omega⟩ dX1_newTask_34 (fun S11 H locs hC hn1 hn2 h => ?_)
      obtain ⟨n11, hn9⟩ : ∃ n9, cnt S11 = n9 := ⟨_, rfl⟩
      have hb9 : n0 + 1 ≤ n11 ∧ n11 ≤ n0 + 1 + 3 := by omega
      refine W.widen (k := n11 - n0) (n := 20 * (n11 - n0)) (by omega) (by omega) ?_
      replace hn := hn9
      refine lv_astore_n (lv' := [(3, .ref q8), (0, .ref t0), (1, .int a0), (2, va_rf a1)]) hx hb dX1_newTask_37 rfl hl (by decide) (by rcases a1 with _ | _ <;> rfl) (fun ls hl => ?_)
      refine lv_aload_n hx hb dX1_newTask_38 rfl (lv_at hl 1 rfl) ?_
      refine cq_getr (ci := 1) (k := 1) (f := 3) hX hC rfl in_X1 (by decide) wd_235 (fun _ h9 => h9) (fun _ _ => rfl) dX1_newTask_39 h (fun z12 h => ?_)
      refine lv_aload_n hx hb dX1_newTask_42 rfl (lv_at hl 1 rfl) ?_
      refine cq_geti (ci := 1) (k := 2) (f := 1) hX hC rfl in_X1 (by decide) wd_237 (fun _ h9 => h9) (fun _ _ => rfl) dX1_newTask_43 h (fun z13 h => ?_)
      refine lv_aload_n hx hb dX1_newTask_46 rfl (lv_at hl 0 rfl) ?_
      obtain ⟨q14, e9, hh⟩ := h
      subst e9
      have h := hh
      clear hh
      refine cq_qst hX hC dX1_newTask_47 h.1 h.2.1 h.2.2.1 (fun S9 e9 => And.intro (h.2.2.2 S9 e9) (show cnt S9 = n11 by rw [e9]; exact hn)) (fun S15 H locs hC hh => ?_)
      obtain ⟨h, hn⟩ := hh
      exact cut48 t0 a0 a1 q8 S15 n11 _ _ _ h hC hn (by omega) (by omega) (lv_sub hl [1, 2, 3, 0] rfl)
    · have h := h.2 q7 rfl
      refine lv_ifnonnull (tgt := 48) hx hb dX1_newTask_23 (by decide) ?_
      exact cut48 t0 a0 a1 q7 S n0 _ _ _ h hC hn (by omega) (by omega) (lv_sub hl [1, 2, 3, 0] rfl)
  · have h := h.2 c2
    refine lv_null hx hb dX1_newTask_10 ?_
    exact hret none _ n0 _ _ _ _ hC hn (by omega) (by omega) h dX1_newTask_11
def wp_X6_beginLetter (t0 : Nat) (a0 : Nat) (a1 : Int32) (S : kS) (K : kS → Prop) : Prop := hasO S t0 6 ∧ ∀ z1 : Option Nat, z1 = S.2.1 41 t0 → ∃ q2 : Nat, z1 = some q2 ∧ hasO S q2 1 ∧ wp_X1_newPart q2 a0 0 S (fun (S3 : kS) (o3 : Option Nat) => hasO S3 t0 6 ∧ ∀ z4 : Option Nat, z4 = S3.2.1 41 t0 → ∃ q5 : Nat, z4 = some q5 ∧ hasO S3 q5 1 ∧ ∀ z6 : Option Nat, z6 = S3.2.1 6 q5 → ∃ q7 : Nat, z6 = some q7 ∧ hasA S3 q7 8 0 ∧ inR a1 8 ∧ ∀ z8 : Int32, z8 = S3.2.2.1 q7 (ix a1) → ((z8 ≤ 0 → hasO S3 t0 6 ∧ ∀ z10 : Option Nat, z10 = S3.2.1 41 t0 → ∃ q11 : Nat, z10 = some q11 ∧ hasO S3 q11 1 ∧ ∀ z12 : Option Nat, z12 = S3.2.1 7 q11 → ∃ q13 : Nat, z12 = some q13 ∧ hasA S3 q13 8 4 ∧ inR a1 8 ∧ ∀ z14 : Option Nat, z14 = S3.2.2.2.2.1 q13 (ix a1) → ∃ q15 : Nat, z14 = some q15 ∧ ∃ q16 : Nat, o3 = some q16 ∧ hasO S3 q15 2 ∧ wp_X2_add q15 q16 S3 (fun (S17 : kS) => K S17)) ∧ (¬ z8 ≤ 0 → hasO S3 t0 6 ∧ ∀ z18 : Option Nat, z18 = S3.2.1 41 t0 → ∃ q19 : Nat, z18 = some q19 ∧ hasO S3 q19 1 ∧ wp_X1_takeLetter q19 a1 S3 (fun (S20 : kS) (r20 : Int32) => ∃ q21 : Nat, o3 = some q21 ∧ hasO S20 t0 6 ∧ wp_X6_come t0 q21 r20 S20 (fun (S22 : kS) => K S22)))))
theorem cwn_X6_220 {R : Room} {s : State} {args : Array Value} {fr lo : Nat} (hts : ∀ w ∈ tb, w.before args s = true) (h1 : fr + 1 ≤ R.frames) (h2 : 8 + (4 + 11) + lo ≤ R.locals) : CallW R s args RX6 RX1 220 yX1_newPart cX1_newPart 4 (some (.object "Sleepers$Part")) (.code yX1_newPart cX1_newPart 4 (some (.object "Sleepers$Part")) :: tb) (kRm fr lo 1 (20 * 1)) 1 (20 * 1) 2 := cwV 2 hts (gd_V wd_1046 wd_1047 wd_1048 wd_9 wd_1049) rfl rfl rfl (by decide +kernel) ⟨h1, h2⟩
theorem cw_X6_254 {R : Room} {s : State} {args : Array Value} {fr lo : Nat} (hts : ∀ w ∈ tb, w.before args s = true) (h1 : fr + 1 ≤ R.frames) (h2 : 8 + (4 + 11) + lo ≤ R.locals) : CallW R s args RX6 RX2 254 yX2_add cX2_add 4 none (.code yX2_add cX2_add 4 none :: tb) (mRm fr lo) 0 0 1 := cwV 1 hts (gd_V wd_1125 wd_1126 wd_1127 wd_10 wd_1128) rfl rfl rfl (by decide +kernel) ⟨h1, h2⟩
theorem cw_X6_247 {R : Room} {s : State} {args : Array Value} {fr lo : Nat} (hts : ∀ w ∈ tb, w.before args s = true) (h1 : fr + 1 ≤ R.frames) (h2 : 8 + (5 + 11) + lo ≤ R.locals) : CallW R s args RX6 RX1 247 yX1_takeLetter cX1_takeLetter 5 (some .int) (.code yX1_takeLetter cX1_takeLetter 5 (some .int) :: tb) (mRm fr lo) 0 0 1 := cwV 1 hts (gd_V wd_1109 wd_1110 wd_1111 wd_9 wd_1112) rfl rfl rfl (by decide +kernel) ⟨h1, h2⟩
theorem cw_X6_224 {R : Room} {s : State} {args : Array Value} {fr lo : Nat} (hts : ∀ w ∈ tb, w.before args s = true) (h1 : fr + 1 ≤ R.frames) (h2 : 8 + (3 + 11) + lo ≤ R.locals) : CallW R s args RX6 RX6 224 yX6_come cX6_come 3 none (.code yX6_come cX6_come 3 none :: tb) (mRm fr lo) 0 0 2 := cwV 2 hts (gd_V wd_1113 wd_1115 sl_X6_come wd_12 wd_1116) rfl rfl rfl (by decide +kernel) ⟨h1, h2⟩
set_option maxHeartbeats 4000000 in
set_option maxRecDepth 100000 in
theorem kt_X6_beginLetter (l : Launch) (S : kS) (t0 : Nat) (a0 : Nat) (a1 : Int32) (K : kS → Prop) (h : wp_X6_beginLetter t0 a0 a1 S K) : nMv l yX6_beginLetter cX6_beginLetter 4 none 3 66 1 [.ref t0, .ref a0, .int a1] S K := by
  refine nv_ofv (own := RX6) (by decide) rfl (Nat.le_of_ble_eq_true rfl) ?_
  intro E p e R s m args below meth c A ls Q hRf hRl hRc hRs hX hC hl hmL hini hret
  obtain ⟨n0, hn⟩ : ∃ n0, cnt S = n0 := ⟨_, rfl⟩
  rw [hn] at hret ⊢
  have hx := hX.1.1
  have hb := hX.1.2.1
  have hown := hX.1.2.2.2.1
  have hts := hX.1.2.2.2.2
  have hl : lv_has ls 4 [(0, .ref t0), (1, .ref a0), (2, .int a1)] := hl
  unfold wp_X6_beginLetter at h
  refine lv_aload_n hx hb dX6_beginLetter_0 rfl (lv_at hl 0 rfl) ?_
  refine cq_getr (ci := 6) (k := 3) (f := 41) hX hC rfl in_X6 (by decide) wd_307 (fun _ h9 => h9) (fun _ _ => rfl) dX6_beginLetter_1 h (fun z1 h => ?_)
  refine lv_aload_n hx hb dX6_beginLetter_4 rfl (lv_at hl 1 rfl) ?_
  refine lv_iconst (v := 0) hx hb dX6_beginLetter_5 (by decide) ?_
  obtain ⟨q2, e9, hh⟩ := h
  subst e9
  have h := hh
  clear hh
  refine nv_callo [.ref a0, .int 0] (rest := []) (ci := 1) rfl hX hC h.1 (kt_X1_newPart l S q2 a0 0 _ h.2 E _) (cwn_X6_220 hts (by omega) (by omega)) rfl hl.1 (Nat.le_of_ble_eq_true rfl) ⟨by omega, by omega⟩ dX6_beginLetter_6 (fun o3 S3 H locs hC hn1 hn2 h => ?_)
  obtain ⟨n3, hn9⟩ : ∃ n9, cnt S3 = n9 := ⟨_, rfl⟩
  have hb9 : n0 ≤ n3 ∧ n3 ≤ n0 + 1 := by omega
  refine W.widen (k := n3 - n0) (n := 20 * (n3 - n0)) (by omega) (by omega) ?_
  replace hn := hn9
  refine lo_astore_n (lv' := [(3, va_rf o3), (0, .ref t0), (1, .ref a0), (2, .int a1)]) hx hb dX6_beginLetter_9 rfl hl (by decide) (by rcases o3 with _ | _ <;> rfl) (fun ls hl => ?_)
  refine lv_aload_n hx hb dX6_beginLetter_10 rfl (lv_at hl 1 rfl) ?_
  refine cq_getr (ci := 6) (k := 3) (f := 41) hX hC rfl in_X6 (by decide) wd_307 (fun _ h9 => h9) (fun _ _ => rfl) dX6_beginLetter_11 h (fun z4 h => ?_)
  obtain ⟨q5, e9, hh⟩ := h
  subst e9
  have h := hh
  clear hh
  refine cq_getr (ci := 1) (k := 8) (f := 6) hX hC rfl in_X1 (by decide) wd_251 (fun _ h9 => h9) (fun _ _ => rfl) dX6_beginLetter_14 h (fun z6 h => ?_)
  refine lv_iload_n hx hb dX6_beginLetter_17 rfl (lv_at hl 3 rfl) ?_
  obtain ⟨q7, e9, hh⟩ := h
  subst e9
  have h := hh
  clear hh
  refine cq_ild hX hC dX6_beginLetter_18 h (fun z8 h => ?_)
  refine lv_if_le (tgt := 38) hx hb dX6_beginLetter_19 (by decide) (fun c9 => ?_) (fun c9 => ?_)
  · have h := h.1 c9
    refine lv_aload_n hx hb dX6_beginLetter_38 rfl (lv_at hl 1 rfl) ?_
    refine cq_getr (ci := 6) (k := 3) (f := 41) hX hC rfl in_X6 (by decide) wd_307 (fun _ h9 => h9) (fun _ _ => rfl) dX6_beginLetter_39 h (fun z10 h => ?_)
    obtain ⟨q11, e9, hh⟩ := h
    subst e9
    have h := hh
    clear hh
    refine cq_getr (ci := 1) (k := 9) (f := 7) hX hC rfl in_X1 (by decide) wd_254 (fun _ h9 => h9) (fun _ _ => rfl) dX6_beginLetter_42 h (fun z12 h => ?_)
    refine lv_iload_n hx hb dX6_beginLetter_45 rfl (lv_at hl 3 rfl) ?_
    obtain ⟨q13, e9, hh⟩ := h
    subst e9
    have h := hh
    clear hh
    refine cq_qld4 hX hC dX6_beginLetter_46 h (fun z14 h => ?_)
    refine lo_aload_n hx hb dX6_beginLetter_47 rfl (lv_at hl 0 rfl) ?_
    obtain ⟨q15, e9, hh⟩ := h
    subst e9
    have h := hh
    clear hh
    obtain ⟨q16, e9, hh⟩ := h
    subst e9
    have h := hh
    clear hh
    refine kv_callv [.ref q16] (rest := []) (ci := 2) rfl hX hC h.1 (kt_X2_add l S3 q15 q16 _ (km_X2_add _ _ _ _ _ (fun S9 hF h => And.intro h (show cnt S9 = n3 by show S9.2.2.2.2.2.length = _; rw [hF.2.2.2.2.2]; exact hn)) h.2) E _) (cw_X6_254 hts (by omega) (by omega)) rfl hl.1 (Nat.le_of_ble_eq_true rfl) ⟨by omega, by omega⟩ dX6_beginLetter_48 (fun S17 H locs hC hh => ?_)
    obtain ⟨h, hn⟩ := hh
    exact hret _ n3 _ _ _ _ hC hn (by omega) (by omega) h dX6_beginLetter_51
  · have h := h.2 c9
    refine lv_aload_n hx hb dX6_beginLetter_22 rfl (lv_at hl 1 rfl) ?_
    refine lo_aload_n hx hb dX6_beginLetter_23 rfl (lv_at hl 0 rfl) ?_
    refine lv_aload_n hx hb dX6_beginLetter_24 rfl (lv_at hl 1 rfl) ?_
    refine cq_getr (ci := 6) (k := 3) (f := 41) hX hC rfl in_X6 (by decide) wd_307 (fun _ h9 => h9) (fun _ _ => rfl) dX6_beginLetter_25 h (fun z18 h => ?_)
    refine lv_iload_n hx hb dX6_beginLetter_28 rfl (lv_at hl 3 rfl) ?_
    obtain ⟨q19, e9, hh⟩ := h
    subst e9
    have h := hh
    clear hh
    refine kv_calli [.int a1] (rest := [va_rf o3, .ref t0]) (ci := 1) rfl hX hC h.1 (kt_X1_takeLetter l S3 q19 a1 _ (km_X1_takeLetter _ _ _ _ _ (fun S9 r9 hF h => And.intro h (show cnt S9 = n3 by show S9.2.2.2.2.2.length = _; rw [hF.2.2.2.2.2]; exact hn)) h.2) E _) (cw_X6_247 hts (by omega) (by omega)) rfl hl.1 (by rcases o3 with _ | _ <;> exact Nat.le_of_ble_eq_true rfl) ⟨by omega, by omega⟩ dX6_beginLetter_29 (fun r20 S20 H locs hC hh => ?_)
    obtain ⟨h, hn⟩ := hh
    obtain ⟨q21, e9, hh⟩ := h
    subst e9
    have h := hh
    clear hh
    refine kv_callv [.ref q21, .int r20] (rest := []) (ci := 6) rfl hX hC h.1 (kt_X6_come l S20 t0 q21 r20 _ (km_X6_come _ _ _ _ _ _ (fun S9 hF h => And.intro h (show cnt S9 = n3 by show S9.2.2.2.2.2.length = _; rw [hF.2.2.2.2.2]; exact hn)) h.2) E _) (cw_X6_224 hts (by omega) (by omega)) rfl hl.1 (Nat.le_of_ble_eq_true rfl) ⟨by omega, by omega⟩ dX6_beginLetter_32 (fun S22 H locs hC hh => ?_)
    obtain ⟨h, hn⟩ := hh
    refine lv_goto (tgt := 51) hx hb dX6_beginLetter_35 (by decide) ?_
    exact hret _ n3 _ _ _ _ hC hn (by omega) (by omega) h dX6_beginLetter_51
def wp_X6_beginTick (t0 : Nat) (a0 : Nat) (a1 : Int32) (S : kS) (K : kS → Prop) : Prop := hasO S t0 6 ∧ ∀ z1 : Option Nat, z1 = S.2.1 41 t0 → ∃ q2 : Nat, z1 = some q2 ∧ hasO S q2 1 ∧ wp_X1_newPart q2 a0 2 S (fun (S3 : kS) (o3 : Option Nat) => ((0 < a1 → hasO S3 t0 6 ∧ ∀ z5 : Option Nat, z5 = S3.2.1 41 t0 → ∃ q6 : Nat, z5 = some q6 ∧ ∃ q7 : Nat, o3 = some q7 ∧ hasO S3 q6 1 ∧ wp_X1_setAlarm q6 q7 a1 S3 (fun (S8 : kS) => K S8)) ∧ (¬ 0 < a1 → ∃ q9 : Nat, o3 = some q9 ∧ hasO S3 t0 6 ∧ wp_X6_come t0 q9 0 S3 (fun (S10 : kS) => K S10))))
set_option maxHeartbeats 4000000 in
set_option maxRecDepth 100000 in
theorem kt_X6_beginTick (l : Launch) (S : kS) (t0 : Nat) (a0 : Nat) (a1 : Int32) (K : kS → Prop) (h : wp_X6_beginTick t0 a0 a1 S K) : nMv l yX6_beginTick cX6_beginTick 4 none 3 66 1 [.ref t0, .ref a0, .int a1] S K := by
  refine nv_ofv (own := RX6) (by decide) rfl (Nat.le_of_ble_eq_true rfl) ?_
  intro E p e R s m args below meth c A ls Q hRf hRl hRc hRs hX hC hl hmL hini hret
  obtain ⟨n0, hn⟩ : ∃ n0, cnt S = n0 := ⟨_, rfl⟩
  rw [hn] at hret ⊢
  have hx := hX.1.1
  have hb := hX.1.2.1
  have hown := hX.1.2.2.2.1
  have hts := hX.1.2.2.2.2
  have hl : lv_has ls 4 [(0, .ref t0), (1, .ref a0), (2, .int a1)] := hl
  unfold wp_X6_beginTick at h
  refine lv_aload_n hx hb dX6_beginTick_0 rfl (lv_at hl 0 rfl) ?_
  refine cq_getr (ci := 6) (k := 3) (f := 41) hX hC rfl in_X6 (by decide) wd_307 (fun _ h9 => h9) (fun _ _ => rfl) dX6_beginTick_1 h (fun z1 h => ?_)
  refine lv_aload_n hx hb dX6_beginTick_4 rfl (lv_at hl 1 rfl) ?_
  refine lv_iconst (v := 2) hx hb dX6_beginTick_5 (by decide) ?_
  obtain ⟨q2, e9, hh⟩ := h
  subst e9
  have h := hh
  clear hh
  refine nv_callo [.ref a0, .int 2] (rest := []) (ci := 1) rfl hX hC h.1 (kt_X1_newPart l S q2 a0 2 _ h.2 E _) (cwn_X6_220 hts (by omega) (by omega)) rfl hl.1 (Nat.le_of_ble_eq_true rfl) ⟨by omega, by omega⟩ dX6_beginTick_6 (fun o3 S3 H locs hC hn1 hn2 h => ?_)
  obtain ⟨n3, hn9⟩ : ∃ n9, cnt S3 = n9 := ⟨_, rfl⟩
  have hb9 : n0 ≤ n3 ∧ n3 ≤ n0 + 1 := by omega
  refine W.widen (k := n3 - n0) (n := 20 * (n3 - n0)) (by omega) (by omega) ?_
  replace hn := hn9
  refine lo_astore_n (lv' := [(3, va_rf o3), (0, .ref t0), (1, .ref a0), (2, .int a1)]) hx hb dX6_beginTick_9 rfl hl (by decide) (by rcases o3 with _ | _ <;> rfl) (fun ls hl => ?_)
  refine lv_iload_n hx hb dX6_beginTick_10 rfl (lv_at hl 3 rfl) ?_
  refine lv_if_gt (tgt := 23) hx hb dX6_beginTick_11 (by decide) (fun c4 => ?_) (fun c4 => ?_)
  · have h := h.1 c4
    refine lv_aload_n hx hb dX6_beginTick_23 rfl (lv_at hl 1 rfl) ?_
    refine cq_getr (ci := 6) (k := 3) (f := 41) hX hC rfl in_X6 (by decide) wd_307 (fun _ h9 => h9) (fun _ _ => rfl) dX6_beginTick_24 h (fun z5 h => ?_)
    refine lo_aload_n hx hb dX6_beginTick_27 rfl (lv_at hl 0 rfl) ?_
    refine lv_iload_n hx hb dX6_beginTick_28 rfl (lv_at hl 3 rfl) ?_
    obtain ⟨q6, e9, hh⟩ := h
    subst e9
    have h := hh
    clear hh
    obtain ⟨q7, e9, hh⟩ := h
    subst e9
    have h := hh
    clear hh
    refine kv_callv [.ref q7, .int a1] (rest := []) (ci := 1) rfl hX hC h.1 (kt_X1_setAlarm l S3 q6 q7 a1 _ (km_X1_setAlarm _ _ _ _ _ _ (fun S9 hF h => And.intro h (show cnt S9 = n3 by show S9.2.2.2.2.2.length = _; rw [hF.2.2.2.2.2]; exact hn)) h.2) E _) (cw_X6_260 hts (by omega) (by omega)) rfl hl.1 (Nat.le_of_ble_eq_true rfl) ⟨by omega, by omega⟩ dX6_beginTick_29 (fun S8 H locs hC hh => ?_)
    obtain ⟨h, hn⟩ := hh
    exact hret _ n3 _ _ _ _ hC hn (by omega) (by omega) h dX6_beginTick_32
  · have h := h.2 c4
    refine lv_aload_n hx hb dX6_beginTick_14 rfl (lv_at hl 1 rfl) ?_
    refine lo_aload_n hx hb dX6_beginTick_15 rfl (lv_at hl 0 rfl) ?_
    refine lv_iconst (v := 0) hx hb dX6_beginTick_16 (by decide) ?_
    obtain ⟨q9, e9, hh⟩ := h
    subst e9
    have h := hh
    clear hh
    refine kv_callv [.ref q9, .int 0] (rest := []) (ci := 6) rfl hX hC h.1 (kt_X6_come l S3 t0 q9 0 _ (km_X6_come _ _ _ _ _ _ (fun S9 hF h => And.intro h (show cnt S9 = n3 by show S9.2.2.2.2.2.length = _; rw [hF.2.2.2.2.2]; exact hn)) h.2) E _) (cw_X6_224 hts (by omega) (by omega)) rfl hl.1 (Nat.le_of_ble_eq_true rfl) ⟨by omega, by omega⟩ dX6_beginTick_17 (fun S10 H locs hC hh => ?_)
    obtain ⟨h, hn⟩ := hh
    refine lv_goto (tgt := 32) hx hb dX6_beginTick_20 (by decide) ?_
    exact hret _ n3 _ _ _ _ hC hn (by omega) (by omega) h dX6_beginTick_32
