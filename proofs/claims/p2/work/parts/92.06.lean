theorem wd_255 : (Jvm.Cond.fieldLink "Sleepers" (195 : Nat) "Sleepers$Hall" "lines" "[LSleepers$Line;") ∈ tb := tb_at 255 (by decide +kernel) (by decide +kernel)
theorem wd_426 : (Jvm.Cond.fieldLink "Sleepers" (112 : Nat) "Sleepers$Program" "cells" "[I") ∈ tb := tb_at 426 (by decide +kernel) (by decide +kernel)
theorem wd_790 : (Jvm.Cond.methodLink "Sleepers" (118 : Nat) ({ cls := "Sleepers$Program", name := "hasState", desc := "(II)Z" } : Jvm.MethodName)) ∈ tb := tb_at 790 (by decide +kernel) (by decide +kernel)
theorem wd_791 : (Jvm.Cond.instanceMethod ({ cls := "Sleepers$Program", name := "hasState", desc := "(II)Z" } : Jvm.MethodName)) ∈ tb := tb_at 791 (by decide +kernel) (by decide +kernel)
theorem wd_792 : (Jvm.Cond.selects "Sleepers$Program" ({ cls := "Sleepers$Program", name := "hasState", desc := "(II)Z" } : Jvm.MethodName) ({ cls := "Sleepers$Program", name := "hasState", desc := "(II)Z" } : Jvm.MethodName)) ∈ tb := tb_at 792 (by decide +kernel) (by decide +kernel)
theorem wd_793 : (Jvm.Cond.code ({ cls := "Sleepers$Program", name := "hasState", desc := "(II)Z" } : Jvm.MethodName) prog_7_method_4_code (3 : Nat) (Option.some Jvm.ClassFile.FieldType.boolean)) ∈ tb := tb_at 793 (by decide +kernel) (by decide +kernel)
theorem wd_794 : (Jvm.Cond.methodLink "Sleepers" (122 : Nat) ({ cls := "Sleepers$Tables", name := "readsFirst", desc := "(LSleepers$Program;III)Z" } : Jvm.MethodName)) ∈ tb := tb_at 794 (by decide +kernel) (by decide +kernel)
theorem wd_795 : (Jvm.Cond.instanceMethod ({ cls := "Sleepers$Tables", name := "readsFirst", desc := "(LSleepers$Program;III)Z" } : Jvm.MethodName)) ∈ tb := tb_at 795 (by decide +kernel) (by decide +kernel)
theorem wd_796 : (Jvm.Cond.selects "Sleepers$Tables" ({ cls := "Sleepers$Tables", name := "readsFirst", desc := "(LSleepers$Program;III)Z" } : Jvm.MethodName) ({ cls := "Sleepers$Tables", name := "readsFirst", desc := "(LSleepers$Program;III)Z" } : Jvm.MethodName)) ∈ tb := tb_at 796 (by decide +kernel) (by decide +kernel)
theorem wd_797 : (Jvm.Cond.code ({ cls := "Sleepers$Tables", name := "readsFirst", desc := "(LSleepers$Program;III)Z" } : Jvm.MethodName) prog_10_method_2_code (9 : Nat) (Option.some Jvm.ClassFile.FieldType.boolean)) ∈ tb := tb_at 797 (by decide +kernel) (by decide +kernel)
theorem wd_798 : (Jvm.Cond.methodLink "Sleepers$Tables" (18 : Nat) ({ cls := "Sleepers$Tables", name := "set", desc := "(LSleepers$Program;II)V" } : Jvm.MethodName)) ∈ tb := tb_at 798 (by decide +kernel) (by decide +kernel)
theorem wd_800 : (Jvm.Cond.instanceMethod ({ cls := "Sleepers$Tables", name := "set", desc := "(LSleepers$Program;II)V" } : Jvm.MethodName)) ∈ tb := tb_at 800 (by decide +kernel) (by decide +kernel)
theorem wd_801 : (Jvm.Cond.code ({ cls := "Sleepers$Tables", name := "set", desc := "(LSleepers$Program;II)V" } : Jvm.MethodName) prog_10_method_4_code (4 : Nat) (Option.none : Option Jvm.ClassFile.FieldType)) ∈ tb := tb_at 801 (by decide +kernel) (by decide +kernel)
theorem wd_843 : (Jvm.Cond.methodLink "Sleepers" (126 : Nat) ({ cls := "Sleepers$Tables", name := "leadsTo", desc := "(LSleepers$Program;III)Z" } : Jvm.MethodName)) ∈ tb := tb_at 843 (by decide +kernel) (by decide +kernel)
theorem wd_844 : (Jvm.Cond.instanceMethod ({ cls := "Sleepers$Tables", name := "leadsTo", desc := "(LSleepers$Program;III)Z" } : Jvm.MethodName)) ∈ tb := tb_at 844 (by decide +kernel) (by decide +kernel)
theorem wd_845 : (Jvm.Cond.selects "Sleepers$Tables" ({ cls := "Sleepers$Tables", name := "leadsTo", desc := "(LSleepers$Program;III)Z" } : Jvm.MethodName) ({ cls := "Sleepers$Tables", name := "leadsTo", desc := "(LSleepers$Program;III)Z" } : Jvm.MethodName)) ∈ tb := tb_at 845 (by decide +kernel) (by decide +kernel)
theorem wd_846 : (Jvm.Cond.code ({ cls := "Sleepers$Tables", name := "leadsTo", desc := "(LSleepers$Program;III)Z" } : Jvm.MethodName) prog_10_method_3_code (8 : Nat) (Option.some Jvm.ClassFile.FieldType.boolean)) ∈ tb := tb_at 846 (by decide +kernel) (by decide +kernel)
theorem wd_863 : (Jvm.Cond.fieldLink "Sleepers$Line" (38 : Nat) "Sleepers$Task" "number" "I") ∈ tb := tb_at 863 (by decide +kernel) (by decide +kernel)
theorem wd_1056 : (Jvm.Cond.fieldLink "Sleepers$Line" (34 : Nat) "Sleepers$Part" "owner" "LSleepers$Task;") ∈ tb := tb_at 1056 (by decide +kernel) (by decide +kernel)
theorem wd_1268 : (Jvm.Cond.methodLink "Sleepers" (199 : Nat) ({ cls := "Sleepers$Line", name := "taskAt", desc := "(I)I" } : Jvm.MethodName)) ∈ tb := tb_at 1268 (by decide +kernel) (by decide +kernel)
theorem wd_1269 : (Jvm.Cond.instanceMethod ({ cls := "Sleepers$Line", name := "taskAt", desc := "(I)I" } : Jvm.MethodName)) ∈ tb := tb_at 1269 (by decide +kernel) (by decide +kernel)
theorem wd_1270 : (Jvm.Cond.selects "Sleepers$Line" ({ cls := "Sleepers$Line", name := "taskAt", desc := "(I)I" } : Jvm.MethodName) ({ cls := "Sleepers$Line", name := "taskAt", desc := "(I)I" } : Jvm.MethodName)) ∈ tb := tb_at 1270 (by decide +kernel) (by decide +kernel)
theorem wd_1271 : (Jvm.Cond.code ({ cls := "Sleepers$Line", name := "taskAt", desc := "(I)I" } : Jvm.MethodName) prog_4_method_4_code (4 : Nat) (Option.some Jvm.ClassFile.FieldType.int)) ∈ tb := tb_at 1271 (by decide +kernel) (by decide +kernel)
theorem sl_X8_set : Cond.selects RX8 yX8_set yX8_set ∈ tb := sl_of (y := ⟨"Sleepers$Tables", "set", "(LSleepers$Program;II)V"⟩) (n := 5) (by decide +kernel) (by decide +kernel)
theorem dX11_live_0 : decode cX11_live 0 = .ok (.aload_n 0, 1) := by decide +kernel
theorem dX11_live_1 : decode cX11_live 1 = .ok (.getfield 51, 3) := by decide +kernel
theorem dX11_live_4 : decode cX11_live 4 = .ok (.iload_n 1, 1) := by decide +kernel
theorem dX11_live_5 : decode cX11_live 5 = .ok (.iload_n 2, 1) := by decide +kernel
theorem dX11_live_6 : decode cX11_live 6 = .ok (.invokevirtual 118, 3) := by decide +kernel
theorem dX11_live_9 : decode cX11_live 9 = .ok (.ifCond .eq 20, 3) := by decide +kernel
theorem dX11_live_12 : decode cX11_live 12 = .ok (.iload_n 3, 1) := by decide +kernel
theorem dX11_live_13 : decode cX11_live 13 = .ok (.ifCond .lt 16, 3) := by decide +kernel
theorem dX11_live_16 : decode cX11_live 16 = .ok (.iload_n 3, 1) := by decide +kernel
theorem dX11_live_17 : decode cX11_live 17 = .ok (.aload_n 0, 1) := by decide +kernel
theorem dX11_live_18 : decode cX11_live 18 = .ok (.getfield 51, 3) := by decide +kernel
theorem dX11_live_21 : decode cX11_live 21 = .ok (.getfield 112, 3) := by decide +kernel
theorem dX11_live_24 : decode cX11_live 24 = .ok (.iload_n 1, 1) := by decide +kernel
theorem dX11_live_25 : decode cX11_live 25 = .ok (.iaload, 1) := by decide +kernel
theorem dX11_live_26 : decode cX11_live 26 = .ok (.if_icmp .lt 5, 3) := by decide +kernel
theorem dX11_live_29 : decode cX11_live 29 = .ok (.iconst (-1), 1) := by decide +kernel
theorem dX11_live_30 : decode cX11_live 30 = .ok (.ireturn, 1) := by decide +kernel
theorem dX11_live_31 : decode cX11_live 31 = .ok (.aload_n 0, 1) := by decide +kernel
theorem dX11_live_32 : decode cX11_live 32 = .ok (.getfield 28, 3) := by decide +kernel
theorem dX11_live_35 : decode cX11_live 35 = .ok (.aload_n 0, 1) := by decide +kernel
theorem dX11_live_36 : decode cX11_live 36 = .ok (.getfield 51, 3) := by decide +kernel
theorem dX11_live_39 : decode cX11_live 39 = .ok (.iload_n 1, 1) := by decide +kernel
theorem dX11_live_40 : decode cX11_live 40 = .ok (.iload_n 2, 1) := by decide +kernel
theorem dX11_live_41 : decode cX11_live 41 = .ok (.iload_n 3, 1) := by decide +kernel
theorem dX11_live_42 : decode cX11_live 42 = .ok (.invokevirtual 122, 3) := by decide +kernel
theorem dX11_live_45 : decode cX11_live 45 = .ok (.ifCond .eq 7, 3) := by decide +kernel
theorem dX11_live_48 : decode cX11_live 48 = .ok (.iconst 1, 1) := by decide +kernel
theorem dX11_live_49 : decode cX11_live 49 = .ok (.goto 4, 3) := by decide +kernel
theorem dX11_live_52 : decode cX11_live 52 = .ok (.iconst 0, 1) := by decide +kernel
theorem dX11_live_53 : decode cX11_live 53 = .ok (.ireturn, 1) := by decide +kernel
theorem dX11_lost_0 : decode cX11_lost 0 = .ok (.aload_n 0, 1) := by decide +kernel
theorem dX11_lost_1 : decode cX11_lost 1 = .ok (.getfield 35, 3) := by decide +kernel
theorem dX11_lost_4 : decode cX11_lost 4 = .ok (.getfield 186, 3) := by decide +kernel
theorem dX11_lost_7 : decode cX11_lost 7 = .ok (.iload_n 1, 1) := by decide +kernel
theorem dX11_lost_8 : decode cX11_lost 8 = .ok (.iload_n 2, 1) := by decide +kernel
theorem dX11_lost_9 : decode cX11_lost 9 = .ok (.invokevirtual 184, 3) := by decide +kernel
theorem dX11_lost_12 : decode cX11_lost 12 = .ok (.ireturn, 1) := by decide +kernel
theorem dX11_next_0 : decode cX11_next 0 = .ok (.aload_n 0, 1) := by decide +kernel
theorem dX11_next_1 : decode cX11_next 1 = .ok (.getfield 51, 3) := by decide +kernel
theorem dX11_next_4 : decode cX11_next 4 = .ok (.iload_n 1, 1) := by decide +kernel
theorem dX11_next_5 : decode cX11_next 5 = .ok (.iload_n 2, 1) := by decide +kernel
theorem dX11_next_6 : decode cX11_next 6 = .ok (.invokevirtual 118, 3) := by decide +kernel
theorem dX11_next_9 : decode cX11_next 9 = .ok (.ifCond .eq 15, 3) := by decide +kernel
theorem dX11_next_12 : decode cX11_next 12 = .ok (.aload_n 0, 1) := by decide +kernel
theorem dX11_next_13 : decode cX11_next 13 = .ok (.getfield 51, 3) := by decide +kernel
theorem dX11_next_16 : decode cX11_next 16 = .ok (.iload_n 1, 1) := by decide +kernel
theorem dX11_next_17 : decode cX11_next 17 = .ok (.iload_n 3, 1) := by decide +kernel
theorem dX11_next_18 : decode cX11_next 18 = .ok (.invokevirtual 118, 3) := by decide +kernel
theorem dX11_next_21 : decode cX11_next 21 = .ok (.ifCond .ne 5, 3) := by decide +kernel
theorem dX11_next_24 : decode cX11_next 24 = .ok (.iconst (-1), 1) := by decide +kernel
theorem dX11_next_25 : decode cX11_next 25 = .ok (.ireturn, 1) := by decide +kernel
theorem dX11_next_26 : decode cX11_next 26 = .ok (.aload_n 0, 1) := by decide +kernel
theorem dX11_next_27 : decode cX11_next 27 = .ok (.getfield 28, 3) := by decide +kernel
theorem dX11_next_30 : decode cX11_next 30 = .ok (.aload_n 0, 1) := by decide +kernel
theorem dX11_next_31 : decode cX11_next 31 = .ok (.getfield 51, 3) := by decide +kernel
theorem dX11_next_34 : decode cX11_next 34 = .ok (.iload_n 1, 1) := by decide +kernel
theorem dX11_next_35 : decode cX11_next 35 = .ok (.iload_n 2, 1) := by decide +kernel
theorem dX11_next_36 : decode cX11_next 36 = .ok (.iload_n 3, 1) := by decide +kernel
theorem dX11_next_37 : decode cX11_next 37 = .ok (.invokevirtual 126, 3) := by decide +kernel
theorem dX11_next_40 : decode cX11_next 40 = .ok (.ifCond .eq 7, 3) := by decide +kernel
theorem dX11_next_43 : decode cX11_next 43 = .ok (.iconst 1, 1) := by decide +kernel
theorem dX11_next_44 : decode cX11_next 44 = .ok (.goto 4, 3) := by decide +kernel
theorem dX11_next_47 : decode cX11_next 47 = .ok (.iconst 0, 1) := by decide +kernel
theorem dX11_next_48 : decode cX11_next 48 = .ok (.ireturn, 1) := by decide +kernel
theorem dX11_put_0 : decode cX11_put 0 = .ok (.aload_n 0, 1) := by decide +kernel
theorem dX11_put_1 : decode cX11_put 1 = .ok (.getfield 44, 3) := by decide +kernel
theorem dX11_put_4 : decode cX11_put 4 = .ok (.getfield 76, 3) := by decide +kernel
theorem dX11_put_7 : decode cX11_put 7 = .ok (.iload_n 1, 1) := by decide +kernel
theorem dX11_put_8 : decode cX11_put 8 = .ok (.iload_n 2, 1) := by decide +kernel
theorem dX11_put_9 : decode cX11_put 9 = .ok (.invokevirtual 184, 3) := by decide +kernel
theorem dX11_put_12 : decode cX11_put 12 = .ok (.ireturn, 1) := by decide +kernel
theorem dX11_row_0 : decode cX11_row 0 = .ok (.iload_n 1, 1) := by decide +kernel
theorem dX11_row_1 : decode cX11_row 1 = .ok (.ifCond .lt 14, 3) := by decide +kernel
theorem dX11_row_4 : decode cX11_row 4 = .ok (.iload_n 1, 1) := by decide +kernel
theorem dX11_row_5 : decode cX11_row 5 = .ok (.aload_n 0, 1) := by decide +kernel
theorem dX11_row_6 : decode cX11_row 6 = .ok (.getfield 35, 3) := by decide +kernel
theorem dX11_row_9 : decode cX11_row 9 = .ok (.getfield 178, 3) := by decide +kernel
theorem dX11_row_12 : decode cX11_row 12 = .ok (.if_icmp .lt 7, 3) := by decide +kernel
theorem dX11_row_15 : decode cX11_row 15 = .ok (.iconst (-1), 1) := by decide +kernel
theorem dX11_row_16 : decode cX11_row 16 = .ok (.goto 12, 3) := by decide +kernel
theorem dX11_row_19 : decode cX11_row 19 = .ok (.aload_n 0, 1) := by decide +kernel
theorem dX11_row_20 : decode cX11_row 20 = .ok (.getfield 35, 3) := by decide +kernel
theorem dX11_row_23 : decode cX11_row 23 = .ok (.getfield 181, 3) := by decide +kernel
theorem dX11_row_26 : decode cX11_row 26 = .ok (.iload_n 1, 1) := by decide +kernel
theorem dX11_row_27 : decode cX11_row 27 = .ok (.iaload, 1) := by decide +kernel
theorem dX11_row_28 : decode cX11_row 28 = .ok (.ireturn, 1) := by decide +kernel
theorem dX11_stands_0 : decode cX11_stands 0 = .ok (.iload_n 1, 1) := by decide +kernel
theorem dX11_stands_1 : decode cX11_stands 1 = .ok (.ifCond .lt 9, 3) := by decide +kernel
theorem dX11_stands_4 : decode cX11_stands 4 = .ok (.iload_n 1, 1) := by decide +kernel
theorem dX11_stands_5 : decode cX11_stands 5 = .ok (.bipush 8, 2) := by decide +kernel
theorem dX11_stands_7 : decode cX11_stands 7 = .ok (.if_icmp .lt 7, 3) := by decide +kernel
theorem dX11_stands_10 : decode cX11_stands 10 = .ok (.iconst (-1), 1) := by decide +kernel
theorem dX11_stands_11 : decode cX11_stands 11 = .ok (.goto 16, 3) := by decide +kernel
theorem dX11_stands_14 : decode cX11_stands 14 = .ok (.aload_n 0, 1) := by decide +kernel
theorem dX11_stands_15 : decode cX11_stands 15 = .ok (.getfield 35, 3) := by decide +kernel
theorem dX11_stands_18 : decode cX11_stands 18 = .ok (.getfield 195, 3) := by decide +kernel
theorem dX11_stands_21 : decode cX11_stands 21 = .ok (.iload_n 1, 1) := by decide +kernel
theorem dX11_stands_22 : decode cX11_stands 22 = .ok (.aaload, 1) := by decide +kernel
theorem dX11_stands_23 : decode cX11_stands 23 = .ok (.iload_n 2, 1) := by decide +kernel
theorem dX11_stands_24 : decode cX11_stands 24 = .ok (.invokevirtual 199, 3) := by decide +kernel
theorem dX11_stands_27 : decode cX11_stands 27 = .ok (.ireturn, 1) := by decide +kernel
theorem dX2_taskAt_0 : decode cX2_taskAt 0 = .ok (.iload_n 1, 1) := by decide +kernel
theorem dX2_taskAt_1 : decode cX2_taskAt 1 = .ok (.ifCond .ge 7, 3) := by decide +kernel
theorem dX2_taskAt_4 : decode cX2_taskAt 4 = .ok (.aconst_null, 1) := by decide +kernel
theorem dX2_taskAt_5 : decode cX2_taskAt 5 = .ok (.goto 7, 3) := by decide +kernel
theorem dX2_taskAt_8 : decode cX2_taskAt 8 = .ok (.aload_n 0, 1) := by decide +kernel
theorem dX2_taskAt_9 : decode cX2_taskAt 9 = .ok (.getfield 24, 3) := by decide +kernel
theorem dX2_taskAt_12 : decode cX2_taskAt 12 = .ok (.astore_n 2, 1) := by decide +kernel
theorem dX2_taskAt_13 : decode cX2_taskAt 13 = .ok (.iconst 0, 1) := by decide +kernel
theorem dX2_taskAt_14 : decode cX2_taskAt 14 = .ok (.istore_n 3, 1) := by decide +kernel
theorem dX2_taskAt_15 : decode cX2_taskAt 15 = .ok (.iload_n 3, 1) := by decide +kernel
theorem dX2_taskAt_16 : decode cX2_taskAt 16 = .ok (.iload_n 1, 1) := by decide +kernel
theorem dX2_taskAt_17 : decode cX2_taskAt 17 = .ok (.if_icmp .ge 18, 3) := by decide +kernel
theorem dX2_taskAt_20 : decode cX2_taskAt 20 = .ok (.aload_n 2, 1) := by decide +kernel
theorem dX2_taskAt_21 : decode cX2_taskAt 21 = .ok (.ifnull 14, 3) := by decide +kernel
theorem dX2_taskAt_24 : decode cX2_taskAt 24 = .ok (.aload_n 2, 1) := by decide +kernel
theorem dX2_taskAt_25 : decode cX2_taskAt 25 = .ok (.getfield 27, 3) := by decide +kernel
theorem dX2_taskAt_28 : decode cX2_taskAt 28 = .ok (.astore_n 2, 1) := by decide +kernel
theorem dX2_taskAt_29 : decode cX2_taskAt 29 = .ok (.iinc 3 1, 3) := by decide +kernel
theorem dX2_taskAt_32 : decode cX2_taskAt 32 = .ok (.goto (-17), 3) := by decide +kernel
theorem dX2_taskAt_35 : decode cX2_taskAt 35 = .ok (.aload_n 2, 1) := by decide +kernel
theorem dX2_taskAt_36 : decode cX2_taskAt 36 = .ok (.ifnonnull 7, 3) := by decide +kernel
theorem dX2_taskAt_39 : decode cX2_taskAt 39 = .ok (.iconst (-1), 1) := by decide +kernel
theorem dX2_taskAt_40 : decode cX2_taskAt 40 = .ok (.goto 10, 3) := by decide +kernel
theorem dX2_taskAt_43 : decode cX2_taskAt 43 = .ok (.aload_n 2, 1) := by decide +kernel
theorem dX2_taskAt_44 : decode cX2_taskAt 44 = .ok (.getfield 34, 3) := by decide +kernel
theorem dX2_taskAt_47 : decode cX2_taskAt 47 = .ok (.getfield 38, 3) := by decide +kernel
theorem dX2_taskAt_50 : decode cX2_taskAt 50 = .ok (.ireturn, 1) := by decide +kernel
theorem dX8_leadsTo_0 : decode cX8_leadsTo 0 = .ok (.aload_n 0, 1) := by decide +kernel
theorem dX8_leadsTo_1 : decode cX8_leadsTo 1 = .ok (.aload_n 1, 1) := by decide +kernel
theorem dX8_leadsTo_2 : decode cX8_leadsTo 2 = .ok (.iload_n 2, 1) := by decide +kernel
theorem dX8_leadsTo_3 : decode cX8_leadsTo 3 = .ok (.iload_n 3, 1) := by decide +kernel
theorem dX8_leadsTo_4 : decode cX8_leadsTo 4 = .ok (.invokevirtual 18, 3) := by decide +kernel
theorem dX8_leadsTo_7 : decode cX8_leadsTo 7 = .ok (.iconst 0, 1) := by decide +kernel
theorem dX8_leadsTo_8 : decode cX8_leadsTo 8 = .ok (.istore 5, 2) := by decide +kernel
theorem dX8_leadsTo_10 : decode cX8_leadsTo 10 = .ok (.iload 5, 2) := by decide +kernel
theorem dX8_leadsTo_12 : decode cX8_leadsTo 12 = .ok (.sipush 8064, 3) := by decide +kernel
theorem dX8_leadsTo_15 : decode cX8_leadsTo 15 = .ok (.if_icmp .ge 101, 3) := by decide +kernel
theorem dX8_leadsTo_18 : decode cX8_leadsTo 18 = .ok (.aload_n 0, 1) := by decide +kernel
theorem dX8_leadsTo_19 : decode cX8_leadsTo 19 = .ok (.getfield 22, 3) := by decide +kernel
theorem dX8_leadsTo_22 : decode cX8_leadsTo 22 = .ok (.ifCond .le 94, 3) := by decide +kernel
theorem dX8_leadsTo_25 : decode cX8_leadsTo 25 = .ok (.aload_n 0, 1) := by decide +kernel
theorem dX8_leadsTo_26 : decode cX8_leadsTo 26 = .ok (.dup, 1) := by decide +kernel
theorem dX8_leadsTo_27 : decode cX8_leadsTo 27 = .ok (.getfield 22, 3) := by decide +kernel
theorem dX8_leadsTo_30 : decode cX8_leadsTo 30 = .ok (.iconst 1, 1) := by decide +kernel
theorem dX8_leadsTo_31 : decode cX8_leadsTo 31 = .ok (.isub, 1) := by decide +kernel
theorem dX8_leadsTo_32 : decode cX8_leadsTo 32 = .ok (.putfield 22, 3) := by decide +kernel
theorem dX8_leadsTo_35 : decode cX8_leadsTo 35 = .ok (.aload_n 0, 1) := by decide +kernel
theorem dX8_leadsTo_36 : decode cX8_leadsTo 36 = .ok (.getfield 15, 3) := by decide +kernel
theorem dX8_leadsTo_39 : decode cX8_leadsTo 39 = .ok (.aload_n 0, 1) := by decide +kernel
theorem dX8_leadsTo_40 : decode cX8_leadsTo 40 = .ok (.getfield 22, 3) := by decide +kernel
theorem dX8_leadsTo_43 : decode cX8_leadsTo 43 = .ok (.iaload, 1) := by decide +kernel
theorem dX8_leadsTo_44 : decode cX8_leadsTo 44 = .ok (.istore 6, 2) := by decide +kernel
theorem dX8_leadsTo_46 : decode cX8_leadsTo 46 = .ok (.aload_n 0, 1) := by decide +kernel
theorem dX8_leadsTo_47 : decode cX8_leadsTo 47 = .ok (.getfield 26, 3) := by decide +kernel
theorem dX8_leadsTo_50 : decode cX8_leadsTo 50 = .ok (.getfield 30, 3) := by decide +kernel
theorem dX8_leadsTo_53 : decode cX8_leadsTo 53 = .ok (.iload 6, 2) := by decide +kernel
theorem dX8_leadsTo_55 : decode cX8_leadsTo 55 = .ok (.iaload, 1) := by decide +kernel
theorem dX8_leadsTo_56 : decode cX8_leadsTo 56 = .ok (.istore 7, 2) := by decide +kernel
theorem dX8_leadsTo_58 : decode cX8_leadsTo 58 = .ok (.iload 7, 2) := by decide +kernel
theorem dX8_leadsTo_60 : decode cX8_leadsTo 60 = .ok (.bipush 35, 2) := by decide +kernel
theorem dX8_leadsTo_62 : decode cX8_leadsTo 62 = .ok (.if_icmp .eq 20, 3) := by decide +kernel
theorem dX8_leadsTo_65 : decode cX8_leadsTo 65 = .ok (.iload 7, 2) := by decide +kernel
theorem dX8_leadsTo_67 : decode cX8_leadsTo 67 = .ok (.bipush 24, 2) := by decide +kernel
theorem dX8_leadsTo_69 : decode cX8_leadsTo 69 = .ok (.if_icmp .eq 13, 3) := by decide +kernel
theorem dX8_leadsTo_72 : decode cX8_leadsTo 72 = .ok (.aload_n 0, 1) := by decide +kernel
theorem dX8_leadsTo_73 : decode cX8_leadsTo 73 = .ok (.iload_n 2, 1) := by decide +kernel
theorem dX8_leadsTo_74 : decode cX8_leadsTo 74 = .ok (.iload 6, 2) := by decide +kernel
theorem dX8_leadsTo_76 : decode cX8_leadsTo 76 = .ok (.invokevirtual 38, 3) := by decide +kernel
theorem dX8_leadsTo_79 : decode cX8_leadsTo 79 = .ok (.goto 31, 3) := by decide +kernel
theorem dX8_leadsTo_82 : decode cX8_leadsTo 82 = .ok (.iload 4, 2) := by decide +kernel
theorem dX8_leadsTo_84 : decode cX8_leadsTo 84 = .ok (.iload 7, 2) := by decide +kernel
theorem dX8_leadsTo_86 : decode cX8_leadsTo 86 = .ok (.bipush 24, 2) := by decide +kernel
theorem dX8_leadsTo_88 : decode cX8_leadsTo 88 = .ok (.if_icmp .ne 7, 3) := by decide +kernel
theorem dX8_leadsTo_91 : decode cX8_leadsTo 91 = .ok (.iconst 0, 1) := by decide +kernel
theorem dX8_leadsTo_92 : decode cX8_leadsTo 92 = .ok (.goto 13, 3) := by decide +kernel
theorem dX8_leadsTo_95 : decode cX8_leadsTo 95 = .ok (.aload_n 0, 1) := by decide +kernel
theorem dX8_leadsTo_96 : decode cX8_leadsTo 96 = .ok (.getfield 26, 3) := by decide +kernel
theorem dX8_leadsTo_99 : decode cX8_leadsTo 99 = .ok (.getfield 35, 3) := by decide +kernel
theorem dX8_leadsTo_102 : decode cX8_leadsTo 102 = .ok (.iload 6, 2) := by decide +kernel
theorem dX8_leadsTo_104 : decode cX8_leadsTo 104 = .ok (.iaload, 1) := by decide +kernel
theorem dX8_leadsTo_105 : decode cX8_leadsTo 105 = .ok (.if_icmp .ne 5, 3) := by decide +kernel
theorem dX8_leadsTo_108 : decode cX8_leadsTo 108 = .ok (.iconst 1, 1) := by decide +kernel
theorem dX8_leadsTo_109 : decode cX8_leadsTo 109 = .ok (.ireturn, 1) := by decide +kernel
theorem dX8_leadsTo_110 : decode cX8_leadsTo 110 = .ok (.iinc 5 1, 3) := by decide +kernel
theorem dX8_leadsTo_113 : decode cX8_leadsTo 113 = .ok (.goto (-103), 3) := by decide +kernel
theorem dX8_leadsTo_116 : decode cX8_leadsTo 116 = .ok (.iconst 0, 1) := by decide +kernel
theorem dX8_leadsTo_117 : decode cX8_leadsTo 117 = .ok (.ireturn, 1) := by decide +kernel
theorem dX8_readsFirst_0 : decode cX8_readsFirst 0 = .ok (.aload_n 0, 1) := by decide +kernel
theorem dX8_readsFirst_1 : decode cX8_readsFirst 1 = .ok (.aload_n 1, 1) := by decide +kernel
theorem dX8_readsFirst_2 : decode cX8_readsFirst 2 = .ok (.iload_n 2, 1) := by decide +kernel
theorem dX8_readsFirst_3 : decode cX8_readsFirst 3 = .ok (.iload_n 3, 1) := by decide +kernel
theorem dX8_readsFirst_4 : decode cX8_readsFirst 4 = .ok (.invokevirtual 18, 3) := by decide +kernel
theorem dX8_readsFirst_7 : decode cX8_readsFirst 7 = .ok (.iconst 0, 1) := by decide +kernel
theorem dX8_readsFirst_8 : decode cX8_readsFirst 8 = .ok (.istore 5, 2) := by decide +kernel
theorem dX8_readsFirst_10 : decode cX8_readsFirst 10 = .ok (.iload 5, 2) := by decide +kernel
theorem dX8_readsFirst_12 : decode cX8_readsFirst 12 = .ok (.sipush 8064, 3) := by decide +kernel
theorem dX8_readsFirst_15 : decode cX8_readsFirst 15 = .ok (.if_icmp .ge 110, 3) := by decide +kernel
theorem dX8_readsFirst_18 : decode cX8_readsFirst 18 = .ok (.aload_n 0, 1) := by decide +kernel
theorem dX8_readsFirst_19 : decode cX8_readsFirst 19 = .ok (.getfield 22, 3) := by decide +kernel
theorem dX8_readsFirst_22 : decode cX8_readsFirst 22 = .ok (.ifCond .le 103, 3) := by decide +kernel
theorem dX8_readsFirst_25 : decode cX8_readsFirst 25 = .ok (.aload_n 0, 1) := by decide +kernel
theorem dX8_readsFirst_26 : decode cX8_readsFirst 26 = .ok (.dup, 1) := by decide +kernel
theorem dX8_readsFirst_27 : decode cX8_readsFirst 27 = .ok (.getfield 22, 3) := by decide +kernel
theorem dX8_readsFirst_30 : decode cX8_readsFirst 30 = .ok (.iconst 1, 1) := by decide +kernel
theorem dX8_readsFirst_31 : decode cX8_readsFirst 31 = .ok (.isub, 1) := by decide +kernel
theorem dX8_readsFirst_32 : decode cX8_readsFirst 32 = .ok (.putfield 22, 3) := by decide +kernel
theorem dX8_readsFirst_35 : decode cX8_readsFirst 35 = .ok (.aload_n 0, 1) := by decide +kernel
theorem dX8_readsFirst_36 : decode cX8_readsFirst 36 = .ok (.getfield 15, 3) := by decide +kernel
theorem dX8_readsFirst_39 : decode cX8_readsFirst 39 = .ok (.aload_n 0, 1) := by decide +kernel
theorem dX8_readsFirst_40 : decode cX8_readsFirst 40 = .ok (.getfield 22, 3) := by decide +kernel
theorem dX8_readsFirst_43 : decode cX8_readsFirst 43 = .ok (.iaload, 1) := by decide +kernel
theorem dX8_readsFirst_44 : decode cX8_readsFirst 44 = .ok (.istore 6, 2) := by decide +kernel
theorem dX8_readsFirst_46 : decode cX8_readsFirst 46 = .ok (.aload_n 0, 1) := by decide +kernel
theorem dX8_readsFirst_47 : decode cX8_readsFirst 47 = .ok (.getfield 26, 3) := by decide +kernel
theorem dX8_readsFirst_50 : decode cX8_readsFirst 50 = .ok (.getfield 30, 3) := by decide +kernel
theorem dX8_readsFirst_53 : decode cX8_readsFirst 53 = .ok (.iload 6, 2) := by decide +kernel
theorem dX8_readsFirst_55 : decode cX8_readsFirst 55 = .ok (.iaload, 1) := by decide +kernel
theorem dX8_readsFirst_56 : decode cX8_readsFirst 56 = .ok (.istore 7, 2) := by decide +kernel
theorem dX8_readsFirst_58 : decode cX8_readsFirst 58 = .ok (.aload_n 0, 1) := by decide +kernel
theorem dX8_readsFirst_59 : decode cX8_readsFirst 59 = .ok (.getfield 26, 3) := by decide +kernel
theorem dX8_readsFirst_62 : decode cX8_readsFirst 62 = .ok (.getfield 35, 3) := by decide +kernel
theorem dX8_readsFirst_65 : decode cX8_readsFirst 65 = .ok (.iload 6, 2) := by decide +kernel
theorem dX8_readsFirst_67 : decode cX8_readsFirst 67 = .ok (.iaload, 1) := by decide +kernel
theorem dX8_readsFirst_68 : decode cX8_readsFirst 68 = .ok (.iload 4, 2) := by decide +kernel
theorem dX8_readsFirst_70 : decode cX8_readsFirst 70 = .ok (.if_icmp .ne 7, 3) := by decide +kernel
theorem dX8_readsFirst_73 : decode cX8_readsFirst 73 = .ok (.iconst 1, 1) := by decide +kernel
theorem dX8_readsFirst_74 : decode cX8_readsFirst 74 = .ok (.goto 4, 3) := by decide +kernel
theorem dX8_readsFirst_77 : decode cX8_readsFirst 77 = .ok (.iconst 0, 1) := by decide +kernel
theorem dX8_readsFirst_78 : decode cX8_readsFirst 78 = .ok (.istore 8, 2) := by decide +kernel
theorem dX8_readsFirst_80 : decode cX8_readsFirst 80 = .ok (.iload 7, 2) := by decide +kernel
theorem dX8_readsFirst_82 : decode cX8_readsFirst 82 = .ok (.iconst 3, 1) := by decide +kernel
theorem dX8_readsFirst_83 : decode cX8_readsFirst 83 = .ok (.if_icmp .ne 10, 3) := by decide +kernel
theorem dX8_readsFirst_86 : decode cX8_readsFirst 86 = .ok (.iload 8, 2) := by decide +kernel
theorem dX8_readsFirst_88 : decode cX8_readsFirst 88 = .ok (.ifCond .eq 5, 3) := by decide +kernel
theorem dX8_readsFirst_91 : decode cX8_readsFirst 91 = .ok (.iconst 1, 1) := by decide +kernel
theorem dX8_readsFirst_92 : decode cX8_readsFirst 92 = .ok (.ireturn, 1) := by decide +kernel
theorem dX8_readsFirst_93 : decode cX8_readsFirst 93 = .ok (.iload 8, 2) := by decide +kernel
theorem dX8_readsFirst_95 : decode cX8_readsFirst 95 = .ok (.ifCond .eq 17, 3) := by decide +kernel
theorem dX8_readsFirst_98 : decode cX8_readsFirst 98 = .ok (.iload 7, 2) := by decide +kernel
theorem dX8_readsFirst_100 : decode cX8_readsFirst 100 = .ok (.bipush 13, 2) := by decide +kernel
theorem dX8_readsFirst_102 : decode cX8_readsFirst 102 = .ok (.if_icmp .eq 17, 3) := by decide +kernel
theorem dX8_readsFirst_105 : decode cX8_readsFirst 105 = .ok (.iload 7, 2) := by decide +kernel
theorem dX8_readsFirst_107 : decode cX8_readsFirst 107 = .ok (.bipush 22, 2) := by decide +kernel
theorem dX8_readsFirst_109 : decode cX8_readsFirst 109 = .ok (.if_icmp .eq 10, 3) := by decide +kernel
theorem dX8_readsFirst_112 : decode cX8_readsFirst 112 = .ok (.aload_n 0, 1) := by decide +kernel
theorem dX8_readsFirst_113 : decode cX8_readsFirst 113 = .ok (.iload_n 2, 1) := by decide +kernel
theorem dX8_readsFirst_114 : decode cX8_readsFirst 114 = .ok (.iload 6, 2) := by decide +kernel
theorem dX8_readsFirst_116 : decode cX8_readsFirst 116 = .ok (.invokevirtual 38, 3) := by decide +kernel
theorem dX8_readsFirst_119 : decode cX8_readsFirst 119 = .ok (.iinc 5 1, 3) := by decide +kernel
theorem dX8_readsFirst_122 : decode cX8_readsFirst 122 = .ok (.goto (-112), 3) := by decide +kernel
theorem dX8_readsFirst_125 : decode cX8_readsFirst 125 = .ok (.iconst 0, 1) := by decide +kernel
theorem dX8_readsFirst_126 : decode cX8_readsFirst 126 = .ok (.ireturn, 1) := by decide +kernel
def wp_X8_readsFirst_119 (K : kS → Int32 → Prop) (k10 : Nat × Int32 × Int32 × Int32 × kS → Prop) (x0 : Nat) (x2 : Int32) (x4 : Int32) (x5 : Int32) (S : kS) : Prop := ∀ z28 : Int32, z28 = x5 + 1 → k10 (x0, x2, x4, z28, S)
def wp_X8_readsFirst_112 (K : kS → Int32 → Prop) (k10 : Nat × Int32 × Int32 × Int32 × kS → Prop) (x0 : Nat) (x2 : Int32) (x4 : Int32) (x5 : Int32) (x6 : Int32) (S : kS) : Prop := hasO S x0 8 ∧ wp_X8_follow x0 x2 x6 S (fun (S29 : kS) => wp_X8_readsFirst_119 K k10 x0 x2 x4 x5 S29)
def wp_X8_readsFirst_93 (K : kS → Int32 → Prop) (k10 : Nat × Int32 × Int32 × Int32 × kS → Prop) (x0 : Nat) (x2 : Int32) (x4 : Int32) (x5 : Int32) (x6 : Int32) (x7 : Int32) (x8 : Int32) (S : kS) : Prop := ((x8 = 0 → wp_X8_readsFirst_112 K k10 x0 x2 x4 x5 x6 S) ∧ (¬ x8 = 0 → ((x7 = 13 → wp_X8_readsFirst_119 K k10 x0 x2 x4 x5 S) ∧ (¬ x7 = 13 → ((x7 = 22 → wp_X8_readsFirst_119 K k10 x0 x2 x4 x5 S) ∧ (¬ x7 = 22 → wp_X8_readsFirst_112 K k10 x0 x2 x4 x5 x6 S))))))
def wp_X8_readsFirst_78 (K : kS → Int32 → Prop) (k10 : Nat × Int32 × Int32 × Int32 × kS → Prop) (x0 : Nat) (x2 : Int32) (x4 : Int32) (x5 : Int32) (x6 : Int32) (x7 : Int32) (y0 : Int32) (S : kS) : Prop := ((¬ x7 = 3 → wp_X8_readsFirst_93 K k10 x0 x2 x4 x5 x6 x7 y0 S) ∧ (x7 = 3 → ((y0 = 0 → wp_X8_readsFirst_93 K k10 x0 x2 x4 x5 x6 x7 y0 S) ∧ (¬ y0 = 0 → K S 1))))
def wp_X8_readsFirst_10 (K : kS → Int32 → Prop) (k10 : Nat × Int32 × Int32 × Int32 × kS → Prop) (x0 : Nat) (x2 : Int32) (x4 : Int32) (x5 : Int32) (S : kS) : Prop := ((8064 ≤ x5 → K S 0) ∧ (¬ 8064 ≤ x5 → hasO S x0 8 ∧ ∀ z3 : Int32, z3 = S.1 26 x0 → ((z3 ≤ 0 → K S 0) ∧ (¬ z3 ≤ 0 → hasO S x0 8 ∧ ∀ z5 : Int32, z5 = S.1 26 x0 → ∀ z6 : Int32, z6 = z5 - 1 → hasO S x0 8 ∧ ∀ S7 : kS, S7 = cI S 26 x0 z6 → hasO S7 x0 8 ∧ ∀ z8 : Option Nat, z8 = S7.2.1 54 x0 → hasO S7 x0 8 ∧ ∀ z9 : Int32, z9 = S7.1 26 x0 → ∃ q10 : Nat, z8 = some q10 ∧ hasA S7 q10 8064 0 ∧ inR z9 8064 ∧ ∀ z11 : Int32, z11 = S7.2.2.1 q10 (ix z9) → hasO S7 x0 8 ∧ ∀ z12 : Option Nat, z12 = S7.2.1 55 x0 → ∃ q13 : Nat, z12 = some q13 ∧ hasO S7 q13 5 ∧ ∀ z14 : Option Nat, z14 = S7.2.1 28 q13 → ∃ q15 : Nat, z14 = some q15 ∧ hasA S7 q15 8064 0 ∧ inR z11 8064 ∧ ∀ z16 : Int32, z16 = S7.2.2.1 q15 (ix z11) → hasO S7 x0 8 ∧ ∀ z17 : Option Nat, z17 = S7.2.1 55 x0 → ∃ q18 : Nat, z17 = some q18 ∧ hasO S7 q18 5 ∧ ∀ z19 : Option Nat, z19 = S7.2.1 29 q18 → ∃ q20 : Nat, z19 = some q20 ∧ hasA S7 q20 8064 0 ∧ inR z11 8064 ∧ ∀ z21 : Int32, z21 = S7.2.2.1 q20 (ix z11) → ((¬ z21 = x4 → wp_X8_readsFirst_78 K k10 x0 x2 x4 x5 z11 z16 0 S7) ∧ (z21 = x4 → wp_X8_readsFirst_78 K k10 x0 x2 x4 x5 z11 z16 1 S7))))))
def ls_X8_readsFirst_10 (K : kS → Int32 → Prop) (k10 : Nat × Int32 × Int32 × Int32 × kS → Prop) (u : Nat × Int32 × Int32 × Int32 × kS) : Prop := wp_X8_readsFirst_10 K k10 u.1 u.2.1 u.2.2.1 u.2.2.2.1 u.2.2.2.2
def wp_X8_readsFirst (t0 : Nat) (a0 : Nat) (a1 : Int32) (a2 : Int32) (a3 : Int32) (S : kS) (K : kS → Int32 → Prop) : Prop := hasO S t0 8 ∧ wp_X8_set t0 a0 a1 a2 S (fun (S1 : kS) => (∃ n9, it (ls_X8_readsFirst_10 K) n9 (t0, a1, a3, 0, S1)))
theorem cw_X8_18 {R : Room} {s : State} {args : Array Value} {fr lo : Nat} (hts : ∀ w ∈ tb, w.before args s = true) (h1 : fr + 1 ≤ R.frames) (h2 : 8 + (4 + 11) + lo ≤ R.locals) : CallW R s args RX8 RX8 18 yX8_set cX8_set 4 none (.code yX8_set cX8_set 4 none :: tb) (mRm fr lo) 0 0 3 := cwV 3 hts (gd_V wd_798 wd_800 sl_X8_set wd_8 wd_801) rfl rfl rfl (by decide +kernel) ⟨h1, h2⟩
set_option maxHeartbeats 4000000 in
set_option maxRecDepth 100000 in
theorem kt_X8_readsFirst (l : Launch) (S : kS) (t0 : Nat) (a0 : Nat) (a1 : Int32) (a2 : Int32) (a3 : Int32) (K : kS → Int32 → Prop) (h : wp_X8_readsFirst t0 a0 a1 a2 a3 S K) : kMi l yX8_readsFirst cX8_readsFirst 9 (some .boolean) 6 144 [.ref t0, .ref a0, .int a1, .int a2, .int a3] S K := by
  refine kv_ofz (own := RX8) (by decide) rfl (Nat.le_of_ble_eq_true rfl) ?_
  intro E p e R s m args below meth c A ls Q hRf hRl hX hC hl hret
  have hx := hX.1.1
  have hb := hX.1.2.1
  have hown := hX.1.2.2.2.1
  have hts := hX.1.2.2.2.2
  have cut10 : ∀ (n10 : Nat) (x0 : Nat) (x2 : Int32) (x4 : Int32) (x5 : Int32) (S : kS) (H : Heap) (locs : List Loc) (ls : Array Slot), it (ls_X8_readsFirst_10 K) n10 (x0, x2, x4, x5, S) → cM E A s.heap S H locs → lv_has ls 9 [(0, .ref x0), (2, .int x2), (4, .int x4), (5, .int x5)] → W p l e R s m args below meth c H locs 0 0 Q (F0 m 10 ls []) := by
    intro n10
    induction n10 with
    | zero => intro x0 x2 x4 x5 S H locs ls h hC hl; exact h.elim
    | succ n10 ih10 =>
      have cut119 : ∀ (x0 : Nat) (x2 : Int32) (x4 : Int32) (x5 : Int32) (S : kS) (H : Heap) (locs : List Loc) (ls : Array Slot), wp_X8_readsFirst_119 K (it (ls_X8_readsFirst_10 K) n10) x0 x2 x4 x5 S → cM E A s.heap S H locs → lv_has ls 9 [(0, .ref x0), (2, .int x2), (4, .int x4), (5, .int x5)] → W p l e R s m args below meth c H locs 0 0 Q (F0 m 119 ls []) := by
        intro x0 x2 x4 x5 S H locs ls h hC hl
        unfold wp_X8_readsFirst_119 at h
        obtain ⟨z28, ez28⟩ : ∃ y : Int32, y = x5 + 1 := ⟨_, rfl⟩
        have h := h z28 ez28
        refine lv_iinc (v := z28) (lv' := [(5, .int z28), (0, .ref x0), (2, .int x2), (4, .int x4)]) hx hb dX8_readsFirst_119 hl (k := 3) rfl (by rw [ez28]; rfl) (by decide) rfl (fun ls hl => ?_)
        refine lv_goto (tgt := 10) hx hb dX8_readsFirst_122 (by decide) ?_
        exact ih10 x0 x2 x4 z28 S _ _ _ h hC (lv_sub hl [1, 2, 3, 0] rfl)
      have cut112 : ∀ (x0 : Nat) (x2 : Int32) (x4 : Int32) (x5 : Int32) (x6 : Int32) (S : kS) (H : Heap) (locs : List Loc) (ls : Array Slot), wp_X8_readsFirst_112 K (it (ls_X8_readsFirst_10 K) n10) x0 x2 x4 x5 x6 S → cM E A s.heap S H locs → lv_has ls 9 [(0, .ref x0), (2, .int x2), (4, .int x4), (5, .int x5), (6, .int x6)] → W p l e R s m args below meth c H locs 0 0 Q (F0 m 112 ls []) := by
        intro x0 x2 x4 x5 x6 S H locs ls h hC hl
        unfold wp_X8_readsFirst_112 at h
        refine lv_aload_n hx hb dX8_readsFirst_112 rfl (lv_at hl 0 rfl) ?_
        refine lv_iload_n hx hb dX8_readsFirst_113 rfl (lv_at hl 1 rfl) ?_
        refine lv_iload hx hb dX8_readsFirst_114 (lv_at hl 4 rfl) ?_
        refine kv_callv [.int x2, .int x6] (rest := []) (ci := 8) rfl hX hC h.1 (kt_X8_follow l S x0 x2 x6 _ h.2 E _) (cw_X8_38 hts (by omega) (by omega)) rfl hl.1 (Nat.le_of_ble_eq_true rfl) ⟨Nat.zero_le _, Nat.zero_le _⟩ dX8_readsFirst_116 (fun S29 H locs hC h => ?_)
        exact cut119 x0 x2 x4 x5 S29 _ _ _ h hC (lv_sub hl [0, 1, 2, 3] rfl)
      have cut93 : ∀ (x0 : Nat) (x2 : Int32) (x4 : Int32) (x5 : Int32) (x6 : Int32) (x7 : Int32) (x8 : Int32) (S : kS) (H : Heap) (locs : List Loc) (ls : Array Slot), wp_X8_readsFirst_93 K (it (ls_X8_readsFirst_10 K) n10) x0 x2 x4 x5 x6 x7 x8 S → cM E A s.heap S H locs → lv_has ls 9 [(0, .ref x0), (2, .int x2), (4, .int x4), (5, .int x5), (6, .int x6), (7, .int x7), (8, .int x8)] → W p l e R s m args below meth c H locs 0 0 Q (F0 m 93 ls []) := by
        intro x0 x2 x4 x5 x6 x7 x8 S H locs ls h hC hl
        unfold wp_X8_readsFirst_93 at h
        refine lv_iload hx hb dX8_readsFirst_93 (lv_at hl 6 rfl) ?_
        refine lv_if_eq (tgt := 112) hx hb dX8_readsFirst_95 (by decide) (fun c25 => ?_) (fun c25 => ?_)
        · have h := h.1 c25
          exact cut112 x0 x2 x4 x5 x6 S _ _ _ h hC (lv_sub hl [0, 1, 2, 3, 4] rfl)
        · have h := h.2 c25
          refine lv_iload hx hb dX8_readsFirst_98 (lv_at hl 5 rfl) ?_
          refine lv_bipush (v := 13) hx hb dX8_readsFirst_100 (by decide) ?_
          refine lv_icmp_eq (tgt := 119) hx hb dX8_readsFirst_102 (by decide) (fun c26 => ?_) (fun c26 => ?_)
          · have h := h.1 c26
            exact cut119 x0 x2 x4 x5 S _ _ _ h hC (lv_sub hl [0, 1, 2, 3] rfl)
          · have h := h.2 c26
            refine lv_iload hx hb dX8_readsFirst_105 (lv_at hl 5 rfl) ?_
            refine lv_bipush (v := 22) hx hb dX8_readsFirst_107 (by decide) ?_
            refine lv_icmp_eq (tgt := 119) hx hb dX8_readsFirst_109 (by decide) (fun c27 => ?_) (fun c27 => ?_)
            · have h := h.1 c27
              exact cut119 x0 x2 x4 x5 S _ _ _ h hC (lv_sub hl [0, 1, 2, 3] rfl)
            · have h := h.2 c27
              exact cut112 x0 x2 x4 x5 x6 S _ _ _ h hC (lv_sub hl [0, 1, 2, 3, 4] rfl)
      have cut78 : ∀ (x0 : Nat) (x2 : Int32) (x4 : Int32) (x5 : Int32) (x6 : Int32) (x7 : Int32) (y0 : Int32) (S : kS) (H : Heap) (locs : List Loc) (ls : Array Slot), wp_X8_readsFirst_78 K (it (ls_X8_readsFirst_10 K) n10) x0 x2 x4 x5 x6 x7 y0 S → cM E A s.heap S H locs → lv_has ls 9 [(0, .ref x0), (2, .int x2), (4, .int x4), (5, .int x5), (6, .int x6), (7, .int x7)] → W p l e R s m args below meth c H locs 0 0 Q (F0 m 78 ls [.int y0]) := by
        intro x0 x2 x4 x5 x6 x7 y0 S H locs ls h hC hl
        unfold wp_X8_readsFirst_78 at h
        refine lv_istore (lv' := [(8, .int y0), (0, .ref x0), (2, .int x2), (4, .int x4), (5, .int x5), (6, .int x6), (7, .int x7)]) hx hb dX8_readsFirst_78 hl (by decide) rfl (fun ls hl => ?_)
        refine lv_iload hx hb dX8_readsFirst_80 (lv_at hl 6 rfl) ?_
        refine lv_iconst (v := 3) hx hb dX8_readsFirst_82 (by decide) ?_
        refine lv_icmp_ne (tgt := 93) hx hb dX8_readsFirst_83 (by decide) (fun c23 => ?_) (fun c23 => ?_)
        · have h := h.1 c23
          exact cut93 x0 x2 x4 x5 x6 x7 y0 S _ _ _ h hC (lv_sub hl [1, 2, 3, 4, 5, 6, 0] rfl)
        · have h := h.2 c23
          refine lv_iload hx hb dX8_readsFirst_86 (lv_at hl 0 rfl) ?_
          refine lv_if_eq (tgt := 93) hx hb dX8_readsFirst_88 (by decide) (fun c24 => ?_) (fun c24 => ?_)
          · have h := h.1 c24
            exact cut93 x0 x2 x4 x5 x6 x7 y0 S _ _ _ h hC (lv_sub hl [1, 2, 3, 4, 5, 6, 0] rfl)
          · have h := h.2 c24
            refine lv_iconst (v := 1) hx hb dX8_readsFirst_91 (by decide) ?_
            exact hret _ _ _ _ _ _ hC (Or.inr rfl) h dX8_readsFirst_92
      intro x0 x2 x4 x5 S H locs ls h hC hl
      have h : wp_X8_readsFirst_10 K (it (ls_X8_readsFirst_10 K) n10) x0 x2 x4 x5 S := h
      unfold wp_X8_readsFirst_10 at h
      refine lv_iload hx hb dX8_readsFirst_10 (lv_at hl 3 rfl) ?_
      refine lv_sipush (v := 8064) hx hb dX8_readsFirst_12 (by decide) ?_
      refine lv_icmp_ge (tgt := 125) hx hb dX8_readsFirst_15 (by decide) (fun c2 => ?_) (fun c2 => ?_)
      · have h := h.1 c2
        refine lv_iconst (v := 0) hx hb dX8_readsFirst_125 (by decide) ?_
        exact hret _ _ _ _ _ _ hC (Or.inl rfl) h dX8_readsFirst_126
      · have h := h.2 c2
        refine lv_aload_n hx hb dX8_readsFirst_18 rfl (lv_at hl 0 rfl) ?_
        refine cq_geti (ci := 8) (k := 2) (f := 26) hX hC rfl in_X8 (by decide) wd_179 (fun _ h9 => h9) (fun _ _ => rfl) dX8_readsFirst_19 h (fun z3 h => ?_)
        refine lv_if_le (tgt := 125) hx hb dX8_readsFirst_22 (by decide) (fun c4 => ?_) (fun c4 => ?_)
        · have h := h.1 c4
          refine lv_iconst (v := 0) hx hb dX8_readsFirst_125 (by decide) ?_
          exact hret _ _ _ _ _ _ hC (Or.inl rfl) h dX8_readsFirst_126
        · have h := h.2 c4
          refine lv_aload_n hx hb dX8_readsFirst_25 rfl (lv_at hl 0 rfl) ?_
          refine lv_dup hx hb dX8_readsFirst_26 rfl ?_
          refine cq_geti (ci := 8) (k := 2) (f := 26) hX hC rfl in_X8 (by decide) wd_179 (fun _ h9 => h9) (fun _ _ => rfl) dX8_readsFirst_27 h (fun z5 h => ?_)
          refine lv_iconst (v := 1) hx hb dX8_readsFirst_30 (by decide) ?_
          refine lq_isub hx hb dX8_readsFirst_31 h (fun z6 h => ?_)
          refine cq_puti (v := z6) (ci := 8) (k := 2) (f := 26) hX hC rfl in_X8 (by decide) wd_179 (fun _ h9 => h9) tyX8 tyX8_ok nmX8 rfl rfl rfl (fun _ _ => Nat.le_of_ble_eq_true rfl) (fun _ _ _ => rfl) dX8_readsFirst_32 h.1 h.2 (fun S7 H locs hC h => ?_)
          refine lv_aload_n hx hb dX8_readsFirst_35 rfl (lv_at hl 0 rfl) ?_
          refine cq_getr (ci := 8) (k := 1) (f := 54) hX hC rfl in_X8 (by decide) wd_178 (fun _ h9 => h9) (fun _ _ => rfl) dX8_readsFirst_36 h (fun z8 h => ?_)
          refine lv_aload_n hx hb dX8_readsFirst_39 rfl (lv_at hl 0 rfl) ?_
          refine cq_geti (ci := 8) (k := 2) (f := 26) hX hC rfl in_X8 (by decide) wd_179 (fun _ h9 => h9) (fun _ _ => rfl) dX8_readsFirst_40 h (fun z9 h => ?_)
          obtain ⟨q10, e9, hh⟩ := h
          subst e9
          have h := hh
          clear hh
          refine cq_ild hX hC dX8_readsFirst_43 h (fun z11 h => ?_)
          refine lv_istore (lv' := [(6, .int z11), (0, .ref x0), (2, .int x2), (4, .int x4), (5, .int x5)]) hx hb dX8_readsFirst_44 hl (by decide) rfl (fun ls hl => ?_)
          refine lv_aload_n hx hb dX8_readsFirst_46 rfl (lv_at hl 1 rfl) ?_
          refine cq_getr (ci := 8) (k := 4) (f := 55) hX hC rfl in_X8 (by decide) wd_181 (fun _ h9 => h9) (fun _ _ => rfl) dX8_readsFirst_47 h (fun z12 h => ?_)
          obtain ⟨q13, e9, hh⟩ := h
          subst e9
          have h := hh
          clear hh
          refine cq_getr (ci := 5) (k := 1) (f := 28) hX hC rfl in_X5 (by decide) wd_400 (fun _ h9 => h9) (fun _ _ => rfl) dX8_readsFirst_50 h (fun z14 h => ?_)
          refine lv_iload hx hb dX8_readsFirst_53 (lv_at hl 0 rfl) ?_
          obtain ⟨q15, e9, hh⟩ := h
          subst e9
          have h := hh
          clear hh
          refine cq_ild hX hC dX8_readsFirst_55 h (fun z16 h => ?_)
          refine lv_istore (lv' := [(7, .int z16), (6, .int z11), (0, .ref x0), (2, .int x2), (4, .int x4), (5, .int x5)]) hx hb dX8_readsFirst_56 hl (by decide) rfl (fun ls hl => ?_)
          refine lv_aload_n hx hb dX8_readsFirst_58 rfl (lv_at hl 2 rfl) ?_
          refine cq_getr (ci := 8) (k := 4) (f := 55) hX hC rfl in_X8 (by decide) wd_181 (fun _ h9 => h9) (fun _ _ => rfl) dX8_readsFirst_59 h (fun z17 h => ?_)
          obtain ⟨q18, e9, hh⟩ := h
          subst e9
          have h := hh
          clear hh
          refine cq_getr (ci := 5) (k := 2) (f := 29) hX hC rfl in_X5 (by decide) wd_403 (fun _ h9 => h9) (fun _ _ => rfl) dX8_readsFirst_62 h (fun z19 h => ?_)
          refine lv_iload hx hb dX8_readsFirst_65 (lv_at hl 1 rfl) ?_
          obtain ⟨q20, e9, hh⟩ := h
          subst e9
          have h := hh
          clear hh
          refine cq_ild hX hC dX8_readsFirst_67 h (fun z21 h => ?_)
          refine lv_iload hx hb dX8_readsFirst_68 (lv_at hl 4 rfl) ?_
          refine lv_icmp_ne (tgt := 77) hx hb dX8_readsFirst_70 (by decide) (fun c22 => ?_) (fun c22 => ?_)
          · have h := h.1 c22
            refine lv_iconst (v := 0) hx hb dX8_readsFirst_77 (by decide) ?_
            exact cut78 x0 x2 x4 x5 z11 z16 0 S7 _ _ _ h hC (lv_sub hl [2, 3, 4, 5, 1, 0] rfl)
          · have h := h.2 c22
            refine lv_iconst (v := 1) hx hb dX8_readsFirst_73 (by decide) ?_
            refine lv_goto (tgt := 78) hx hb dX8_readsFirst_74 (by decide) ?_
            exact cut78 x0 x2 x4 x5 z11 z16 1 S7 _ _ _ h hC (lv_sub hl [2, 3, 4, 5, 1, 0] rfl)
  have hl : lv_has ls 9 [(0, .ref t0), (1, .ref a0), (2, .int a1), (3, .int a2), (4, .int a3)] := hl
  unfold wp_X8_readsFirst at h
  refine lv_aload_n hx hb dX8_readsFirst_0 rfl (lv_at hl 0 rfl) ?_
  refine lv_aload_n hx hb dX8_readsFirst_1 rfl (lv_at hl 1 rfl) ?_
  refine lv_iload_n hx hb dX8_readsFirst_2 rfl (lv_at hl 2 rfl) ?_
  refine lv_iload_n hx hb dX8_readsFirst_3 rfl (lv_at hl 3 rfl) ?_
  refine kv_callv [.ref a0, .int a1, .int a2] (rest := []) (ci := 8) rfl hX hC h.1 (kt_X8_set l S t0 a0 a1 a2 _ h.2 E _) (cw_X8_18 hts (by omega) (by omega)) rfl hl.1 (Nat.le_of_ble_eq_true rfl) ⟨Nat.zero_le _, Nat.zero_le _⟩ dX8_readsFirst_4 (fun S1 H locs hC h => ?_)
  refine lv_iconst (v := 0) hx hb dX8_readsFirst_7 (by decide) ?_
  refine lv_istore (lv' := [(5, .int 0), (0, .ref t0), (1, .ref a0), (2, .int a1), (3, .int a2), (4, .int a3)]) hx hb dX8_readsFirst_8 hl (by decide) rfl (fun ls hl => ?_)
  obtain ⟨n9, h⟩ := h
  exact cut10 n9 t0 a1 a3 0 S1 _ _ _ h hC (lv_sub hl [1, 3, 5, 0] rfl)
def wp_X11_live (t0 : Nat) (a0 : Int32) (a1 : Int32) (a2 : Int32) (S : kS) (K : kS → Int32 → Prop) : Prop := hasO S t0 11 ∧ ∀ z1 : Option Nat, z1 = S.2.1 74 t0 → ∃ q2 : Nat, z1 = some q2 ∧ hasO S q2 5 ∧ wp_X5_hasState q2 a0 a1 S (fun (S3 : kS) (r3 : Int32) => ((r3 = 0 → K S3 (-1)) ∧ (¬ r3 = 0 → ((a2 < 0 → K S3 (-1)) ∧ (¬ a2 < 0 → hasO S3 t0 11 ∧ ∀ z6 : Option Nat, z6 = S3.2.1 74 t0 → ∃ q7 : Nat, z6 = some q7 ∧ hasO S3 q7 5 ∧ ∀ z8 : Option Nat, z8 = S3.2.1 35 q7 → ∃ q9 : Nat, z8 = some q9 ∧ hasA S3 q9 12 0 ∧ inR a0 12 ∧ ∀ z10 : Int32, z10 = S3.2.2.1 q9 (ix a0) → ((a2 < z10 → hasO S3 t0 11 ∧ ∀ z12 : Option Nat, z12 = S3.2.1 71 t0 → hasO S3 t0 11 ∧ ∀ z13 : Option Nat, z13 = S3.2.1 74 t0 → ∃ q14 : Nat, z12 = some q14 ∧ ∃ q15 : Nat, z13 = some q15 ∧ hasO S3 q14 8 ∧ wp_X8_readsFirst q14 q15 a0 a1 a2 S3 (fun (S16 : kS) (r16 : Int32) => ((r16 = 0 → K S16 0) ∧ (¬ r16 = 0 → K S16 1)))) ∧ (¬ a2 < z10 → K S3 (-1))))))))
theorem cw_X11_118 {R : Room} {s : State} {args : Array Value} {fr lo : Nat} (hts : ∀ w ∈ tb, w.before args s = true) (h1 : fr + 1 ≤ R.frames) (h2 : 8 + (3 + 11) + lo ≤ R.locals) : CallW R s args RX11 RX5 118 yX5_hasState cX5_hasState 3 (some .boolean) (.code yX5_hasState cX5_hasState 3 (some .boolean) :: tb) (mRm fr lo) 0 0 2 := cwV 2 hts (gd_V wd_790 wd_791 wd_792 wd_13 wd_793) rfl rfl rfl (by decide +kernel) ⟨h1, h2⟩
theorem cw_X11_122 {R : Room} {s : State} {args : Array Value} {fr lo : Nat} (hts : ∀ w ∈ tb, w.before args s = true) (h1 : fr + 1 ≤ R.frames) (h2 : 8 + (9 + 11) + lo ≤ R.locals) : CallW R s args RX11 RX8 122 yX8_readsFirst cX8_readsFirst 9 (some .boolean) (.code yX8_readsFirst cX8_readsFirst 9 (some .boolean) :: tb) (mRm fr lo) 0 0 4 := cwV 4 hts (gd_V wd_794 wd_795 wd_796 wd_8 wd_797) rfl rfl rfl (by decide +kernel) ⟨h1, h2⟩
set_option maxHeartbeats 4000000 in
set_option maxRecDepth 100000 in
theorem kt_X11_live (l : Launch) (S : kS) (t0 : Nat) (a0 : Int32) (a1 : Int32) (a2 : Int32) (K : kS → Int32 → Prop) (h : wp_X11_live t0 a0 a1 a2 S K) : kMi l yX11_live cX11_live 4 (some .int) 7 172 [.ref t0, .int a0, .int a1, .int a2] S K := by
  refine kv_ofi (own := RX11) (by decide) rfl (Nat.le_of_ble_eq_true rfl) ?_
  intro E p e R s m args below meth c A ls Q hRf hRl hX hC hl hret
  have hx := hX.1.1
  have hb := hX.1.2.1
  have hown := hX.1.2.2.2.1
  have hts := hX.1.2.2.2.2
  have hl : lv_has ls 4 [(0, .ref t0), (1, .int a0), (2, .int a1), (3, .int a2)] := hl
  unfold wp_X11_live at h
  refine lv_aload_n hx hb dX11_live_0 rfl (lv_at hl 0 rfl) ?_
  refine cq_getr (ci := 11) (k := 5) (f := 74) hX hC rfl in_X11 (by decide) wd_483 (fun _ h9 => h9) (fun _ _ => rfl) dX11_live_1 h (fun z1 h => ?_)
  refine lv_iload_n hx hb dX11_live_4 rfl (lv_at hl 1 rfl) ?_
  refine lv_iload_n hx hb dX11_live_5 rfl (lv_at hl 2 rfl) ?_
  obtain ⟨q2, e9, hh⟩ := h
  subst e9
  have h := hh
  clear hh
  refine kv_calli [.int a0, .int a1] (rest := []) (ci := 5) rfl hX hC h.1 (kt_X5_hasState l S q2 a0 a1 _ h.2 E _) (cw_X11_118 hts (by omega) (by omega)) rfl hl.1 (Nat.le_of_ble_eq_true rfl) ⟨Nat.zero_le _, Nat.zero_le _⟩ dX11_live_6 (fun r3 S3 H locs hC h => ?_)
  refine lv_if_eq (tgt := 29) hx hb dX11_live_9 (by decide) (fun c4 => ?_) (fun c4 => ?_)
  · have h := h.1 c4
    refine lv_iconst (v := -1) hx hb dX11_live_29 (by decide) ?_
    exact hret _ _ _ _ _ _ hC h dX11_live_30
  · have h := h.2 c4
    refine lv_iload_n hx hb dX11_live_12 rfl (lv_at hl 3 rfl) ?_
    refine lv_if_lt (tgt := 29) hx hb dX11_live_13 (by decide) (fun c5 => ?_) (fun c5 => ?_)
    · have h := h.1 c5
      refine lv_iconst (v := -1) hx hb dX11_live_29 (by decide) ?_
      exact hret _ _ _ _ _ _ hC h dX11_live_30
    · have h := h.2 c5
      refine lv_iload_n hx hb dX11_live_16 rfl (lv_at hl 3 rfl) ?_
      refine lv_aload_n hx hb dX11_live_17 rfl (lv_at hl 0 rfl) ?_
      refine cq_getr (ci := 11) (k := 5) (f := 74) hX hC rfl in_X11 (by decide) wd_483 (fun _ h9 => h9) (fun _ _ => rfl) dX11_live_18 h (fun z6 h => ?_)
      obtain ⟨q7, e9, hh⟩ := h
      subst e9
      have h := hh
      clear hh
      refine cq_getr (ci := 5) (k := 9) (f := 35) hX hC rfl in_X5 (by decide) wd_426 (fun _ h9 => h9) (fun _ _ => rfl) dX11_live_21 h (fun z8 h => ?_)
      refine lv_iload_n hx hb dX11_live_24 rfl (lv_at hl 1 rfl) ?_
      obtain ⟨q9, e9, hh⟩ := h
      subst e9
      have h := hh
      clear hh
      refine cq_ild hX hC dX11_live_25 h (fun z10 h => ?_)
      refine lv_icmp_lt (tgt := 31) hx hb dX11_live_26 (by decide) (fun c11 => ?_) (fun c11 => ?_)
      · have h := h.1 c11
        refine lv_aload_n hx hb dX11_live_31 rfl (lv_at hl 0 rfl) ?_
        refine cq_getr (ci := 11) (k := 2) (f := 71) hX hC rfl in_X11 (by decide) wd_480 (fun _ h9 => h9) (fun _ _ => rfl) dX11_live_32 h (fun z12 h => ?_)
        refine lv_aload_n hx hb dX11_live_35 rfl (lv_at hl 0 rfl) ?_
        refine cq_getr (ci := 11) (k := 5) (f := 74) hX hC rfl in_X11 (by decide) wd_483 (fun _ h9 => h9) (fun _ _ => rfl) dX11_live_36 h (fun z13 h => ?_)
        refine lv_iload_n hx hb dX11_live_39 rfl (lv_at hl 1 rfl) ?_
        refine lv_iload_n hx hb dX11_live_40 rfl (lv_at hl 2 rfl) ?_
        refine lv_iload_n hx hb dX11_live_41 rfl (lv_at hl 3 rfl) ?_
        obtain ⟨q14, e9, hh⟩ := h
        subst e9
        have h := hh
        clear hh
        obtain ⟨q15, e9, hh⟩ := h
        subst e9
        have h := hh
        clear hh
        refine kv_calli [.ref q15, .int a0, .int a1, .int a2] (rest := []) (ci := 8) rfl hX hC h.1 (kt_X8_readsFirst l S3 q14 q15 a0 a1 a2 _ h.2 E _) (cw_X11_122 hts (by omega) (by omega)) rfl hl.1 (Nat.le_of_ble_eq_true rfl) ⟨Nat.zero_le _, Nat.zero_le _⟩ dX11_live_42 (fun r16 S16 H locs hC h => ?_)
        refine lv_if_eq (tgt := 52) hx hb dX11_live_45 (by decide) (fun c17 => ?_) (fun c17 => ?_)
        · have h := h.1 c17
          refine lv_iconst (v := 0) hx hb dX11_live_52 (by decide) ?_
          exact hret _ _ _ _ _ _ hC h dX11_live_53
        · have h := h.2 c17
          refine lv_iconst (v := 1) hx hb dX11_live_48 (by decide) ?_
          refine lv_goto (tgt := 53) hx hb dX11_live_49 (by decide) ?_
          exact hret _ _ _ _ _ _ hC h dX11_live_53
      · have h := h.2 c11
        refine lv_iconst (v := -1) hx hb dX11_live_29 (by decide) ?_
        exact hret _ _ _ _ _ _ hC h dX11_live_30
def wp_X11_lost (t0 : Nat) (a0 : Int32) (a1 : Int32) (S : kS) (K : kS → Int32 → Prop) : Prop := hasO S t0 11 ∧ ∀ z1 : Option Nat, z1 = S.2.1 72 t0 → ∃ q2 : Nat, z1 = some q2 ∧ hasO S q2 1 ∧ ∀ z3 : Option Nat, z3 = S.2.1 9 q2 → ∃ q4 : Nat, z3 = some q4 ∧ hasO S q4 0 ∧ wp_X0_tell q4 a0 a1 S (fun (S5 : kS) (r5 : Int32) => K S5 r5)
theorem cw_X11_184 {R : Room} {s : State} {args : Array Value} {fr lo : Nat} (hts : ∀ w ∈ tb, w.before args s = true) (h1 : fr + 1 ≤ R.frames) (h2 : 8 + (3 + 11) + lo ≤ R.locals) : CallW R s args RX11 RX0 184 yX0_tell cX0_tell 3 (some .int) (.code yX0_tell cX0_tell 3 (some .int) :: tb) (mRm fr lo) 0 0 2 := cwV 2 hts (gd_V wd_1252 wd_1253 wd_1254 wd_11 wd_1255) rfl rfl rfl (by decide +kernel) ⟨h1, h2⟩
set_option maxHeartbeats 4000000 in
set_option maxRecDepth 100000 in
theorem kt_X11_lost (l : Launch) (S : kS) (t0 : Nat) (a0 : Int32) (a1 : Int32) (K : kS → Int32 → Prop) (h : wp_X11_lost t0 a0 a1 S K) : kMi l yX11_lost cX11_lost 3 (some .int) 1 22 [.ref t0, .int a0, .int a1] S K := by
  refine kv_ofi (own := RX11) (by decide) rfl (Nat.le_of_ble_eq_true rfl) ?_
  intro E p e R s m args below meth c A ls Q hRf hRl hX hC hl hret
  have hx := hX.1.1
  have hb := hX.1.2.1
  have hown := hX.1.2.2.2.1
  have hts := hX.1.2.2.2.2
  have hl : lv_has ls 3 [(0, .ref t0), (1, .int a0), (2, .int a1)] := hl
  unfold wp_X11_lost at h
  refine lv_aload_n hx hb dX11_lost_0 rfl (lv_at hl 0 rfl) ?_
  refine cq_getr (ci := 11) (k := 3) (f := 72) hX hC rfl in_X11 (by decide) wd_481 (fun _ h9 => h9) (fun _ _ => rfl) dX11_lost_1 h (fun z1 h => ?_)
  obtain ⟨q2, e9, hh⟩ := h
  subst e9
  have h := hh
  clear hh
  refine cq_getr (ci := 1) (k := 11) (f := 9) hX hC rfl in_X1 (by decide) wd_258 (fun _ h9 => h9) (fun _ _ => rfl) dX11_lost_4 h (fun z3 h => ?_)
  refine lv_iload_n hx hb dX11_lost_7 rfl (lv_at hl 1 rfl) ?_
  refine lv_iload_n hx hb dX11_lost_8 rfl (lv_at hl 2 rfl) ?_
  obtain ⟨q4, e9, hh⟩ := h
  subst e9
  have h := hh
  clear hh
  refine kv_calli [.int a0, .int a1] (rest := []) (ci := 0) rfl hX hC h.1 (kt_X0_tell l S q4 a0 a1 _ h.2 E _) (cw_X11_184 hts (by omega) (by omega)) rfl hl.1 (Nat.le_of_ble_eq_true rfl) ⟨Nat.zero_le _, Nat.zero_le _⟩ dX11_lost_9 (fun r5 S5 H locs hC h => ?_)
  exact hret _ _ _ _ _ _ hC h dX11_lost_12
def wp_X8_leadsTo_110 (K : kS → Int32 → Prop) (k10 : Nat × Int32 × Int32 × Int32 × kS → Prop) (x0 : Nat) (x2 : Int32) (x4 : Int32) (x5 : Int32) (S : kS) : Prop := ∀ z20 : Int32, z20 = x5 + 1 → k10 (x0, x2, x4, z20, S)
def wp_X8_leadsTo_105 (K : kS → Int32 → Prop) (k10 : Nat × Int32 × Int32 × Int32 × kS → Prop) (x0 : Nat) (x2 : Int32) (x4 : Int32) (x5 : Int32) (y0 : Int32) (y1 : Int32) (S : kS) : Prop := ((¬ y0 = y1 → wp_X8_leadsTo_110 K k10 x0 x2 x4 x5 S) ∧ (y0 = y1 → K S 1))
def wp_X8_leadsTo_82 (K : kS → Int32 → Prop) (k10 : Nat × Int32 × Int32 × Int32 × kS → Prop) (x0 : Nat) (x2 : Int32) (x4 : Int32) (x5 : Int32) (x6 : Int32) (x7 : Int32) (S : kS) : Prop := ((¬ x7 = 24 → hasO S x0 8 ∧ ∀ z22 : Option Nat, z22 = S.2.1 55 x0 → ∃ q23 : Nat, z22 = some q23 ∧ hasO S q23 5 ∧ ∀ z24 : Option Nat, z24 = S.2.1 29 q23 → ∃ q25 : Nat, z24 = some q25 ∧ hasA S q25 8064 0 ∧ inR x6 8064 ∧ ∀ z26 : Int32, z26 = S.2.2.1 q25 (ix x6) → wp_X8_leadsTo_105 K k10 x0 x2 x4 x5 x4 z26 S) ∧ (x7 = 24 → wp_X8_leadsTo_105 K k10 x0 x2 x4 x5 x4 0 S))
def wp_X8_leadsTo_10 (K : kS → Int32 → Prop) (k10 : Nat × Int32 × Int32 × Int32 × kS → Prop) (x0 : Nat) (x2 : Int32) (x4 : Int32) (x5 : Int32) (S : kS) : Prop := ((8064 ≤ x5 → K S 0) ∧ (¬ 8064 ≤ x5 → hasO S x0 8 ∧ ∀ z3 : Int32, z3 = S.1 26 x0 → ((z3 ≤ 0 → K S 0) ∧ (¬ z3 ≤ 0 → hasO S x0 8 ∧ ∀ z5 : Int32, z5 = S.1 26 x0 → ∀ z6 : Int32, z6 = z5 - 1 → hasO S x0 8 ∧ ∀ S7 : kS, S7 = cI S 26 x0 z6 → hasO S7 x0 8 ∧ ∀ z8 : Option Nat, z8 = S7.2.1 54 x0 → hasO S7 x0 8 ∧ ∀ z9 : Int32, z9 = S7.1 26 x0 → ∃ q10 : Nat, z8 = some q10 ∧ hasA S7 q10 8064 0 ∧ inR z9 8064 ∧ ∀ z11 : Int32, z11 = S7.2.2.1 q10 (ix z9) → hasO S7 x0 8 ∧ ∀ z12 : Option Nat, z12 = S7.2.1 55 x0 → ∃ q13 : Nat, z12 = some q13 ∧ hasO S7 q13 5 ∧ ∀ z14 : Option Nat, z14 = S7.2.1 28 q13 → ∃ q15 : Nat, z14 = some q15 ∧ hasA S7 q15 8064 0 ∧ inR z11 8064 ∧ ∀ z16 : Int32, z16 = S7.2.2.1 q15 (ix z11) → ((z16 = 35 → wp_X8_leadsTo_82 K k10 x0 x2 x4 x5 z11 z16 S7) ∧ (¬ z16 = 35 → ((z16 = 24 → wp_X8_leadsTo_82 K k10 x0 x2 x4 x5 z11 z16 S7) ∧ (¬ z16 = 24 → hasO S7 x0 8 ∧ wp_X8_follow x0 x2 z11 S7 (fun (S19 : kS) => wp_X8_leadsTo_110 K k10 x0 x2 x4 x5 S19)))))))))
def ls_X8_leadsTo_10 (K : kS → Int32 → Prop) (k10 : Nat × Int32 × Int32 × Int32 × kS → Prop) (u : Nat × Int32 × Int32 × Int32 × kS) : Prop := wp_X8_leadsTo_10 K k10 u.1 u.2.1 u.2.2.1 u.2.2.2.1 u.2.2.2.2
def wp_X8_leadsTo (t0 : Nat) (a0 : Nat) (a1 : Int32) (a2 : Int32) (a3 : Int32) (S : kS) (K : kS → Int32 → Prop) : Prop := hasO S t0 8 ∧ wp_X8_set t0 a0 a1 a2 S (fun (S1 : kS) => (∃ n9, it (ls_X8_leadsTo_10 K) n9 (t0, a1, a3, 0, S1)))
set_option maxHeartbeats 4000000 in
set_option maxRecDepth 100000 in
theorem kt_X8_leadsTo (l : Launch) (S : kS) (t0 : Nat) (a0 : Nat) (a1 : Int32) (a2 : Int32) (a3 : Int32) (K : kS → Int32 → Prop) (h : wp_X8_leadsTo t0 a0 a1 a2 a3 S K) : kMi l yX8_leadsTo cX8_leadsTo 8 (some .boolean) 6 144 [.ref t0, .ref a0, .int a1, .int a2, .int a3] S K := by
  refine kv_ofz (own := RX8) (by decide) rfl (Nat.le_of_ble_eq_true rfl) ?_
  intro E p e R s m args below meth c A ls Q hRf hRl hX hC hl hret
  have hx := hX.1.1
  have hb := hX.1.2.1
  have hown := hX.1.2.2.2.1
  have hts := hX.1.2.2.2.2
  have cut10 : ∀ (n10 : Nat) (x0 : Nat) (x2 : Int32) (x4 : Int32) (x5 : Int32) (S : kS) (H : Heap) (locs : List Loc) (ls : Array Slot), it (ls_X8_leadsTo_10 K) n10 (x0, x2, x4, x5, S) → cM E A s.heap S H locs → lv_has ls 8 [(0, .ref x0), (2, .int x2), (4, .int x4), (5, .int x5)] → W p l e R s m args below meth c H locs 0 0 Q (F0 m 10 ls []) := by
    intro n10
    induction n10 with
    | zero => intro x0 x2 x4 x5 S H locs ls h hC hl; exact h.elim
    | succ n10 ih10 =>
      have cut110 : ∀ (x0 : Nat) (x2 : Int32) (x4 : Int32) (x5 : Int32) (S : kS) (H : Heap) (locs : List Loc) (ls : Array Slot), wp_X8_leadsTo_110 K (it (ls_X8_leadsTo_10 K) n10) x0 x2 x4 x5 S → cM E A s.heap S H locs → lv_has ls 8 [(0, .ref x0), (2, .int x2), (4, .int x4), (5, .int x5)] → W p l e R s m args below meth c H locs 0 0 Q (F0 m 110 ls []) := by
        intro x0 x2 x4 x5 S H locs ls h hC hl
        unfold wp_X8_leadsTo_110 at h
        obtain ⟨z20, ez20⟩ : ∃ y : Int32, y = x5 + 1 := ⟨_, rfl⟩
        have h := h z20 ez20
        refine lv_iinc (v := z20) (lv' := [(5, .int z20), (0, .ref x0), (2, .int x2), (4, .int x4)]) hx hb dX8_leadsTo_110 hl (k := 3) rfl (by rw [ez20]; rfl) (by decide) rfl (fun ls hl => ?_)
        refine lv_goto (tgt := 10) hx hb dX8_leadsTo_113 (by decide) ?_
        exact ih10 x0 x2 x4 z20 S _ _ _ h hC (lv_sub hl [1, 2, 3, 0] rfl)
      have cut105 : ∀ (x0 : Nat) (x2 : Int32) (x4 : Int32) (x5 : Int32) (y0 : Int32) (y1 : Int32) (S : kS) (H : Heap) (locs : List Loc) (ls : Array Slot), wp_X8_leadsTo_105 K (it (ls_X8_leadsTo_10 K) n10) x0 x2 x4 x5 y0 y1 S → cM E A s.heap S H locs → lv_has ls 8 [(0, .ref x0), (2, .int x2), (4, .int x4), (5, .int x5)] → W p l e R s m args below meth c H locs 0 0 Q (F0 m 105 ls [.int y1, .int y0]) := by
        intro x0 x2 x4 x5 y0 y1 S H locs ls h hC hl
        unfold wp_X8_leadsTo_105 at h
        refine lv_icmp_ne (tgt := 110) hx hb dX8_leadsTo_105 (by decide) (fun c27 => ?_) (fun c27 => ?_)
        · have h := h.1 c27
          exact cut110 x0 x2 x4 x5 S _ _ _ h hC (lv_sub hl [0, 1, 2, 3] rfl)
        · have h := h.2 c27
          refine lv_iconst (v := 1) hx hb dX8_leadsTo_108 (by decide) ?_
          exact hret _ _ _ _ _ _ hC (Or.inr rfl) h dX8_leadsTo_109
      have cut82 : ∀ (x0 : Nat) (x2 : Int32) (x4 : Int32) (x5 : Int32) (x6 : Int32) (x7 : Int32) (S : kS) (H : Heap) (locs : List Loc) (ls : Array Slot), wp_X8_leadsTo_82 K (it (ls_X8_leadsTo_10 K) n10) x0 x2 x4 x5 x6 x7 S → cM E A s.heap S H locs → lv_has ls 8 [(0, .ref x0), (2, .int x2), (4, .int x4), (5, .int x5), (6, .int x6), (7, .int x7)] → W p l e R s m args below meth c H locs 0 0 Q (F0 m 82 ls []) := by
        intro x0 x2 x4 x5 x6 x7 S H locs ls h hC hl
        unfold wp_X8_leadsTo_82 at h
        refine lv_iload hx hb dX8_leadsTo_82 (lv_at hl 2 rfl) ?_
        refine lv_iload hx hb dX8_leadsTo_84 (lv_at hl 5 rfl) ?_
        refine lv_bipush (v := 24) hx hb dX8_leadsTo_86 (by decide) ?_
        refine lv_icmp_ne (tgt := 95) hx hb dX8_leadsTo_88 (by decide) (fun c21 => ?_) (fun c21 => ?_)
        · have h := h.1 c21
          refine lv_aload_n hx hb dX8_leadsTo_95 rfl (lv_at hl 0 rfl) ?_
          refine cq_getr (ci := 8) (k := 4) (f := 55) hX hC rfl in_X8 (by decide) wd_181 (fun _ h9 => h9) (fun _ _ => rfl) dX8_leadsTo_96 h (fun z22 h => ?_)
          obtain ⟨q23, e9, hh⟩ := h
          subst e9
          have h := hh
          clear hh
          refine cq_getr (ci := 5) (k := 2) (f := 29) hX hC rfl in_X5 (by decide) wd_403 (fun _ h9 => h9) (fun _ _ => rfl) dX8_leadsTo_99 h (fun z24 h => ?_)
          refine lv_iload hx hb dX8_leadsTo_102 (lv_at hl 4 rfl) ?_
          obtain ⟨q25, e9, hh⟩ := h
          subst e9
          have h := hh
          clear hh
          refine cq_ild hX hC dX8_leadsTo_104 h (fun z26 h => ?_)
          exact cut105 x0 x2 x4 x5 x4 z26 S _ _ _ h hC (lv_sub hl [0, 1, 2, 3] rfl)
        · have h := h.2 c21
          refine lv_iconst (v := 0) hx hb dX8_leadsTo_91 (by decide) ?_
          refine lv_goto (tgt := 105) hx hb dX8_leadsTo_92 (by decide) ?_
          exact cut105 x0 x2 x4 x5 x4 0 S _ _ _ h hC (lv_sub hl [0, 1, 2, 3] rfl)
      intro x0 x2 x4 x5 S H locs ls h hC hl
      have h : wp_X8_leadsTo_10 K (it (ls_X8_leadsTo_10 K) n10) x0 x2 x4 x5 S := h
      unfold wp_X8_leadsTo_10 at h
      refine lv_iload hx hb dX8_leadsTo_10 (lv_at hl 3 rfl) ?_
      refine lv_sipush (v := 8064) hx hb dX8_leadsTo_12 (by decide) ?_
      refine lv_icmp_ge (tgt := 116) hx hb dX8_leadsTo_15 (by decide) (fun c2 => ?_) (fun c2 => ?_)
      · have h := h.1 c2
        refine lv_iconst (v := 0) hx hb dX8_leadsTo_116 (by decide) ?_
        exact hret _ _ _ _ _ _ hC (Or.inl rfl) h dX8_leadsTo_117
      · have h := h.2 c2
        refine lv_aload_n hx hb dX8_leadsTo_18 rfl (lv_at hl 0 rfl) ?_
        refine cq_geti (ci := 8) (k := 2) (f := 26) hX hC rfl in_X8 (by decide) wd_179 (fun _ h9 => h9) (fun _ _ => rfl) dX8_leadsTo_19 h (fun z3 h => ?_)
        refine lv_if_le (tgt := 116) hx hb dX8_leadsTo_22 (by decide) (fun c4 => ?_) (fun c4 => ?_)
        · have h := h.1 c4
          refine lv_iconst (v := 0) hx hb dX8_leadsTo_116 (by decide) ?_
          exact hret _ _ _ _ _ _ hC (Or.inl rfl) h dX8_leadsTo_117
        · have h := h.2 c4
          refine lv_aload_n hx hb dX8_leadsTo_25 rfl (lv_at hl 0 rfl) ?_
          refine lv_dup hx hb dX8_leadsTo_26 rfl ?_
          refine cq_geti (ci := 8) (k := 2) (f := 26) hX hC rfl in_X8 (by decide) wd_179 (fun _ h9 => h9) (fun _ _ => rfl) dX8_leadsTo_27 h (fun z5 h => ?_)
          refine lv_iconst (v := 1) hx hb dX8_leadsTo_30 (by decide) ?_
          refine lq_isub hx hb dX8_leadsTo_31 h (fun z6 h => ?_)
          refine cq_puti (v := z6) (ci := 8) (k := 2) (f := 26) hX hC rfl in_X8 (by decide) wd_179 (fun _ h9 => h9) tyX8 tyX8_ok nmX8 rfl rfl rfl (fun _ _ => Nat.le_of_ble_eq_true rfl) (fun _ _ _ => rfl) dX8_leadsTo_32 h.1 h.2 (fun S7 H locs hC h => ?_)
          refine lv_aload_n hx hb dX8_leadsTo_35 rfl (lv_at hl 0 rfl) ?_
          refine cq_getr (ci := 8) (k := 1) (f := 54) hX hC rfl in_X8 (by decide) wd_178 (fun _ h9 => h9) (fun _ _ => rfl) dX8_leadsTo_36 h (fun z8 h => ?_)
          refine lv_aload_n hx hb dX8_leadsTo_39 rfl (lv_at hl 0 rfl) ?_
          refine cq_geti (ci := 8) (k := 2) (f := 26) hX hC rfl in_X8 (by decide) wd_179 (fun _ h9 => h9) (fun _ _ => rfl) dX8_leadsTo_40 h (fun z9 h => ?_)
          obtain ⟨q10, e9, hh⟩ := h
          subst e9
          have h := hh
          clear hh
          refine cq_ild hX hC dX8_leadsTo_43 h (fun z11 h => ?_)
          refine lv_istore (lv' := [(6, .int z11), (0, .ref x0), (2, .int x2), (4, .int x4), (5, .int x5)]) hx hb dX8_leadsTo_44 hl (by decide) rfl (fun ls hl => ?_)
          refine lv_aload_n hx hb dX8_leadsTo_46 rfl (lv_at hl 1 rfl) ?_
          refine cq_getr (ci := 8) (k := 4) (f := 55) hX hC rfl in_X8 (by decide) wd_181 (fun _ h9 => h9) (fun _ _ => rfl) dX8_leadsTo_47 h (fun z12 h => ?_)
          obtain ⟨q13, e9, hh⟩ := h
          subst e9
          have h := hh
          clear hh
          refine cq_getr (ci := 5) (k := 1) (f := 28) hX hC rfl in_X5 (by decide) wd_400 (fun _ h9 => h9) (fun _ _ => rfl) dX8_leadsTo_50 h (fun z14 h => ?_)
          refine lv_iload hx hb dX8_leadsTo_53 (lv_at hl 0 rfl) ?_
          obtain ⟨q15, e9, hh⟩ := h
          subst e9
          have h := hh
          clear hh
          refine cq_ild hX hC dX8_leadsTo_55 h (fun z16 h => ?_)
          refine lv_istore (lv' := [(7, .int z16), (6, .int z11), (0, .ref x0), (2, .int x2), (4, .int x4), (5, .int x5)]) hx hb dX8_leadsTo_56 hl (by decide) rfl (fun ls hl => ?_)
          refine lv_iload hx hb dX8_leadsTo_58 (lv_at hl 0 rfl) ?_
          refine lv_bipush (v := 35) hx hb dX8_leadsTo_60 (by decide) ?_
          refine lv_icmp_eq (tgt := 82) hx hb dX8_leadsTo_62 (by decide) (fun c17 => ?_) (fun c17 => ?_)
          · have h := h.1 c17
            exact cut82 x0 x2 x4 x5 z11 z16 S7 _ _ _ h hC (lv_sub hl [2, 3, 4, 5, 1, 0] rfl)
          · have h := h.2 c17
            refine lv_iload hx hb dX8_leadsTo_65 (lv_at hl 0 rfl) ?_
            refine lv_bipush (v := 24) hx hb dX8_leadsTo_67 (by decide) ?_
            refine lv_icmp_eq (tgt := 82) hx hb dX8_leadsTo_69 (by decide) (fun c18 => ?_) (fun c18 => ?_)
            · have h := h.1 c18
              exact cut82 x0 x2 x4 x5 z11 z16 S7 _ _ _ h hC (lv_sub hl [2, 3, 4, 5, 1, 0] rfl)
            · have h := h.2 c18
              refine lv_aload_n hx hb dX8_leadsTo_72 rfl (lv_at hl 2 rfl) ?_
              refine lv_iload_n hx hb dX8_leadsTo_73 rfl (lv_at hl 3 rfl) ?_
              refine lv_iload hx hb dX8_leadsTo_74 (lv_at hl 1 rfl) ?_
              refine kv_callv [.int x2, .int z11] (rest := []) (ci := 8) rfl hX hC h.1 (kt_X8_follow l S7 x0 x2 z11 _ h.2 E _) (cw_X8_38 hts (by omega) (by omega)) rfl hl.1 (Nat.le_of_ble_eq_true rfl) ⟨Nat.zero_le _, Nat.zero_le _⟩ dX8_leadsTo_76 (fun S19 H locs hC h => ?_)
              refine lv_goto (tgt := 110) hx hb dX8_leadsTo_79 (by decide) ?_
              exact cut110 x0 x2 x4 x5 S19 _ _ _ h hC (lv_sub hl [2, 3, 4, 5] rfl)
  have hl : lv_has ls 8 [(0, .ref t0), (1, .ref a0), (2, .int a1), (3, .int a2), (4, .int a3)] := hl
  unfold wp_X8_leadsTo at h
  refine lv_aload_n hx hb dX8_leadsTo_0 rfl (lv_at hl 0 rfl) ?_
  refine lv_aload_n hx hb dX8_leadsTo_1 rfl (lv_at hl 1 rfl) ?_
  refine lv_iload_n hx hb dX8_leadsTo_2 rfl (lv_at hl 2 rfl) ?_
  refine lv_iload_n hx hb dX8_leadsTo_3 rfl (lv_at hl 3 rfl) ?_
  refine kv_callv [.ref a0, .int a1, .int a2] (rest := []) (ci := 8) rfl hX hC h.1 (kt_X8_set l S t0 a0 a1 a2 _ h.2 E _) (cw_X8_18 hts (by omega) (by omega)) rfl hl.1 (Nat.le_of_ble_eq_true rfl) ⟨Nat.zero_le _, Nat.zero_le _⟩ dX8_leadsTo_4 (fun S1 H locs hC h => ?_)
  refine lv_iconst (v := 0) hx hb dX8_leadsTo_7 (by decide) ?_
  refine lv_istore (lv' := [(5, .int 0), (0, .ref t0), (1, .ref a0), (2, .int a1), (3, .int a2), (4, .int a3)]) hx hb dX8_leadsTo_8 hl (by decide) rfl (fun ls hl => ?_)
  obtain ⟨n9, h⟩ := h
  exact cut10 n9 t0 a1 a3 0 S1 _ _ _ h hC (lv_sub hl [1, 3, 5, 0] rfl)
def wp_X11_next (t0 : Nat) (a0 : Int32) (a1 : Int32) (a2 : Int32) (S : kS) (K : kS → Int32 → Prop) : Prop := hasO S t0 11 ∧ ∀ z1 : Option Nat, z1 = S.2.1 74 t0 → ∃ q2 : Nat, z1 = some q2 ∧ hasO S q2 5 ∧ wp_X5_hasState q2 a0 a1 S (fun (S3 : kS) (r3 : Int32) => ((r3 = 0 → K S3 (-1)) ∧ (¬ r3 = 0 → hasO S3 t0 11 ∧ ∀ z5 : Option Nat, z5 = S3.2.1 74 t0 → ∃ q6 : Nat, z5 = some q6 ∧ hasO S3 q6 5 ∧ wp_X5_hasState q6 a0 a2 S3 (fun (S7 : kS) (r7 : Int32) => ((¬ r7 = 0 → hasO S7 t0 11 ∧ ∀ z9 : Option Nat, z9 = S7.2.1 71 t0 → hasO S7 t0 11 ∧ ∀ z10 : Option Nat, z10 = S7.2.1 74 t0 → ∃ q11 : Nat, z9 = some q11 ∧ ∃ q12 : Nat, z10 = some q12 ∧ hasO S7 q11 8 ∧ wp_X8_leadsTo q11 q12 a0 a1 a2 S7 (fun (S13 : kS) (r13 : Int32) => ((r13 = 0 → K S13 0) ∧ (¬ r13 = 0 → K S13 1)))) ∧ (r7 = 0 → K S7 (-1)))))))
theorem cw_X11_126 {R : Room} {s : State} {args : Array Value} {fr lo : Nat} (hts : ∀ w ∈ tb, w.before args s = true) (h1 : fr + 1 ≤ R.frames) (h2 : 8 + (8 + 11) + lo ≤ R.locals) : CallW R s args RX11 RX8 126 yX8_leadsTo cX8_leadsTo 8 (some .boolean) (.code yX8_leadsTo cX8_leadsTo 8 (some .boolean) :: tb) (mRm fr lo) 0 0 4 := cwV 4 hts (gd_V wd_843 wd_844 wd_845 wd_8 wd_846) rfl rfl rfl (by decide +kernel) ⟨h1, h2⟩
set_option maxHeartbeats 4000000 in
set_option maxRecDepth 100000 in
theorem kt_X11_next (l : Launch) (S : kS) (t0 : Nat) (a0 : Int32) (a1 : Int32) (a2 : Int32) (K : kS → Int32 → Prop) (h : wp_X11_next t0 a0 a1 a2 S K) : kMi l yX11_next cX11_next 4 (some .int) 7 171 [.ref t0, .int a0, .int a1, .int a2] S K := by
  refine kv_ofi (own := RX11) (by decide) rfl (Nat.le_of_ble_eq_true rfl) ?_
  intro E p e R s m args below meth c A ls Q hRf hRl hX hC hl hret
  have hx := hX.1.1
  have hb := hX.1.2.1
  have hown := hX.1.2.2.2.1
  have hts := hX.1.2.2.2.2
  have hl : lv_has ls 4 [(0, .ref t0), (1, .int a0), (2, .int a1), (3, .int a2)] := hl
  unfold wp_X11_next at h
  refine lv_aload_n hx hb dX11_next_0 rfl (lv_at hl 0 rfl) ?_
  refine cq_getr (ci := 11) (k := 5) (f := 74) hX hC rfl in_X11 (by decide) wd_483 (fun _ h9 => h9) (fun _ _ => rfl) dX11_next_1 h (fun z1 h => ?_)
  refine lv_iload_n hx hb dX11_next_4 rfl (lv_at hl 1 rfl) ?_
  refine lv_iload_n hx hb dX11_next_5 rfl (lv_at hl 2 rfl) ?_
  obtain ⟨q2, e9, hh⟩ := h
  subst e9
  have h := hh
  clear hh
  refine kv_calli [.int a0, .int a1] (rest := []) (ci := 5) rfl hX hC h.1 (kt_X5_hasState l S q2 a0 a1 _ h.2 E _) (cw_X11_118 hts (by omega) (by omega)) rfl hl.1 (Nat.le_of_ble_eq_true rfl) ⟨Nat.zero_le _, Nat.zero_le _⟩ dX11_next_6 (fun r3 S3 H locs hC h => ?_)
  refine lv_if_eq (tgt := 24) hx hb dX11_next_9 (by decide) (fun c4 => ?_) (fun c4 => ?_)
  · have h := h.1 c4
    refine lv_iconst (v := -1) hx hb dX11_next_24 (by decide) ?_
    exact hret _ _ _ _ _ _ hC h dX11_next_25
  · have h := h.2 c4
    refine lv_aload_n hx hb dX11_next_12 rfl (lv_at hl 0 rfl) ?_
    refine cq_getr (ci := 11) (k := 5) (f := 74) hX hC rfl in_X11 (by decide) wd_483 (fun _ h9 => h9) (fun _ _ => rfl) dX11_next_13 h (fun z5 h => ?_)
    refine lv_iload_n hx hb dX11_next_16 rfl (lv_at hl 1 rfl) ?_
    refine lv_iload_n hx hb dX11_next_17 rfl (lv_at hl 3 rfl) ?_
    obtain ⟨q6, e9, hh⟩ := h
    subst e9
    have h := hh
    clear hh
    refine kv_calli [.int a0, .int a2] (rest := []) (ci := 5) rfl hX hC h.1 (kt_X5_hasState l S3 q6 a0 a2 _ h.2 E _) (cw_X11_118 hts (by omega) (by omega)) rfl hl.1 (Nat.le_of_ble_eq_true rfl) ⟨Nat.zero_le _, Nat.zero_le _⟩ dX11_next_18 (fun r7 S7 H locs hC h => ?_)
    refine lv_if_ne (tgt := 26) hx hb dX11_next_21 (by decide) (fun c8 => ?_) (fun c8 => ?_)
    · have h := h.1 c8
      refine lv_aload_n hx hb dX11_next_26 rfl (lv_at hl 0 rfl) ?_
      refine cq_getr (ci := 11) (k := 2) (f := 71) hX hC rfl in_X11 (by decide) wd_480 (fun _ h9 => h9) (fun _ _ => rfl) dX11_next_27 h (fun z9 h => ?_)
      refine lv_aload_n hx hb dX11_next_30 rfl (lv_at hl 0 rfl) ?_
      refine cq_getr (ci := 11) (k := 5) (f := 74) hX hC rfl in_X11 (by decide) wd_483 (fun _ h9 => h9) (fun _ _ => rfl) dX11_next_31 h (fun z10 h => ?_)
      refine lv_iload_n hx hb dX11_next_34 rfl (lv_at hl 1 rfl) ?_
      refine lv_iload_n hx hb dX11_next_35 rfl (lv_at hl 2 rfl) ?_
      refine lv_iload_n hx hb dX11_next_36 rfl (lv_at hl 3 rfl) ?_
      obtain ⟨q11, e9, hh⟩ := h
      subst e9
      have h := hh
      clear hh
      obtain ⟨q12, e9, hh⟩ := h
      subst e9
      have h := hh
      clear hh
      refine kv_calli [.ref q12, .int a0, .int a1, .int a2] (rest := []) (ci := 8) rfl hX hC h.1 (kt_X8_leadsTo l S7 q11 q12 a0 a1 a2 _ h.2 E _) (cw_X11_126 hts (by omega) (by omega)) rfl hl.1 (Nat.le_of_ble_eq_true rfl) ⟨Nat.zero_le _, Nat.zero_le _⟩ dX11_next_37 (fun r13 S13 H locs hC h => ?_)
      refine lv_if_eq (tgt := 47) hx hb dX11_next_40 (by decide) (fun c14 => ?_) (fun c14 => ?_)
      · have h := h.1 c14
        refine lv_iconst (v := 0) hx hb dX11_next_47 (by decide) ?_
        exact hret _ _ _ _ _ _ hC h dX11_next_48
      · have h := h.2 c14
        refine lv_iconst (v := 1) hx hb dX11_next_43 (by decide) ?_
        refine lv_goto (tgt := 48) hx hb dX11_next_44 (by decide) ?_
        exact hret _ _ _ _ _ _ hC h dX11_next_48
    · have h := h.2 c8
      refine lv_iconst (v := -1) hx hb dX11_next_24 (by decide) ?_
      exact hret _ _ _ _ _ _ hC h dX11_next_25
def wp_X11_put (t0 : Nat) (a0 : Int32) (a1 : Int32) (S : kS) (K : kS → Int32 → Prop) : Prop := hasO S t0 11 ∧ ∀ z1 : Option Nat, z1 = S.2.1 73 t0 → ∃ q2 : Nat, z1 = some q2 ∧ hasO S q2 6 ∧ ∀ z3 : Option Nat, z3 = S.2.1 40 q2 → ∃ q4 : Nat, z3 = some q4 ∧ hasO S q4 0 ∧ wp_X0_tell q4 a0 a1 S (fun (S5 : kS) (r5 : Int32) => K S5 r5)
set_option maxHeartbeats 4000000 in
set_option maxRecDepth 100000 in
theorem kt_X11_put (l : Launch) (S : kS) (t0 : Nat) (a0 : Int32) (a1 : Int32) (K : kS → Int32 → Prop) (h : wp_X11_put t0 a0 a1 S K) : kMi l yX11_put cX11_put 3 (some .int) 1 22 [.ref t0, .int a0, .int a1] S K := by
  refine kv_ofi (own := RX11) (by decide) rfl (Nat.le_of_ble_eq_true rfl) ?_
  intro E p e R s m args below meth c A ls Q hRf hRl hX hC hl hret
  have hx := hX.1.1
  have hb := hX.1.2.1
  have hown := hX.1.2.2.2.1
  have hts := hX.1.2.2.2.2
  have hl : lv_has ls 3 [(0, .ref t0), (1, .int a0), (2, .int a1)] := hl
  unfold wp_X11_put at h
  refine lv_aload_n hx hb dX11_put_0 rfl (lv_at hl 0 rfl) ?_
  refine cq_getr (ci := 11) (k := 4) (f := 73) hX hC rfl in_X11 (by decide) wd_482 (fun _ h9 => h9) (fun _ _ => rfl) dX11_put_1 h (fun z1 h => ?_)
  obtain ⟨q2, e9, hh⟩ := h
  subst e9
  have h := hh
  clear hh
  refine cq_getr (ci := 6) (k := 2) (f := 40) hX hC rfl in_X6 (by decide) wd_306 (fun _ h9 => h9) (fun _ _ => rfl) dX11_put_4 h (fun z3 h => ?_)
  refine lv_iload_n hx hb dX11_put_7 rfl (lv_at hl 1 rfl) ?_
  refine lv_iload_n hx hb dX11_put_8 rfl (lv_at hl 2 rfl) ?_
  obtain ⟨q4, e9, hh⟩ := h
  subst e9
  have h := hh
  clear hh
  refine kv_calli [.int a0, .int a1] (rest := []) (ci := 0) rfl hX hC h.1 (kt_X0_tell l S q4 a0 a1 _ h.2 E _) (cw_X11_184 hts (by omega) (by omega)) rfl hl.1 (Nat.le_of_ble_eq_true rfl) ⟨Nat.zero_le _, Nat.zero_le _⟩ dX11_put_9 (fun r5 S5 H locs hC h => ?_)
  exact hret _ _ _ _ _ _ hC h dX11_put_12
def wp_X11_row (t0 : Nat) (a0 : Int32) (S : kS) (K : kS → Int32 → Prop) : Prop := ((a0 < 0 → K S (-1)) ∧ (¬ a0 < 0 → hasO S t0 11 ∧ ∀ z2 : Option Nat, z2 = S.2.1 72 t0 → ∃ q3 : Nat, z2 = some q3 ∧ hasO S q3 1 ∧ ∀ z4 : Int32, z4 = S.1 3 q3 → ((a0 < z4 → hasO S t0 11 ∧ ∀ z6 : Option Nat, z6 = S.2.1 72 t0 → ∃ q7 : Nat, z6 = some q7 ∧ hasO S q7 1 ∧ ∀ z8 : Option Nat, z8 = S.2.1 4 q7 → ∃ q9 : Nat, z8 = some q9 ∧ hasA S q9 200 0 ∧ inR a0 200 ∧ ∀ z10 : Int32, z10 = S.2.2.1 q9 (ix a0) → K S z10) ∧ (¬ a0 < z4 → K S (-1)))))
set_option maxHeartbeats 4000000 in
set_option maxRecDepth 100000 in
theorem kt_X11_row (l : Launch) (S : kS) (t0 : Nat) (a0 : Int32) (K : kS → Int32 → Prop) (h : wp_X11_row t0 a0 S K) : kMi l yX11_row cX11_row 2 (some .int) 0 0 [.ref t0, .int a0] S K := by
  refine kv_ofi (own := RX11) (by decide) rfl (Nat.le_of_ble_eq_true rfl) ?_
  intro E p e R s m args below meth c A ls Q hRf hRl hX hC hl hret
  have hx := hX.1.1
  have hb := hX.1.2.1
  have hown := hX.1.2.2.2.1
  have hts := hX.1.2.2.2.2
  have hl : lv_has ls 2 [(0, .ref t0), (1, .int a0)] := hl
  unfold wp_X11_row at h
  refine lv_iload_n hx hb dX11_row_0 rfl (lv_at hl 1 rfl) ?_
  refine lv_if_lt (tgt := 15) hx hb dX11_row_1 (by decide) (fun c1 => ?_) (fun c1 => ?_)
  · have h := h.1 c1
    refine lv_iconst (v := -1) hx hb dX11_row_15 (by decide) ?_
    refine lv_goto (tgt := 28) hx hb dX11_row_16 (by decide) ?_
    exact hret _ _ _ _ _ _ hC h dX11_row_28
  · have h := h.2 c1
    refine lv_iload_n hx hb dX11_row_4 rfl (lv_at hl 1 rfl) ?_
    refine lv_aload_n hx hb dX11_row_5 rfl (lv_at hl 0 rfl) ?_
    refine cq_getr (ci := 11) (k := 3) (f := 72) hX hC rfl in_X11 (by decide) wd_481 (fun _ h9 => h9) (fun _ _ => rfl) dX11_row_6 h (fun z2 h => ?_)
    obtain ⟨q3, e9, hh⟩ := h
    subst e9
    have h := hh
    clear hh
    refine cq_geti (ci := 1) (k := 5) (f := 3) hX hC rfl in_X1 (by decide) wd_244 (fun _ h9 => h9) (fun _ _ => rfl) dX11_row_9 h (fun z4 h => ?_)
    refine lv_icmp_lt (tgt := 19) hx hb dX11_row_12 (by decide) (fun c5 => ?_) (fun c5 => ?_)
    · have h := h.1 c5
      refine lv_aload_n hx hb dX11_row_19 rfl (lv_at hl 0 rfl) ?_
      refine cq_getr (ci := 11) (k := 3) (f := 72) hX hC rfl in_X11 (by decide) wd_481 (fun _ h9 => h9) (fun _ _ => rfl) dX11_row_20 h (fun z6 h => ?_)
      obtain ⟨q7, e9, hh⟩ := h
      subst e9
      have h := hh
      clear hh
      refine cq_getr (ci := 1) (k := 4) (f := 4) hX hC rfl in_X1 (by decide) wd_242 (fun _ h9 => h9) (fun _ _ => rfl) dX11_row_23 h (fun z8 h => ?_)
      refine lv_iload_n hx hb dX11_row_26 rfl (lv_at hl 1 rfl) ?_
      obtain ⟨q9, e9, hh⟩ := h
      subst e9
      have h := hh
      clear hh
      refine cq_ild hX hC dX11_row_27 h (fun z10 h => ?_)
      exact hret _ _ _ _ _ _ hC h dX11_row_28
    · have h := h.2 c5
      refine lv_iconst (v := -1) hx hb dX11_row_15 (by decide) ?_
      refine lv_goto (tgt := 28) hx hb dX11_row_16 (by decide) ?_
      exact hret _ _ _ _ _ _ hC h dX11_row_28
def wp_X2_taskAt_35 (K : kS → Int32 → Prop) (x2 : Option Nat) (S : kS) : Prop := ((x2 = none → K S (-1)) ∧ (∀ q7 : Nat, x2 = some q7 → hasO S q7 4 ∧ ∀ z8 : Option Nat, z8 = S.2.1 21 q7 → ∃ q9 : Nat, z8 = some q9 ∧ hasO S q9 9 ∧ ∀ z10 : Int32, z10 = S.1 28 q9 → K S z10))
def wp_X2_taskAt_15 (K : kS → Int32 → Prop) (k15 : Int32 × Option Nat × Int32 × kS → Prop) (x1 : Int32) (x2 : Option Nat) (x3 : Int32) (S : kS) : Prop := ((x1 ≤ x3 → wp_X2_taskAt_35 K x2 S) ∧ (¬ x1 ≤ x3 → ((x2 = none → wp_X2_taskAt_35 K none S) ∧ (∀ q4 : Nat, x2 = some q4 → hasO S q4 4 ∧ ∀ z5 : Option Nat, z5 = S.2.1 27 q4 → ∀ z6 : Int32, z6 = x3 + 1 → k15 (x1, z5, z6, S)))))
def ls_X2_taskAt_15 (K : kS → Int32 → Prop) (k15 : Int32 × Option Nat × Int32 × kS → Prop) (u : Int32 × Option Nat × Int32 × kS) : Prop := wp_X2_taskAt_15 K k15 u.1 u.2.1 u.2.2.1 u.2.2.2
def wp_X2_taskAt_12 (K : kS → Int32 → Prop) (x1 : Int32) (y0 : Option Nat) (S : kS) : Prop := (∃ n9, it (ls_X2_taskAt_15 K) n9 (x1, y0, 0, S))
def wp_X2_taskAt (t0 : Nat) (a0 : Int32) (S : kS) (K : kS → Int32 → Prop) : Prop := ((0 ≤ a0 → hasO S t0 2 ∧ ∀ z2 : Option Nat, z2 = S.2.1 12 t0 → wp_X2_taskAt_12 K a0 z2 S) ∧ (¬ 0 ≤ a0 → wp_X2_taskAt_12 K a0 none S))
set_option maxHeartbeats 4000000 in
set_option maxRecDepth 100000 in
theorem kt_X2_taskAt (l : Launch) (S : kS) (t0 : Nat) (a0 : Int32) (K : kS → Int32 → Prop) (h : wp_X2_taskAt t0 a0 S K) : kMi l yX2_taskAt cX2_taskAt 4 (some .int) 0 0 [.ref t0, .int a0] S K := by
  refine kv_ofi (own := RX2) (by decide) rfl (Nat.le_of_ble_eq_true rfl) ?_
  intro E p e R s m args below meth c A ls Q hRf hRl hX hC hl hret
  have hx := hX.1.1
  have hb := hX.1.2.1
  have hown := hX.1.2.2.2.1
  have hts := hX.1.2.2.2.2
  have cut35 : ∀ (x2 : Option Nat) (S : kS) (H : Heap) (locs : List Loc) (ls : Array Slot), wp_X2_taskAt_35 K x2 S → cM E A s.heap S H locs → lv_has ls 4 [(2, va_rf x2)] → W p l e R s m args below meth c H locs 0 0 Q (F0 m 35 ls []) := by
    intro x2 S H locs ls h hC hl
    unfold wp_X2_taskAt_35 at h
    refine lo_aload_n hx hb dX2_taskAt_35 rfl (lv_at hl 0 rfl) ?_
    rcases x2 with _ | q7
    · have h := h.1 rfl
      refine lv_ifnonnullN hx hb dX2_taskAt_36 ?_
      refine lv_iconst (v := -1) hx hb dX2_taskAt_39 (by decide) ?_
      refine lv_goto (tgt := 50) hx hb dX2_taskAt_40 (by decide) ?_
      exact hret _ _ _ _ _ _ hC h dX2_taskAt_50
    · have h := h.2 q7 rfl
      refine lv_ifnonnull (tgt := 43) hx hb dX2_taskAt_36 (by decide) ?_
      refine lv_aload_n hx hb dX2_taskAt_43 rfl (lv_at hl 0 rfl) ?_
      refine cq_getr (ci := 4) (k := 0) (f := 21) hX hC rfl in_X4 (by decide) wd_1056 (fun _ h9 => h9) (fun _ _ => rfl) dX2_taskAt_44 h (fun z8 h => ?_)
      obtain ⟨q9, e9, hh⟩ := h
      subst e9
      have h := hh
      clear hh
      refine cq_geti (ci := 9) (k := 0) (f := 28) hX hC rfl in_X9 (by decide) wd_863 (fun _ h9 => h9) (fun _ _ => rfl) dX2_taskAt_47 h (fun z10 h => ?_)
      exact hret _ _ _ _ _ _ hC h dX2_taskAt_50
  have cut15 : ∀ (n15 : Nat) (x1 : Int32) (x2 : Option Nat) (x3 : Int32) (S : kS) (H : Heap) (locs : List Loc) (ls : Array Slot), it (ls_X2_taskAt_15 K) n15 (x1, x2, x3, S) → cM E A s.heap S H locs → lv_has ls 4 [(1, .int x1), (2, va_rf x2), (3, .int x3)] → W p l e R s m args below meth c H locs 0 0 Q (F0 m 15 ls []) := by
    intro n15
    induction n15 with
    | zero => intro x1 x2 x3 S H locs ls h hC hl; exact h.elim
    | succ n15 ih15 =>
      intro x1 x2 x3 S H locs ls h hC hl
      have h : wp_X2_taskAt_15 K (it (ls_X2_taskAt_15 K) n15) x1 x2 x3 S := h
      unfold wp_X2_taskAt_15 at h
      refine lv_iload_n hx hb dX2_taskAt_15 rfl (lv_at hl 2 rfl) ?_
      refine lv_iload_n hx hb dX2_taskAt_16 rfl (lv_at hl 0 rfl) ?_
      refine lv_icmp_ge (tgt := 35) hx hb dX2_taskAt_17 (by decide) (fun c3 => ?_) (fun c3 => ?_)
      · have h := h.1 c3
        exact cut35 x2 S _ _ _ h hC (lv_sub hl [1] rfl)
      · have h := h.2 c3
        refine lo_aload_n hx hb dX2_taskAt_20 rfl (lv_at hl 1 rfl) ?_
        rcases x2 with _ | q4
        · have h := h.1 rfl
          refine lv_ifnullN (tgt := 35) hx hb dX2_taskAt_21 (by decide) ?_
          exact cut35 none S _ _ _ h hC (lv_sub hl [1] rfl)
        · have h := h.2 q4 rfl
          refine lv_ifnull hx hb dX2_taskAt_21 ?_
          refine lv_aload_n hx hb dX2_taskAt_24 rfl (lv_at hl 1 rfl) ?_
          refine cq_getr (ci := 4) (k := 11) (f := 27) hX hC rfl in_X4 (by decide) wd_1082 (fun _ h9 => h9) (fun _ _ => rfl) dX2_taskAt_25 h (fun z5 h => ?_)
          refine lo_astore_n (lv' := [(2, va_rf z5), (1, .int x1), (3, .int x3)]) hx hb dX2_taskAt_28 rfl hl (by decide) (by rcases z5 with _ | _ <;> rfl) (fun ls hl => ?_)
          obtain ⟨z6, ez6⟩ : ∃ y : Int32, y = x3 + 1 := ⟨_, rfl⟩
          have h := h z6 ez6
          refine lv_iinc (v := z6) (lv' := [(3, .int z6), (2, va_rf z5), (1, .int x1)]) hx hb dX2_taskAt_29 hl (k := 2) rfl (by rw [ez6]; rfl) (by decide) (by rcases z5 with _ | _ <;> rfl) (fun ls hl => ?_)
          refine lv_goto (tgt := 15) hx hb dX2_taskAt_32 (by decide) ?_
          exact ih15 x1 z5 z6 S _ _ _ h hC (lv_sub hl [2, 1, 0] rfl)
  have cut12 : ∀ (x1 : Int32) (y0 : Option Nat) (S : kS) (H : Heap) (locs : List Loc) (ls : Array Slot), wp_X2_taskAt_12 K x1 y0 S → cM E A s.heap S H locs → lv_has ls 4 [(1, .int x1)] → W p l e R s m args below meth c H locs 0 0 Q (F0 m 12 ls [va_rf y0]) := by
    intro x1 y0 S H locs ls h hC hl
    unfold wp_X2_taskAt_12 at h
    refine lo_astore_n (lv' := [(2, va_rf y0), (1, .int x1)]) hx hb dX2_taskAt_12 rfl hl (by decide) (by rcases y0 with _ | _ <;> rfl) (fun ls hl => ?_)
    refine lv_iconst (v := 0) hx hb dX2_taskAt_13 (by decide) ?_
    refine lv_istore_n (lv' := [(3, .int 0), (2, va_rf y0), (1, .int x1)]) hx hb dX2_taskAt_14 rfl hl (by decide) (by rcases y0 with _ | _ <;> rfl) (fun ls hl => ?_)
    obtain ⟨n9, h⟩ := h
    exact cut15 n9 x1 y0 0 S _ _ _ h hC (lv_sub hl [2, 1, 0] rfl)
  have hl : lv_has ls 4 [(0, .ref t0), (1, .int a0)] := hl
  unfold wp_X2_taskAt at h
  refine lv_iload_n hx hb dX2_taskAt_0 rfl (lv_at hl 1 rfl) ?_
  refine lv_if_ge (tgt := 8) hx hb dX2_taskAt_1 (by decide) (fun c1 => ?_) (fun c1 => ?_)
  · have h := h.1 c1
    refine lv_aload_n hx hb dX2_taskAt_8 rfl (lv_at hl 0 rfl) ?_
    refine cq_getr (ci := 2) (k := 0) (f := 12) hX hC rfl in_X2 (by decide) wd_208 (fun _ h9 => h9) (fun _ _ => rfl) dX2_taskAt_9 h (fun z2 h => ?_)
    exact cut12 a0 z2 S _ _ _ h hC (lv_sub hl [1] rfl)
  · have h := h.2 c1
    refine lv_null hx hb dX2_taskAt_4 ?_
    refine lv_goto (tgt := 12) hx hb dX2_taskAt_5 (by decide) ?_
    exact cut12 a0 none S _ _ _ h hC (lv_sub hl [1] rfl)
def wp_X11_stands (t0 : Nat) (a0 : Int32) (a1 : Int32) (S : kS) (K : kS → Int32 → Prop) : Prop := ((a0 < 0 → K S (-1)) ∧ (¬ a0 < 0 → ((a0 < 8 → hasO S t0 11 ∧ ∀ z3 : Option Nat, z3 = S.2.1 72 t0 → ∃ q4 : Nat, z3 = some q4 ∧ hasO S q4 1 ∧ ∀ z5 : Option Nat, z5 = S.2.1 7 q4 → ∃ q6 : Nat, z5 = some q6 ∧ hasA S q6 8 4 ∧ inR a0 8 ∧ ∀ z7 : Option Nat, z7 = S.2.2.2.2.1 q6 (ix a0) → ∃ q8 : Nat, z7 = some q8 ∧ hasO S q8 2 ∧ wp_X2_taskAt q8 a1 S (fun (S9 : kS) (r9 : Int32) => K S9 r9)) ∧ (¬ a0 < 8 → K S (-1)))))
theorem cw_X11_199 {R : Room} {s : State} {args : Array Value} {fr lo : Nat} (hts : ∀ w ∈ tb, w.before args s = true) (h1 : fr + 1 ≤ R.frames) (h2 : 8 + (4 + 11) + lo ≤ R.locals) : CallW R s args RX11 RX2 199 yX2_taskAt cX2_taskAt 4 (some .int) (.code yX2_taskAt cX2_taskAt 4 (some .int) :: tb) (mRm fr lo) 0 0 1 := cwV 1 hts (gd_V wd_1268 wd_1269 wd_1270 wd_10 wd_1271) rfl rfl rfl (by decide +kernel) ⟨h1, h2⟩
set_option maxHeartbeats 4000000 in
set_option maxRecDepth 100000 in
theorem kt_X11_stands (l : Launch) (S : kS) (t0 : Nat) (a0 : Int32) (a1 : Int32) (K : kS → Int32 → Prop) (h : wp_X11_stands t0 a0 a1 S K) : kMi l yX11_stands cX11_stands 3 (some .int) 1 23 [.ref t0, .int a0, .int a1] S K := by
  refine kv_ofi (own := RX11) (by decide) rfl (Nat.le_of_ble_eq_true rfl) ?_
  intro E p e R s m args below meth c A ls Q hRf hRl hX hC hl hret
  have hx := hX.1.1
  have hb := hX.1.2.1
  have hown := hX.1.2.2.2.1
  have hts := hX.1.2.2.2.2
  have hl : lv_has ls 3 [(0, .ref t0), (1, .int a0), (2, .int a1)] := hl
  unfold wp_X11_stands at h
  refine lv_iload_n hx hb dX11_stands_0 rfl (lv_at hl 1 rfl) ?_
  refine lv_if_lt (tgt := 10) hx hb dX11_stands_1 (by decide) (fun c1 => ?_) (fun c1 => ?_)
  · have h := h.1 c1
    refine lv_iconst (v := -1) hx hb dX11_stands_10 (by decide) ?_
    refine lv_goto (tgt := 27) hx hb dX11_stands_11 (by decide) ?_
    exact hret _ _ _ _ _ _ hC h dX11_stands_27
  · have h := h.2 c1
    refine lv_iload_n hx hb dX11_stands_4 rfl (lv_at hl 1 rfl) ?_
    refine lv_bipush (v := 8) hx hb dX11_stands_5 (by decide) ?_
    refine lv_icmp_lt (tgt := 14) hx hb dX11_stands_7 (by decide) (fun c2 => ?_) (fun c2 => ?_)
    · have h := h.1 c2
      refine lv_aload_n hx hb dX11_stands_14 rfl (lv_at hl 0 rfl) ?_
      refine cq_getr (ci := 11) (k := 3) (f := 72) hX hC rfl in_X11 (by decide) wd_481 (fun _ h9 => h9) (fun _ _ => rfl) dX11_stands_15 h (fun z3 h => ?_)
      obtain ⟨q4, e9, hh⟩ := h
      subst e9
      have h := hh
      clear hh
      refine cq_getr (ci := 1) (k := 9) (f := 7) hX hC rfl in_X1 (by decide) wd_255 (fun _ h9 => h9) (fun _ _ => rfl) dX11_stands_18 h (fun z5 h => ?_)
      refine lv_iload_n hx hb dX11_stands_21 rfl (lv_at hl 1 rfl) ?_
      obtain ⟨q6, e9, hh⟩ := h
      subst e9
      have h := hh
      clear hh
      refine cq_qld4 hX hC dX11_stands_22 h (fun z7 h => ?_)
      refine lv_iload_n hx hb dX11_stands_23 rfl (lv_at hl 2 rfl) ?_
      obtain ⟨q8, e9, hh⟩ := h
      subst e9
      have h := hh
      clear hh
      refine kv_calli [.int a1] (rest := []) (ci := 2) rfl hX hC h.1 (kt_X2_taskAt l S q8 a1 _ h.2 E _) (cw_X11_199 hts (by omega) (by omega)) rfl hl.1 (Nat.le_of_ble_eq_true rfl) ⟨Nat.zero_le _, Nat.zero_le _⟩ dX11_stands_24 (fun r9 S9 H locs hC h => ?_)
      exact hret _ _ _ _ _ _ hC h dX11_stands_27
    · have h := h.2 c2
      refine lv_iconst (v := -1) hx hb dX11_stands_10 (by decide) ?_
      refine lv_goto (tgt := 27) hx hb dX11_stands_11 (by decide) ?_
      exact hret _ _ _ _ _ _ hC h dX11_stands_27
