theorem wd_1473 : (Jvm.Cond.fieldLink "SleepersModel" (513 : Nat) "SleepersModel" "opens" "I") ∈ tb := tb_at 1473 (by decide +kernel) (by decide +kernel)
theorem wd_1970 : (Jvm.Cond.methodLink "SleepersModel" (516 : Nat) ({ cls := "SleepersModel", name := "go", desc := "(II)V" } : Jvm.MethodName)) ∈ tb := tb_at 1970 (by decide +kernel) (by decide +kernel)
theorem wd_1972 : (Jvm.Cond.instanceMethod ({ cls := "SleepersModel", name := "go", desc := "(II)V" } : Jvm.MethodName)) ∈ tb := tb_at 1972 (by decide +kernel) (by decide +kernel)
theorem wd_1973 : (Jvm.Cond.code ({ cls := "SleepersModel", name := "go", desc := "(II)V" } : Jvm.MethodName) prog_14_method_51_code (5 : Nat) (Option.none : Option Jvm.ClassFile.FieldType)) ∈ tb := tb_at 1973 (by decide +kernel) (by decide +kernel)
theorem wd_2087 : (Jvm.Cond.methodLink "SleepersModel" (633 : Nat) ({ cls := "SleepersModel", name := "leave", desc := "(II)V" } : Jvm.MethodName)) ∈ tb := tb_at 2087 (by decide +kernel) (by decide +kernel)
theorem wd_2089 : (Jvm.Cond.instanceMethod ({ cls := "SleepersModel", name := "leave", desc := "(II)V" } : Jvm.MethodName)) ∈ tb := tb_at 2089 (by decide +kernel) (by decide +kernel)
theorem wd_2090 : (Jvm.Cond.code ({ cls := "SleepersModel", name := "leave", desc := "(II)V" } : Jvm.MethodName) prog_14_method_85_code (5 : Nat) (Option.none : Option Jvm.ClassFile.FieldType)) ∈ tb := tb_at 2090 (by decide +kernel) (by decide +kernel)
theorem sl_X12_go : Cond.selects RX12 yX12_go yX12_go ∈ tb := sl_of (y := ⟨"SleepersModel", "go", "(II)V"⟩) (n := 128) (by decide +kernel) (by decide +kernel)
theorem sl_X12_leave : Cond.selects RX12 yX12_leave yX12_leave ∈ tb := sl_of (y := ⟨"SleepersModel", "leave", "(II)V"⟩) (n := 128) (by decide +kernel) (by decide +kernel)
theorem dX12_feed_0 : decode cX12_feed 0 = .ok (.aload_n 0, 1) := by decide +kernel
theorem dX12_feed_1 : decode cX12_feed 1 = .ok (.iconst 0, 1) := by decide +kernel
theorem dX12_feed_2 : decode cX12_feed 2 = .ok (.putfield 1, 3) := by decide +kernel
theorem dX12_feed_5 : decode cX12_feed 5 = .ok (.aload_n 0, 1) := by decide +kernel
theorem dX12_feed_6 : decode cX12_feed 6 = .ok (.lload_n 1, 1) := by decide +kernel
theorem dX12_feed_7 : decode cX12_feed 7 = .ok (.invokevirtual 7, 3) := by decide +kernel
theorem dX12_feed_10 : decode cX12_feed 10 = .ok (.aload_n 0, 1) := by decide +kernel
theorem dX12_feed_11 : decode cX12_feed 11 = .ok (.lload_n 3, 1) := by decide +kernel
theorem dX12_feed_12 : decode cX12_feed 12 = .ok (.invokevirtual 7, 3) := by decide +kernel
theorem dX12_feed_15 : decode cX12_feed 15 = .ok (.aload_n 0, 1) := by decide +kernel
theorem dX12_feed_16 : decode cX12_feed 16 = .ok (.lload 5, 2) := by decide +kernel
theorem dX12_feed_18 : decode cX12_feed 18 = .ok (.invokevirtual 7, 3) := by decide +kernel
theorem dX12_feed_21 : decode cX12_feed 21 = .ok (.aload_n 0, 1) := by decide +kernel
theorem dX12_feed_22 : decode cX12_feed 22 = .ok (.getfield 11, 3) := by decide +kernel
theorem dX12_feed_25 : decode cX12_feed 25 = .ok (.ireturn, 1) := by decide +kernel
theorem dX12_finished_0 : decode cX12_finished 0 = .ok (.aload_n 0, 1) := by decide +kernel
theorem dX12_finished_1 : decode cX12_finished 1 = .ok (.getfield 237, 3) := by decide +kernel
theorem dX12_finished_4 : decode cX12_finished 4 = .ok (.aload_n 0, 1) := by decide +kernel
theorem dX12_finished_5 : decode cX12_finished 5 = .ok (.getfield 600, 3) := by decide +kernel
theorem dX12_finished_8 : decode cX12_finished 8 = .ok (.dup2, 1) := by decide +kernel
theorem dX12_finished_9 : decode cX12_finished 9 = .ok (.iaload, 1) := by decide +kernel
theorem dX12_finished_10 : decode cX12_finished 10 = .ok (.iconst 1, 1) := by decide +kernel
theorem dX12_finished_11 : decode cX12_finished 11 = .ok (.isub, 1) := by decide +kernel
theorem dX12_finished_12 : decode cX12_finished 12 = .ok (.iastore, 1) := by decide +kernel
theorem dX12_finished_13 : decode cX12_finished 13 = .ok (.bipush 11, 2) := by decide +kernel
theorem dX12_finished_15 : decode cX12_finished 15 = .ok (.aload_n 0, 1) := by decide +kernel
theorem dX12_finished_16 : decode cX12_finished 16 = .ok (.getfield 600, 3) := by decide +kernel
theorem dX12_finished_19 : decode cX12_finished 19 = .ok (.imul, 1) := by decide +kernel
theorem dX12_finished_20 : decode cX12_finished 20 = .ok (.aload_n 0, 1) := by decide +kernel
theorem dX12_finished_21 : decode cX12_finished 21 = .ok (.getfield 237, 3) := by decide +kernel
theorem dX12_finished_24 : decode cX12_finished 24 = .ok (.aload_n 0, 1) := by decide +kernel
theorem dX12_finished_25 : decode cX12_finished 25 = .ok (.getfield 600, 3) := by decide +kernel
theorem dX12_finished_28 : decode cX12_finished 28 = .ok (.iaload, 1) := by decide +kernel
theorem dX12_finished_29 : decode cX12_finished 29 = .ok (.iadd, 1) := by decide +kernel
theorem dX12_finished_30 : decode cX12_finished 30 = .ok (.istore_n 2, 1) := by decide +kernel
theorem dX12_finished_31 : decode cX12_finished 31 = .ok (.aload_n 0, 1) := by decide +kernel
theorem dX12_finished_32 : decode cX12_finished 32 = .ok (.getfield 246, 3) := by decide +kernel
theorem dX12_finished_35 : decode cX12_finished 35 = .ok (.iload_n 2, 1) := by decide +kernel
theorem dX12_finished_36 : decode cX12_finished 36 = .ok (.iaload, 1) := by decide +kernel
theorem dX12_finished_37 : decode cX12_finished 37 = .ok (.istore_n 3, 1) := by decide +kernel
theorem dX12_finished_38 : decode cX12_finished 38 = .ok (.aload_n 0, 1) := by decide +kernel
theorem dX12_finished_39 : decode cX12_finished 39 = .ok (.getfield 249, 3) := by decide +kernel
theorem dX12_finished_42 : decode cX12_finished 42 = .ok (.iload_n 2, 1) := by decide +kernel
theorem dX12_finished_43 : decode cX12_finished 43 = .ok (.iaload, 1) := by decide +kernel
theorem dX12_finished_44 : decode cX12_finished 44 = .ok (.istore 4, 2) := by decide +kernel
theorem dX12_finished_46 : decode cX12_finished 46 = .ok (.iload_n 3, 1) := by decide +kernel
theorem dX12_finished_47 : decode cX12_finished 47 = .ok (.ifCond .ne 16, 3) := by decide +kernel
theorem dX12_finished_50 : decode cX12_finished 50 = .ok (.aload_n 0, 1) := by decide +kernel
theorem dX12_finished_51 : decode cX12_finished 51 = .ok (.aload_n 0, 1) := by decide +kernel
theorem dX12_finished_52 : decode cX12_finished 52 = .ok (.getfield 128, 3) := by decide +kernel
theorem dX12_finished_55 : decode cX12_finished 55 = .ok (.iload_n 1, 1) := by decide +kernel
theorem dX12_finished_56 : decode cX12_finished 56 = .ok (.iaload, 1) := by decide +kernel
theorem dX12_finished_57 : decode cX12_finished 57 = .ok (.putfield 609, 3) := by decide +kernel
theorem dX12_finished_60 : decode cX12_finished 60 = .ok (.goto 36, 3) := by decide +kernel
theorem dX12_finished_63 : decode cX12_finished 63 = .ok (.iload_n 3, 1) := by decide +kernel
theorem dX12_finished_64 : decode cX12_finished 64 = .ok (.iconst 1, 1) := by decide +kernel
theorem dX12_finished_65 : decode cX12_finished 65 = .ok (.if_icmp .ne 12, 3) := by decide +kernel
theorem dX12_finished_68 : decode cX12_finished 68 = .ok (.aload_n 0, 1) := by decide +kernel
theorem dX12_finished_69 : decode cX12_finished 69 = .ok (.iload 4, 2) := by decide +kernel
theorem dX12_finished_71 : decode cX12_finished 71 = .ok (.invokevirtual 612, 3) := by decide +kernel
theorem dX12_finished_74 : decode cX12_finished 74 = .ok (.goto 22, 3) := by decide +kernel
theorem dX12_finished_77 : decode cX12_finished 77 = .ok (.iload_n 3, 1) := by decide +kernel
theorem dX12_finished_78 : decode cX12_finished 78 = .ok (.iconst 2, 1) := by decide +kernel
theorem dX12_finished_79 : decode cX12_finished 79 = .ok (.if_icmp .ne 10, 3) := by decide +kernel
theorem dX12_finished_82 : decode cX12_finished 82 = .ok (.aload_n 0, 1) := by decide +kernel
theorem dX12_finished_83 : decode cX12_finished 83 = .ok (.invokevirtual 615, 3) := by decide +kernel
theorem dX12_finished_86 : decode cX12_finished 86 = .ok (.goto 10, 3) := by decide +kernel
theorem dX12_finished_89 : decode cX12_finished 89 = .ok (.aload_n 0, 1) := by decide +kernel
theorem dX12_finished_90 : decode cX12_finished 90 = .ok (.iload_n 3, 1) := by decide +kernel
theorem dX12_finished_91 : decode cX12_finished 91 = .ok (.iload 4, 2) := by decide +kernel
theorem dX12_finished_93 : decode cX12_finished 93 = .ok (.invokevirtual 633, 3) := by decide +kernel
theorem dX12_finished_96 : decode cX12_finished 96 = .ok (.return_, 1) := by decide +kernel
theorem dX12_finishing_0 : decode cX12_finishing 0 = .ok (.iload_n 1, 1) := by decide +kernel
theorem dX12_finishing_1 : decode cX12_finishing 1 = .ok (.istore 4, 2) := by decide +kernel
theorem dX12_finishing_3 : decode cX12_finishing 3 = .ok (.iload_n 2, 1) := by decide +kernel
theorem dX12_finishing_4 : decode cX12_finishing 4 = .ok (.istore 5, 2) := by decide +kernel
theorem dX12_finishing_6 : decode cX12_finishing 6 = .ok (.iload 4, 2) := by decide +kernel
theorem dX12_finishing_8 : decode cX12_finishing 8 = .ok (.ifCond .lt 63, 3) := by decide +kernel
theorem dX12_finishing_11 : decode cX12_finishing 11 = .ok (.iload_n 3, 1) := by decide +kernel
theorem dX12_finishing_12 : decode cX12_finishing 12 = .ok (.ifCond .lt 14, 3) := by decide +kernel
theorem dX12_finishing_15 : decode cX12_finishing 15 = .ok (.iload 4, 2) := by decide +kernel
theorem dX12_finishing_17 : decode cX12_finishing 17 = .ok (.aload_n 0, 1) := by decide +kernel
theorem dX12_finishing_18 : decode cX12_finishing 18 = .ok (.getfield 149, 3) := by decide +kernel
theorem dX12_finishing_21 : decode cX12_finishing 21 = .ok (.iload_n 3, 1) := by decide +kernel
theorem dX12_finishing_22 : decode cX12_finishing 22 = .ok (.iaload, 1) := by decide +kernel
theorem dX12_finishing_23 : decode cX12_finishing 23 = .ok (.if_icmp .eq 48, 3) := by decide +kernel
theorem dX12_finishing_26 : decode cX12_finishing 26 = .ok (.iload 5, 2) := by decide +kernel
theorem dX12_finishing_28 : decode cX12_finishing 28 = .ok (.iconst 2, 1) := by decide +kernel
theorem dX12_finishing_29 : decode cX12_finishing 29 = .ok (.if_icmp .ge 21, 3) := by decide +kernel
theorem dX12_finishing_32 : decode cX12_finishing 32 = .ok (.aload_n 0, 1) := by decide +kernel
theorem dX12_finishing_33 : decode cX12_finishing 33 = .ok (.getfield 116, 3) := by decide +kernel
theorem dX12_finishing_36 : decode cX12_finishing 36 = .ok (.iload 4, 2) := by decide +kernel
theorem dX12_finishing_38 : decode cX12_finishing 38 = .ok (.baload, 1) := by decide +kernel
theorem dX12_finishing_39 : decode cX12_finishing 39 = .ok (.ifCond .eq 11, 3) := by decide +kernel
theorem dX12_finishing_42 : decode cX12_finishing 42 = .ok (.aload_n 0, 1) := by decide +kernel
theorem dX12_finishing_43 : decode cX12_finishing 43 = .ok (.getfield 134, 3) := by decide +kernel
theorem dX12_finishing_46 : decode cX12_finishing 46 = .ok (.iload 4, 2) := by decide +kernel
theorem dX12_finishing_48 : decode cX12_finishing 48 = .ok (.iaload, 1) := by decide +kernel
theorem dX12_finishing_49 : decode cX12_finishing 49 = .ok (.ireturn, 1) := by decide +kernel
theorem dX12_finishing_50 : decode cX12_finishing 50 = .ok (.aload_n 0, 1) := by decide +kernel
theorem dX12_finishing_51 : decode cX12_finishing 51 = .ok (.getfield 106, 3) := by decide +kernel
theorem dX12_finishing_54 : decode cX12_finishing 54 = .ok (.iload 4, 2) := by decide +kernel
theorem dX12_finishing_56 : decode cX12_finishing 56 = .ok (.iaload, 1) := by decide +kernel
theorem dX12_finishing_57 : decode cX12_finishing 57 = .ok (.istore 5, 2) := by decide +kernel
theorem dX12_finishing_59 : decode cX12_finishing 59 = .ok (.aload_n 0, 1) := by decide +kernel
theorem dX12_finishing_60 : decode cX12_finishing 60 = .ok (.getfield 103, 3) := by decide +kernel
theorem dX12_finishing_63 : decode cX12_finishing 63 = .ok (.iload 4, 2) := by decide +kernel
theorem dX12_finishing_65 : decode cX12_finishing 65 = .ok (.iaload, 1) := by decide +kernel
theorem dX12_finishing_66 : decode cX12_finishing 66 = .ok (.istore 4, 2) := by decide +kernel
theorem dX12_finishing_68 : decode cX12_finishing 68 = .ok (.goto (-62), 3) := by decide +kernel
theorem dX12_finishing_71 : decode cX12_finishing 71 = .ok (.iconst (-1), 1) := by decide +kernel
theorem dX12_finishing_72 : decode cX12_finishing 72 = .ok (.ireturn, 1) := by decide +kernel
theorem dX12_forget_0 : decode cX12_forget 0 = .ok (.aload_n 0, 1) := by decide +kernel
theorem dX12_forget_1 : decode cX12_forget 1 = .ok (.iconst 0, 1) := by decide +kernel
theorem dX12_forget_2 : decode cX12_forget 2 = .ok (.putfield 542, 3) := by decide +kernel
theorem dX12_forget_5 : decode cX12_forget 5 = .ok (.aload_n 0, 1) := by decide +kernel
theorem dX12_forget_6 : decode cX12_forget 6 = .ok (.iconst 0, 1) := by decide +kernel
theorem dX12_forget_7 : decode cX12_forget 7 = .ok (.putfield 545, 3) := by decide +kernel
theorem dX12_forget_10 : decode cX12_forget 10 = .ok (.aload_n 0, 1) := by decide +kernel
theorem dX12_forget_11 : decode cX12_forget 11 = .ok (.iconst 0, 1) := by decide +kernel
theorem dX12_forget_12 : decode cX12_forget 12 = .ok (.putfield 548, 3) := by decide +kernel
theorem dX12_forget_15 : decode cX12_forget 15 = .ok (.aload_n 0, 1) := by decide +kernel
theorem dX12_forget_16 : decode cX12_forget 16 = .ok (.iconst 0, 1) := by decide +kernel
theorem dX12_forget_17 : decode cX12_forget 17 = .ok (.putfield 551, 3) := by decide +kernel
theorem dX12_forget_20 : decode cX12_forget 20 = .ok (.aload_n 0, 1) := by decide +kernel
theorem dX12_forget_21 : decode cX12_forget 21 = .ok (.iconst 0, 1) := by decide +kernel
theorem dX12_forget_22 : decode cX12_forget 22 = .ok (.putfield 554, 3) := by decide +kernel
theorem dX12_forget_25 : decode cX12_forget 25 = .ok (.aload_n 0, 1) := by decide +kernel
theorem dX12_forget_26 : decode cX12_forget 26 = .ok (.iconst 0, 1) := by decide +kernel
theorem dX12_forget_27 : decode cX12_forget 27 = .ok (.putfield 557, 3) := by decide +kernel
theorem dX12_forget_30 : decode cX12_forget 30 = .ok (.aload_n 0, 1) := by decide +kernel
theorem dX12_forget_31 : decode cX12_forget 31 = .ok (.iconst 0, 1) := by decide +kernel
theorem dX12_forget_32 : decode cX12_forget 32 = .ok (.putfield 560, 3) := by decide +kernel
theorem dX12_forget_35 : decode cX12_forget 35 = .ok (.aload_n 0, 1) := by decide +kernel
theorem dX12_forget_36 : decode cX12_forget 36 = .ok (.iconst 0, 1) := by decide +kernel
theorem dX12_forget_37 : decode cX12_forget 37 = .ok (.putfield 563, 3) := by decide +kernel
theorem dX12_forget_40 : decode cX12_forget 40 = .ok (.iconst 0, 1) := by decide +kernel
theorem dX12_forget_41 : decode cX12_forget 41 = .ok (.istore_n 1, 1) := by decide +kernel
theorem dX12_forget_42 : decode cX12_forget 42 = .ok (.iload_n 1, 1) := by decide +kernel
theorem dX12_forget_43 : decode cX12_forget 43 = .ok (.bipush 8, 2) := by decide +kernel
theorem dX12_forget_45 : decode cX12_forget 45 = .ok (.if_icmp .ge 16, 3) := by decide +kernel
theorem dX12_forget_48 : decode cX12_forget 48 = .ok (.aload_n 0, 1) := by decide +kernel
theorem dX12_forget_49 : decode cX12_forget 49 = .ok (.getfield 267, 3) := by decide +kernel
theorem dX12_forget_52 : decode cX12_forget 52 = .ok (.iload_n 1, 1) := by decide +kernel
theorem dX12_forget_53 : decode cX12_forget 53 = .ok (.iconst 0, 1) := by decide +kernel
theorem dX12_forget_54 : decode cX12_forget 54 = .ok (.iastore, 1) := by decide +kernel
theorem dX12_forget_55 : decode cX12_forget 55 = .ok (.iinc 1 1, 3) := by decide +kernel
theorem dX12_forget_58 : decode cX12_forget 58 = .ok (.goto (-16), 3) := by decide +kernel
theorem dX12_forget_61 : decode cX12_forget 61 = .ok (.return_, 1) := by decide +kernel
theorem dX12_go_0 : decode cX12_go 0 = .ok (.iload_n 1, 1) := by decide +kernel
theorem dX12_go_1 : decode cX12_go 1 = .ok (.ifCond .ge 7, 3) := by decide +kernel
theorem dX12_go_4 : decode cX12_go 4 = .ok (.iload_n 2, 1) := by decide +kernel
theorem dX12_go_5 : decode cX12_go 5 = .ok (.goto 4, 3) := by decide +kernel
theorem dX12_go_8 : decode cX12_go 8 = .ok (.iload_n 1, 1) := by decide +kernel
theorem dX12_go_9 : decode cX12_go 9 = .ok (.istore_n 3, 1) := by decide +kernel
theorem dX12_go_10 : decode cX12_go 10 = .ok (.iload_n 3, 1) := by decide +kernel
theorem dX12_go_11 : decode cX12_go 11 = .ok (.sipush 12000, 3) := by decide +kernel
theorem dX12_go_14 : decode cX12_go 14 = .ok (.aload_n 0, 1) := by decide +kernel
theorem dX12_go_15 : decode cX12_go 15 = .ok (.getfield 356, 3) := by decide +kernel
theorem dX12_go_18 : decode cX12_go 18 = .ok (.imul, 1) := by decide +kernel
theorem dX12_go_19 : decode cX12_go 19 = .ok (.isub, 1) := by decide +kernel
theorem dX12_go_20 : decode cX12_go 20 = .ok (.istore 4, 2) := by decide +kernel
theorem dX12_go_22 : decode cX12_go 22 = .ok (.aload_n 0, 1) := by decide +kernel
theorem dX12_go_23 : decode cX12_go 23 = .ok (.getfield 180, 3) := by decide +kernel
theorem dX12_go_26 : decode cX12_go 26 = .ok (.iload 4, 2) := by decide +kernel
theorem dX12_go_28 : decode cX12_go 28 = .ok (.baload, 1) := by decide +kernel
theorem dX12_go_29 : decode cX12_go 29 = .ok (.ifCond .ne 31, 3) := by decide +kernel
theorem dX12_go_32 : decode cX12_go 32 = .ok (.aload_n 0, 1) := by decide +kernel
theorem dX12_go_33 : decode cX12_go 33 = .ok (.getfield 180, 3) := by decide +kernel
theorem dX12_go_36 : decode cX12_go 36 = .ok (.iload 4, 2) := by decide +kernel
theorem dX12_go_38 : decode cX12_go 38 = .ok (.iconst 1, 1) := by decide +kernel
theorem dX12_go_39 : decode cX12_go 39 = .ok (.bastore, 1) := by decide +kernel
theorem dX12_go_40 : decode cX12_go 40 = .ok (.aload_n 0, 1) := by decide +kernel
theorem dX12_go_41 : decode cX12_go 41 = .ok (.getfield 183, 3) := by decide +kernel
theorem dX12_go_44 : decode cX12_go 44 = .ok (.aload_n 0, 1) := by decide +kernel
theorem dX12_go_45 : decode cX12_go 45 = .ok (.getfield 513, 3) := by decide +kernel
theorem dX12_go_48 : decode cX12_go 48 = .ok (.iload_n 3, 1) := by decide +kernel
theorem dX12_go_49 : decode cX12_go 49 = .ok (.iastore, 1) := by decide +kernel
theorem dX12_go_50 : decode cX12_go 50 = .ok (.aload_n 0, 1) := by decide +kernel
theorem dX12_go_51 : decode cX12_go 51 = .ok (.dup, 1) := by decide +kernel
theorem dX12_go_52 : decode cX12_go 52 = .ok (.getfield 513, 3) := by decide +kernel
theorem dX12_go_55 : decode cX12_go 55 = .ok (.iconst 1, 1) := by decide +kernel
theorem dX12_go_56 : decode cX12_go 56 = .ok (.iadd, 1) := by decide +kernel
theorem dX12_go_57 : decode cX12_go 57 = .ok (.putfield 513, 3) := by decide +kernel
theorem dX12_go_60 : decode cX12_go 60 = .ok (.return_, 1) := by decide +kernel
theorem dX12_goTo_0 : decode cX12_goTo 0 = .ok (.aload_n 0, 1) := by decide +kernel
theorem dX12_goTo_1 : decode cX12_goTo 1 = .ok (.iload_n 1, 1) := by decide +kernel
theorem dX12_goTo_2 : decode cX12_goTo 2 = .ok (.ifCond .ge 7, 3) := by decide +kernel
theorem dX12_goTo_5 : decode cX12_goTo 5 = .ok (.iload_n 2, 1) := by decide +kernel
theorem dX12_goTo_6 : decode cX12_goTo 6 = .ok (.goto 4, 3) := by decide +kernel
theorem dX12_goTo_9 : decode cX12_goTo 9 = .ok (.iload_n 1, 1) := by decide +kernel
theorem dX12_goTo_10 : decode cX12_goTo 10 = .ok (.iload_n 3, 1) := by decide +kernel
theorem dX12_goTo_11 : decode cX12_goTo 11 = .ok (.invokevirtual 516, 3) := by decide +kernel
theorem dX12_goTo_14 : decode cX12_goTo 14 = .ok (.return_, 1) := by decide +kernel
theorem dX12_lay_0 : decode cX12_lay 0 = .ok (.bipush 56, 2) := by decide +kernel
theorem dX12_lay_2 : decode cX12_lay 2 = .ok (.istore_n 3, 1) := by decide +kernel
theorem dX12_lay_3 : decode cX12_lay 3 = .ok (.iload_n 3, 1) := by decide +kernel
theorem dX12_lay_4 : decode cX12_lay 4 = .ok (.ifCond .lt 71, 3) := by decide +kernel
theorem dX12_lay_7 : decode cX12_lay 7 = .ok (.lload_n 1, 1) := by decide +kernel
theorem dX12_lay_8 : decode cX12_lay 8 = .ok (.iload_n 3, 1) := by decide +kernel
theorem dX12_lay_9 : decode cX12_lay 9 = .ok (.lshr, 1) := by decide +kernel
theorem dX12_lay_10 : decode cX12_lay 10 = .ok (.l2i, 1) := by decide +kernel
theorem dX12_lay_11 : decode cX12_lay 11 = .ok (.sipush 255, 3) := by decide +kernel
theorem dX12_lay_14 : decode cX12_lay 14 = .ok (.iand, 1) := by decide +kernel
theorem dX12_lay_15 : decode cX12_lay 15 = .ok (.istore 4, 2) := by decide +kernel
theorem dX12_lay_17 : decode cX12_lay 17 = .ok (.iload 4, 2) := by decide +kernel
theorem dX12_lay_19 : decode cX12_lay 19 = .ok (.bipush 10, 2) := by decide +kernel
theorem dX12_lay_21 : decode cX12_lay 21 = .ok (.if_icmp .eq 17, 3) := by decide +kernel
theorem dX12_lay_24 : decode cX12_lay 24 = .ok (.iload 4, 2) := by decide +kernel
theorem dX12_lay_26 : decode cX12_lay 26 = .ok (.bipush 32, 2) := by decide +kernel
theorem dX12_lay_28 : decode cX12_lay 28 = .ok (.if_icmp .lt 41, 3) := by decide +kernel
theorem dX12_lay_31 : decode cX12_lay 31 = .ok (.iload 4, 2) := by decide +kernel
theorem dX12_lay_33 : decode cX12_lay 33 = .ok (.bipush 126, 2) := by decide +kernel
theorem dX12_lay_35 : decode cX12_lay 35 = .ok (.if_icmp .gt 34, 3) := by decide +kernel
theorem dX12_lay_38 : decode cX12_lay 38 = .ok (.aload_n 0, 1) := by decide +kernel
theorem dX12_lay_39 : decode cX12_lay 39 = .ok (.getfield 11, 3) := by decide +kernel
theorem dX12_lay_42 : decode cX12_lay 42 = .ok (.sipush 4000, 3) := by decide +kernel
theorem dX12_lay_45 : decode cX12_lay 45 = .ok (.if_icmp .ge 24, 3) := by decide +kernel
theorem dX12_lay_48 : decode cX12_lay 48 = .ok (.aload_n 0, 1) := by decide +kernel
theorem dX12_lay_49 : decode cX12_lay 49 = .ok (.getfield 14, 3) := by decide +kernel
theorem dX12_lay_52 : decode cX12_lay 52 = .ok (.aload_n 0, 1) := by decide +kernel
theorem dX12_lay_53 : decode cX12_lay 53 = .ok (.getfield 11, 3) := by decide +kernel
theorem dX12_lay_56 : decode cX12_lay 56 = .ok (.iload 4, 2) := by decide +kernel
theorem dX12_lay_58 : decode cX12_lay 58 = .ok (.iastore, 1) := by decide +kernel
theorem dX12_lay_59 : decode cX12_lay 59 = .ok (.aload_n 0, 1) := by decide +kernel
theorem dX12_lay_60 : decode cX12_lay 60 = .ok (.dup, 1) := by decide +kernel
theorem dX12_lay_61 : decode cX12_lay 61 = .ok (.getfield 11, 3) := by decide +kernel
theorem dX12_lay_64 : decode cX12_lay 64 = .ok (.iconst 1, 1) := by decide +kernel
theorem dX12_lay_65 : decode cX12_lay 65 = .ok (.iadd, 1) := by decide +kernel
theorem dX12_lay_66 : decode cX12_lay 66 = .ok (.putfield 11, 3) := by decide +kernel
theorem dX12_lay_69 : decode cX12_lay 69 = .ok (.iinc 3 (-8), 3) := by decide +kernel
theorem dX12_lay_72 : decode cX12_lay 72 = .ok (.goto (-69), 3) := by decide +kernel
theorem dX12_lay_75 : decode cX12_lay 75 = .ok (.return_, 1) := by decide +kernel
theorem dX12_leave_0 : decode cX12_leave 0 = .ok (.iload_n 1, 1) := by decide +kernel
theorem dX12_leave_1 : decode cX12_leave 1 = .ok (.iconst 5, 1) := by decide +kernel
theorem dX12_leave_2 : decode cX12_leave 2 = .ok (.if_icmp .ne 7, 3) := by decide +kernel
theorem dX12_leave_5 : decode cX12_leave 5 = .ok (.iconst 0, 1) := by decide +kernel
theorem dX12_leave_6 : decode cX12_leave 6 = .ok (.goto 9, 3) := by decide +kernel
theorem dX12_leave_9 : decode cX12_leave 9 = .ok (.aload_n 0, 1) := by decide +kernel
theorem dX12_leave_10 : decode cX12_leave 10 = .ok (.getfield 152, 3) := by decide +kernel
theorem dX12_leave_13 : decode cX12_leave 13 = .ok (.iload_n 2, 1) := by decide +kernel
theorem dX12_leave_14 : decode cX12_leave 14 = .ok (.iaload, 1) := by decide +kernel
theorem dX12_leave_15 : decode cX12_leave 15 = .ok (.istore_n 3, 1) := by decide +kernel
theorem dX12_leave_16 : decode cX12_leave 16 = .ok (.aload_n 0, 1) := by decide +kernel
theorem dX12_leave_17 : decode cX12_leave 17 = .ok (.getfield 237, 3) := by decide +kernel
theorem dX12_leave_20 : decode cX12_leave 20 = .ok (.aload_n 0, 1) := by decide +kernel
theorem dX12_leave_21 : decode cX12_leave 21 = .ok (.getfield 600, 3) := by decide +kernel
theorem dX12_leave_24 : decode cX12_leave 24 = .ok (.iaload, 1) := by decide +kernel
theorem dX12_leave_25 : decode cX12_leave 25 = .ok (.iload_n 3, 1) := by decide +kernel
theorem dX12_leave_26 : decode cX12_leave 26 = .ok (.if_icmp .le 75, 3) := by decide +kernel
theorem dX12_leave_29 : decode cX12_leave 29 = .ok (.bipush 11, 2) := by decide +kernel
theorem dX12_leave_31 : decode cX12_leave 31 = .ok (.aload_n 0, 1) := by decide +kernel
theorem dX12_leave_32 : decode cX12_leave 32 = .ok (.getfield 600, 3) := by decide +kernel
theorem dX12_leave_35 : decode cX12_leave 35 = .ok (.imul, 1) := by decide +kernel
theorem dX12_leave_36 : decode cX12_leave 36 = .ok (.aload_n 0, 1) := by decide +kernel
theorem dX12_leave_37 : decode cX12_leave 37 = .ok (.getfield 237, 3) := by decide +kernel
theorem dX12_leave_40 : decode cX12_leave 40 = .ok (.aload_n 0, 1) := by decide +kernel
theorem dX12_leave_41 : decode cX12_leave 41 = .ok (.getfield 600, 3) := by decide +kernel
theorem dX12_leave_44 : decode cX12_leave 44 = .ok (.iaload, 1) := by decide +kernel
theorem dX12_leave_45 : decode cX12_leave 45 = .ok (.iadd, 1) := by decide +kernel
theorem dX12_leave_46 : decode cX12_leave 46 = .ok (.iconst 1, 1) := by decide +kernel
theorem dX12_leave_47 : decode cX12_leave 47 = .ok (.isub, 1) := by decide +kernel
theorem dX12_leave_48 : decode cX12_leave 48 = .ok (.istore 4, 2) := by decide +kernel
theorem dX12_leave_50 : decode cX12_leave 50 = .ok (.aload_n 0, 1) := by decide +kernel
theorem dX12_leave_51 : decode cX12_leave 51 = .ok (.getfield 243, 3) := by decide +kernel
theorem dX12_leave_54 : decode cX12_leave 54 = .ok (.iload 4, 2) := by decide +kernel
theorem dX12_leave_56 : decode cX12_leave 56 = .ok (.iaload, 1) := by decide +kernel
theorem dX12_leave_57 : decode cX12_leave 57 = .ok (.iconst 2, 1) := by decide +kernel
theorem dX12_leave_58 : decode cX12_leave 58 = .ok (.if_icmp .ge 27, 3) := by decide +kernel
theorem dX12_leave_61 : decode cX12_leave 61 = .ok (.aload_n 0, 1) := by decide +kernel
theorem dX12_leave_62 : decode cX12_leave 62 = .ok (.getfield 116, 3) := by decide +kernel
theorem dX12_leave_65 : decode cX12_leave 65 = .ok (.aload_n 0, 1) := by decide +kernel
theorem dX12_leave_66 : decode cX12_leave 66 = .ok (.getfield 240, 3) := by decide +kernel
theorem dX12_leave_69 : decode cX12_leave 69 = .ok (.iload 4, 2) := by decide +kernel
theorem dX12_leave_71 : decode cX12_leave 71 = .ok (.iaload, 1) := by decide +kernel
theorem dX12_leave_72 : decode cX12_leave 72 = .ok (.baload, 1) := by decide +kernel
theorem dX12_leave_73 : decode cX12_leave 73 = .ok (.ifCond .eq 12, 3) := by decide +kernel
theorem dX12_leave_76 : decode cX12_leave 76 = .ok (.aload_n 0, 1) := by decide +kernel
theorem dX12_leave_77 : decode cX12_leave 77 = .ok (.iload 4, 2) := by decide +kernel
theorem dX12_leave_79 : decode cX12_leave 79 = .ok (.iload_n 1, 1) := by decide +kernel
theorem dX12_leave_80 : decode cX12_leave 80 = .ok (.iload_n 2, 1) := by decide +kernel
theorem dX12_leave_81 : decode cX12_leave 81 = .ok (.invokevirtual 666, 3) := by decide +kernel
theorem dX12_leave_84 : decode cX12_leave 84 = .ok (.return_, 1) := by decide +kernel
theorem dX12_leave_85 : decode cX12_leave 85 = .ok (.aload_n 0, 1) := by decide +kernel
theorem dX12_leave_86 : decode cX12_leave 86 = .ok (.getfield 237, 3) := by decide +kernel
theorem dX12_leave_89 : decode cX12_leave 89 = .ok (.aload_n 0, 1) := by decide +kernel
theorem dX12_leave_90 : decode cX12_leave 90 = .ok (.getfield 600, 3) := by decide +kernel
theorem dX12_leave_93 : decode cX12_leave 93 = .ok (.dup2, 1) := by decide +kernel
theorem dX12_leave_94 : decode cX12_leave 94 = .ok (.iaload, 1) := by decide +kernel
theorem dX12_leave_95 : decode cX12_leave 95 = .ok (.iconst 1, 1) := by decide +kernel
theorem dX12_leave_96 : decode cX12_leave 96 = .ok (.isub, 1) := by decide +kernel
theorem dX12_leave_97 : decode cX12_leave 97 = .ok (.iastore, 1) := by decide +kernel
theorem dX12_leave_98 : decode cX12_leave 98 = .ok (.goto (-82), 3) := by decide +kernel
theorem dX12_leave_101 : decode cX12_leave 101 = .ok (.iload_n 1, 1) := by decide +kernel
theorem dX12_leave_102 : decode cX12_leave 102 = .ok (.iconst 5, 1) := by decide +kernel
theorem dX12_leave_103 : decode cX12_leave 103 = .ok (.if_icmp .ne 16, 3) := by decide +kernel
theorem dX12_leave_106 : decode cX12_leave 106 = .ok (.aload_n 0, 1) := by decide +kernel
theorem dX12_leave_107 : decode cX12_leave 107 = .ok (.aload_n 0, 1) := by decide +kernel
theorem dX12_leave_108 : decode cX12_leave 108 = .ok (.getfield 600, 3) := by decide +kernel
theorem dX12_leave_111 : decode cX12_leave 111 = .ok (.iconst 0, 1) := by decide +kernel
theorem dX12_leave_112 : decode cX12_leave 112 = .ok (.iload_n 2, 1) := by decide +kernel
theorem dX12_leave_113 : decode cX12_leave 113 = .ok (.invokevirtual 593, 3) := by decide +kernel
theorem dX12_leave_116 : decode cX12_leave 116 = .ok (.goto 27, 3) := by decide +kernel
theorem dX12_leave_119 : decode cX12_leave 119 = .ok (.aload_n 0, 1) := by decide +kernel
theorem dX12_leave_120 : decode cX12_leave 120 = .ok (.iload_n 1, 1) := by decide +kernel
theorem dX12_leave_121 : decode cX12_leave 121 = .ok (.iconst 3, 1) := by decide +kernel
theorem dX12_leave_122 : decode cX12_leave 122 = .ok (.if_icmp .ne 12, 3) := by decide +kernel
theorem dX12_leave_125 : decode cX12_leave 125 = .ok (.aload_n 0, 1) := by decide +kernel
theorem dX12_leave_126 : decode cX12_leave 126 = .ok (.getfield 158, 3) := by decide +kernel
theorem dX12_leave_129 : decode cX12_leave 129 = .ok (.iload_n 2, 1) := by decide +kernel
theorem dX12_leave_130 : decode cX12_leave 130 = .ok (.iaload, 1) := by decide +kernel
theorem dX12_leave_131 : decode cX12_leave 131 = .ok (.goto 9, 3) := by decide +kernel
theorem dX12_leave_134 : decode cX12_leave 134 = .ok (.aload_n 0, 1) := by decide +kernel
theorem dX12_leave_135 : decode cX12_leave 135 = .ok (.getfield 155, 3) := by decide +kernel
theorem dX12_leave_138 : decode cX12_leave 138 = .ok (.iload_n 2, 1) := by decide +kernel
theorem dX12_leave_139 : decode cX12_leave 139 = .ok (.iaload, 1) := by decide +kernel
theorem dX12_leave_140 : decode cX12_leave 140 = .ok (.putfield 609, 3) := by decide +kernel
theorem dX12_leave_143 : decode cX12_leave 143 = .ok (.return_, 1) := by decide +kernel
def wp_lay_69 (K : mS → Prop) (k3 : Int64 × Int32 × mS → Prop) (x1 : Int64) (x3 : Int32) (S : mS) : Prop := ∀ z8 : Int32, z8 = x3 + (-8) → k3 (x1, z8, S)
def wp_lay_38 (K : mS → Prop) (k3 : Int64 × Int32 × mS → Prop) (x1 : Int64) (x3 : Int32) (x4 : Int32) (S : mS) : Prop := ((4000 ≤ (S.1 1) → wp_lay_69 K k3 x1 x3 S) ∧ (¬ 4000 ≤ (S.1 1) → inR (S.1 1) 4000 ∧ ∀ S10 : mS, S10 = sF S 0 (ix (S.1 1)) x4 → ∀ z11 : Int32, z11 = (S10.1 1) + 1 → ∀ S12 : mS, S12 = sZ S10 1 z11 → wp_lay_69 K k3 x1 x3 S12))
def wp_lay_3 (K : mS → Prop) (k3 : Int64 × Int32 × mS → Prop) (x1 : Int64) (x3 : Int32) (S : mS) : Prop := ((x3 < 0 → K S) ∧ (¬ x3 < 0 → ∀ z2 : Int64, z2 = x1 >>> (Int32.toInt64 x3 &&& 63) → ∀ z3 : Int32, z3 = Int64.toInt32 z2 → ∀ z4 : Int32, z4 = z3 &&& 255 → ((z4 = 10 → wp_lay_38 K k3 x1 x3 z4 S) ∧ (¬ z4 = 10 → ((z4 < 32 → wp_lay_69 K k3 x1 x3 S) ∧ (¬ z4 < 32 → ((126 < z4 → wp_lay_69 K k3 x1 x3 S) ∧ (¬ 126 < z4 → wp_lay_38 K k3 x1 x3 z4 S))))))))
def ls_lay_3 (K : mS → Prop) (k3 : Int64 × Int32 × mS → Prop) (u : Int64 × Int32 × mS) : Prop := wp_lay_3 K k3 u.1 u.2.1 u.2.2
def wp_lay (a0 : Int64) (S : mS) (K : mS → Prop) : Prop := (∃ n9, it (ls_lay_3 K) n9 (a0, 56, S))
set_option maxHeartbeats 4000000 in
set_option maxRecDepth 100000 in
theorem ct_lay (l : Launch) (S : mS) (a0 : Int64) (K : mS → Prop) (h : wp_lay a0 S K) : mMv l yX12_lay cX12_lay 5 none 0 0 (fun E => [.long a0]) S K := by
  refine mv_ofv (by decide) rfl (fun _ => Nat.le_of_ble_eq_true rfl) ?_
  intro E p e R s m args below meth c A ls Q hRf hRl hX hC hl hret
  have hx := hX.1.1
  have hb := hX.1.2.1
  have hown := hX.1.2.2.2.1
  have hts := hX.1.2.2.2.2
  have cut3 : ∀ (n3 : Nat) (x1 : Int64) (x3 : Int32) (S : mS) (H : Heap) (locs : List Loc) (ls : Array Slot), it (ls_lay_3 K) n3 (x1, x3, S) → mC E A s.heap S H locs → lv_has ls 5 [(0, .ref E.2.1), (1, .long x1), (3, .int x3)] → W p l e R s m args below meth c H locs 0 0 Q (F0 m 3 ls []) := by
    intro n3
    induction n3 with
    | zero => intro x1 x3 S H locs ls h hC hl; exact h.elim
    | succ n3 ih3 =>
      have cut69 : ∀ (x1 : Int64) (x3 : Int32) (S : mS) (H : Heap) (locs : List Loc) (ls : Array Slot), wp_lay_69 K (it (ls_lay_3 K) n3) x1 x3 S → mC E A s.heap S H locs → lv_has ls 5 [(0, .ref E.2.1), (1, .long x1), (3, .int x3)] → W p l e R s m args below meth c H locs 0 0 Q (F0 m 69 ls []) := by
        intro x1 x3 S H locs ls h hC hl
        unfold wp_lay_69 at h
        obtain ⟨z8, ez8⟩ : ∃ y : Int32, y = x3 + (-8) := ⟨_, rfl⟩
        have h := h z8 ez8
        refine lv_iinc (v := z8) (lv' := [(3, .int z8), (0, .ref E.2.1), (1, .long x1)]) hx hb dX12_lay_69 hl (k := 2) rfl (by rw [ez8]; rfl) (by decide) rfl (fun ls hl => ?_)
        refine lv_goto (tgt := 3) hx hb dX12_lay_72 (by decide) ?_
        exact ih3 x1 z8 S _ _ _ h hC (lv_sub hl [1, 2, 0] rfl)
      have cut38 : ∀ (x1 : Int64) (x3 : Int32) (x4 : Int32) (S : mS) (H : Heap) (locs : List Loc) (ls : Array Slot), wp_lay_38 K (it (ls_lay_3 K) n3) x1 x3 x4 S → mC E A s.heap S H locs → lv_has ls 5 [(0, .ref E.2.1), (1, .long x1), (3, .int x3), (4, .int x4)] → W p l e R s m args below meth c H locs 0 0 Q (F0 m 38 ls []) := by
        intro x1 x3 x4 S H locs ls h hC hl
        unfold wp_lay_38 at h
        refine lv_aload_n hx hb dX12_lay_38 rfl (lv_at hl 0 rfl) ?_
        refine mv_get (v := .int (S.1 1)) hX hC 2 (Nat.le_of_ble_eq_true rfl) wd_1402 rfl dX12_lay_39 ?_
        refine lv_sipush (v := 4000) hx hb dX12_lay_42 (by decide) ?_
        refine lv_icmp_ge (tgt := 69) hx hb dX12_lay_45 (by decide) (fun c9 => ?_) (fun c9 => ?_)
        · have h := h.1 c9
          exact cut69 x1 x3 S _ _ _ h hC (lv_sub hl [0, 1, 2] rfl)
        · have h := h.2 c9
          refine lv_aload_n hx hb dX12_lay_48 rfl (lv_at hl 0 rfl) ?_
          refine mv_get (v := .ref (E.2.2.1 0)) hX hC 1 (Nat.le_of_ble_eq_true rfl) wd_1401 rfl dX12_lay_49 ?_
          refine lv_aload_n hx hb dX12_lay_52 rfl (lv_at hl 0 rfl) ?_
          refine mv_get (v := .int (S.1 1)) hX hC 2 (Nat.le_of_ble_eq_true rfl) wd_1402 rfl dX12_lay_53 ?_
          refine lv_iload hx hb dX12_lay_56 (lv_at hl 3 rfl) ?_
          refine mq_ist (n := 4000) (v := x4) hX hC 0 rfl rfl mf_0 dX12_lay_58 h.1 h.2 (fun S10 H locs hC h => ?_)
          refine lv_aload_n hx hb dX12_lay_59 rfl (lv_at hl 0 rfl) ?_
          refine lv_dup hx hb dX12_lay_60 rfl ?_
          refine mv_get (v := .int (S10.1 1)) hX hC 2 (Nat.le_of_ble_eq_true rfl) wd_1402 rfl dX12_lay_61 ?_
          refine lv_iconst (v := 1) hx hb dX12_lay_64 (by decide) ?_
          refine lq_iadd hx hb dX12_lay_65 h (fun z11 h => ?_)
          refine mq_put (v := z11) hX hC 2 1 (Nat.le_of_ble_eq_true rfl) wd_1402 rfl rfl rfl mz_1 dX12_lay_66 h (fun S12 H locs hC h => ?_)
          exact cut69 x1 x3 S12 _ _ _ h hC (lv_sub hl [0, 1, 2] rfl)
      intro x1 x3 S H locs ls h hC hl
      have h : wp_lay_3 K (it (ls_lay_3 K) n3) x1 x3 S := h
      unfold wp_lay_3 at h
      refine lv_iload_n hx hb dX12_lay_3 rfl (lv_at hl 2 rfl) ?_
      refine lv_if_lt (tgt := 75) hx hb dX12_lay_4 (by decide) (fun c1 => ?_) (fun c1 => ?_)
      · have h := h.1 c1
        exact hret _ _ _ _ _ hC h dX12_lay_75
      · have h := h.2 c1
        refine lv_lload_n hx hb dX12_lay_7 rfl (lv_at hl 1 rfl) ?_
        refine lv_iload_n hx hb dX12_lay_8 rfl (lv_at hl 2 rfl) ?_
        refine lq_lshr hx hb dX12_lay_9 h (fun z2 h => ?_)
        refine lq_l2i hx hb dX12_lay_10 h (fun z3 h => ?_)
        refine lv_sipush (v := 255) hx hb dX12_lay_11 (by decide) ?_
        refine lq_iand hx hb dX12_lay_14 h (fun z4 h => ?_)
        refine lv_istore (lv' := [(4, .int z4), (0, .ref E.2.1), (1, .long x1), (3, .int x3)]) hx hb dX12_lay_15 hl (by decide) rfl (fun ls hl => ?_)
        refine lv_iload hx hb dX12_lay_17 (lv_at hl 0 rfl) ?_
        refine lv_bipush (v := 10) hx hb dX12_lay_19 (by decide) ?_
        refine lv_icmp_eq (tgt := 38) hx hb dX12_lay_21 (by decide) (fun c5 => ?_) (fun c5 => ?_)
        · have h := h.1 c5
          exact cut38 x1 x3 z4 S _ _ _ h hC (lv_sub hl [1, 2, 3, 0] rfl)
        · have h := h.2 c5
          refine lv_iload hx hb dX12_lay_24 (lv_at hl 0 rfl) ?_
          refine lv_bipush (v := 32) hx hb dX12_lay_26 (by decide) ?_
          refine lv_icmp_lt (tgt := 69) hx hb dX12_lay_28 (by decide) (fun c6 => ?_) (fun c6 => ?_)
          · have h := h.1 c6
            exact cut69 x1 x3 S _ _ _ h hC (lv_sub hl [1, 2, 3] rfl)
          · have h := h.2 c6
            refine lv_iload hx hb dX12_lay_31 (lv_at hl 0 rfl) ?_
            refine lv_bipush (v := 126) hx hb dX12_lay_33 (by decide) ?_
            refine lv_icmp_gt (tgt := 69) hx hb dX12_lay_35 (by decide) (fun c7 => ?_) (fun c7 => ?_)
            · have h := h.1 c7
              exact cut69 x1 x3 S _ _ _ h hC (lv_sub hl [1, 2, 3] rfl)
            · have h := h.2 c7
              exact cut38 x1 x3 z4 S _ _ _ h hC (lv_sub hl [1, 2, 3, 0] rfl)
  have hl : lv_has ls 5 [(0, .ref E.2.1), (1, .long a0)] := hl
  unfold wp_lay at h
  refine lv_bipush (v := 56) hx hb dX12_lay_0 (by decide) ?_
  refine lv_istore_n (lv' := [(3, .int 56), (0, .ref E.2.1), (1, .long a0)]) hx hb dX12_lay_2 rfl hl (by decide) rfl (fun ls hl => ?_)
  obtain ⟨n9, h⟩ := h
  exact cut3 n9 a0 56 S _ _ _ h hC (lv_sub hl [1, 2, 0] rfl)
def wp_feed (a0 : Int64) (a1 : Int64) (a2 : Int64) (S : mS) (K : mS → Int32 → Prop) : Prop := ∀ S1 : mS, S1 = sZ S 0 0 → wp_lay a0 S1 (fun (S2 : mS) => wp_lay a1 S2 (fun (S3 : mS) => wp_lay a2 S3 (fun (S4 : mS) => K S4 (S4.1 1))))
theorem cw_X12_lay {R : Room} {s : State} {args : Array Value} {fr lo : Nat} (hts : ∀ w ∈ tb, w.before args s = true) (h1 : fr + 1 ≤ R.frames) (h2 : 8 + (5 + 11) + lo ≤ R.locals) : CallW R s args RX12 RX12 7 yX12_lay cX12_lay 5 none (.code yX12_lay cX12_lay 5 none :: tb) (mRm fr lo) 0 0 1 := cwV 1 hts (gd_V wd_1379 wd_1381 sl_X12_lay wd_15 wd_1383) rfl rfl rfl (by decide +kernel) ⟨h1, h2⟩
set_option maxHeartbeats 4000000 in
set_option maxRecDepth 100000 in
theorem ct_feed (l : Launch) (S : mS) (a0 : Int64) (a1 : Int64) (a2 : Int64) (K : mS → Int32 → Prop) (h : wp_feed a0 a1 a2 S K) : mMi l yX12_feed cX12_feed 7 (some .int) 1 24 (fun E => [.long a0, .long a1, .long a2]) S K := by
  refine mv_ofi (by decide) rfl (fun _ => Nat.le_of_ble_eq_true rfl) ?_
  intro E p e R s m args below meth c A ls Q hRf hRl hX hC hl hret
  have hx := hX.1.1
  have hb := hX.1.2.1
  have hown := hX.1.2.2.2.1
  have hts := hX.1.2.2.2.2
  have hl : lv_has ls 7 [(0, .ref E.2.1), (1, .long a0), (3, .long a1), (5, .long a2)] := hl
  unfold wp_feed at h
  refine lv_aload_n hx hb dX12_feed_0 rfl (lv_at hl 0 rfl) ?_
  refine lv_iconst (v := 0) hx hb dX12_feed_1 (by decide) ?_
  refine mq_put (v := 0) hX hC 0 0 (Nat.le_of_ble_eq_true rfl) wd_1400 rfl rfl rfl mz_0 dX12_feed_2 h (fun S1 H locs hC h => ?_)
  refine lv_aload_n hx hb dX12_feed_5 rfl (lv_at hl 0 rfl) ?_
  refine lv_lload_n hx hb dX12_feed_6 rfl (lv_at hl 1 rfl) ?_
  refine mv_callv [.long a0] (rest := []) hX hC (ct_lay l S1 a0 _ h E _) (cw_X12_lay hts (by omega) (by omega)) rfl hl.1 (Nat.le_of_ble_eq_true rfl) ⟨Nat.zero_le _, Nat.zero_le _⟩ dX12_feed_7 (fun S2 H locs hC h => ?_)
  refine lv_aload_n hx hb dX12_feed_10 rfl (lv_at hl 0 rfl) ?_
  refine lv_lload_n hx hb dX12_feed_11 rfl (lv_at hl 2 rfl) ?_
  refine mv_callv [.long a1] (rest := []) hX hC (ct_lay l S2 a1 _ h E _) (cw_X12_lay hts (by omega) (by omega)) rfl hl.1 (Nat.le_of_ble_eq_true rfl) ⟨Nat.zero_le _, Nat.zero_le _⟩ dX12_feed_12 (fun S3 H locs hC h => ?_)
  refine lv_aload_n hx hb dX12_feed_15 rfl (lv_at hl 0 rfl) ?_
  refine lv_lload hx hb dX12_feed_16 (lv_at hl 3 rfl) ?_
  refine mv_callv [.long a2] (rest := []) hX hC (ct_lay l S3 a2 _ h E _) (cw_X12_lay hts (by omega) (by omega)) rfl hl.1 (Nat.le_of_ble_eq_true rfl) ⟨Nat.zero_le _, Nat.zero_le _⟩ dX12_feed_18 (fun S4 H locs hC h => ?_)
  refine lv_aload_n hx hb dX12_feed_21 rfl (lv_at hl 0 rfl) ?_
  refine mv_get (v := .int (S4.1 1)) hX hC 2 (Nat.le_of_ble_eq_true rfl) wd_1402 rfl dX12_feed_22 ?_
  exact hret _ _ _ _ _ _ hC h dX12_feed_25
def wp_leave_85 (K : mS → Prop) (k16 : Int32 × Int32 × Int32 × mS → Prop) (x1 : Int32) (x2 : Int32) (x3 : Int32) (S : mS) : Prop := inR (S.1 33) 200 ∧ ∀ z22 : Int32, z22 = S.2.1 68 (ix (S.1 33)) → ∀ z23 : Int32, z23 = z22 - 1 → inR (S.1 33) 200 ∧ ∀ S24 : mS, S24 = sF S 68 (ix (S.1 33)) z23 → k16 (x1, x2, x3, S24)
def wp_leave_16 (K : mS → Prop) (k16 : Int32 × Int32 × Int32 × mS → Prop) (x1 : Int32) (x2 : Int32) (x3 : Int32) (S : mS) : Prop := inR (S.1 33) 200 ∧ ∀ z3 : Int32, z3 = S.2.1 68 (ix (S.1 33)) → ((z3 ≤ x3 → ((¬ x1 = 5 → ((¬ x1 = 3 → inR x2 1000 ∧ ∀ z7 : Int32, z7 = S.2.1 42 (ix x2) → ∀ S8 : mS, S8 = sZ S 32 z7 → K S8) ∧ (x1 = 3 → inR x2 1000 ∧ ∀ z9 : Int32, z9 = S.2.1 43 (ix x2) → ∀ S10 : mS, S10 = sZ S 32 z9 → K S10))) ∧ (x1 = 5 → wq_ends (S.1 33) 0 x2 S (fun (S11 : mS) => K S11)))) ∧ (¬ z3 ≤ x3 → ∀ z12 : Int32, z12 = 11 * (S.1 33) → inR (S.1 33) 200 ∧ ∀ z13 : Int32, z13 = S.2.1 68 (ix (S.1 33)) → ∀ z14 : Int32, z14 = z12 + z13 → ∀ z15 : Int32, z15 = z14 - 1 → inR z15 2200 ∧ ∀ z16 : Int32, z16 = S.2.1 70 (ix z15) → ((2 ≤ z16 → wp_leave_85 K k16 x1 x2 x3 S) ∧ (¬ 2 ≤ z16 → inR z15 2200 ∧ ∀ z18 : Int32, z18 = S.2.1 69 (ix z15) → inR z18 1000 ∧ ∀ z19 : Int32, z19 = S.2.1 29 (ix z18) → ((z19 = 0 → wp_leave_85 K k16 x1 x2 x3 S) ∧ (¬ z19 = 0 → wp_toFinish z15 x1 x2 S (fun (S21 : mS) => K S21)))))))
def ls_leave_16 (K : mS → Prop) (k16 : Int32 × Int32 × Int32 × mS → Prop) (u : Int32 × Int32 × Int32 × mS) : Prop := wp_leave_16 K k16 u.1 u.2.1 u.2.2.1 u.2.2.2
def wp_leave_15 (K : mS → Prop) (x1 : Int32) (x2 : Int32) (y0 : Int32) (S : mS) : Prop := (∃ n9, it (ls_leave_16 K) n9 (x1, x2, y0, S))
def wp_leave (a0 : Int32) (a1 : Int32) (S : mS) (K : mS → Prop) : Prop := ((¬ a0 = 5 → inR a1 1000 ∧ ∀ z2 : Int32, z2 = S.2.1 41 (ix a1) → wp_leave_15 K a0 a1 z2 S) ∧ (a0 = 5 → wp_leave_15 K a0 a1 0 S))
set_option maxHeartbeats 4000000 in
set_option maxRecDepth 100000 in
theorem ct_leave (l : Launch) (S : mS) (a0 : Int32) (a1 : Int32) (K : mS → Prop) (h : wp_leave a0 a1 S K) : mMv l yX12_leave cX12_leave 5 none 695 16682 (fun E => [.int a0, .int a1]) S K := by
  refine mv_ofv (by decide) rfl (fun _ => Nat.le_of_ble_eq_true rfl) ?_
  intro E p e R s m args below meth c A ls Q hRf hRl hX hC hl hret
  have hx := hX.1.1
  have hb := hX.1.2.1
  have hown := hX.1.2.2.2.1
  have hts := hX.1.2.2.2.2
  have cut16 : ∀ (n16 : Nat) (x1 : Int32) (x2 : Int32) (x3 : Int32) (S : mS) (H : Heap) (locs : List Loc) (ls : Array Slot), it (ls_leave_16 K) n16 (x1, x2, x3, S) → mC E A s.heap S H locs → lv_has ls 5 [(0, .ref E.2.1), (1, .int x1), (2, .int x2), (3, .int x3)] → W p l e R s m args below meth c H locs 0 0 Q (F0 m 16 ls []) := by
    intro n16
    induction n16 with
    | zero => intro x1 x2 x3 S H locs ls h hC hl; exact h.elim
    | succ n16 ih16 =>
      have cut85 : ∀ (x1 : Int32) (x2 : Int32) (x3 : Int32) (S : mS) (H : Heap) (locs : List Loc) (ls : Array Slot), wp_leave_85 K (it (ls_leave_16 K) n16) x1 x2 x3 S → mC E A s.heap S H locs → lv_has ls 5 [(0, .ref E.2.1), (1, .int x1), (2, .int x2), (3, .int x3)] → W p l e R s m args below meth c H locs 0 0 Q (F0 m 85 ls []) := by
        intro x1 x2 x3 S H locs ls h hC hl
        unfold wp_leave_85 at h
        refine lv_aload_n hx hb dX12_leave_85 rfl (lv_at hl 0 rfl) ?_
        refine mv_get (v := .ref (E.2.2.1 68)) hX hC 92 (Nat.le_of_ble_eq_true rfl) wd_1492 rfl dX12_leave_86 ?_
        refine lv_aload_n hx hb dX12_leave_89 rfl (lv_at hl 0 rfl) ?_
        refine mv_get (v := .int (S.1 33)) hX hC 123 (Nat.le_of_ble_eq_true rfl) wd_1523 rfl dX12_leave_90 ?_
        refine lv_dup2_11 hx hb dX12_leave_93 rfl rfl ?_
        refine mq_ild (n := 200) hX hC 68 rfl rfl dX12_leave_94 h (fun z22 h => ?_)
        refine lv_iconst (v := 1) hx hb dX12_leave_95 (by decide) ?_
        refine lq_isub hx hb dX12_leave_96 h (fun z23 h => ?_)
        refine mq_ist (n := 200) (v := z23) hX hC 68 rfl rfl mf_68 dX12_leave_97 h.1 h.2 (fun S24 H locs hC h => ?_)
        refine lv_goto (tgt := 16) hx hb dX12_leave_98 (by decide) ?_
        exact ih16 x1 x2 x3 S24 _ _ _ h hC (lv_sub hl [0, 1, 2, 3] rfl)
      intro x1 x2 x3 S H locs ls h hC hl
      have h : wp_leave_16 K (it (ls_leave_16 K) n16) x1 x2 x3 S := h
      unfold wp_leave_16 at h
      refine lv_aload_n hx hb dX12_leave_16 rfl (lv_at hl 0 rfl) ?_
      refine mv_get (v := .ref (E.2.2.1 68)) hX hC 92 (Nat.le_of_ble_eq_true rfl) wd_1492 rfl dX12_leave_17 ?_
      refine lv_aload_n hx hb dX12_leave_20 rfl (lv_at hl 0 rfl) ?_
      refine mv_get (v := .int (S.1 33)) hX hC 123 (Nat.le_of_ble_eq_true rfl) wd_1523 rfl dX12_leave_21 ?_
      refine mq_ild (n := 200) hX hC 68 rfl rfl dX12_leave_24 h (fun z3 h => ?_)
      refine lv_iload_n hx hb dX12_leave_25 rfl (lv_at hl 3 rfl) ?_
      refine lv_icmp_le (tgt := 101) hx hb dX12_leave_26 (by decide) (fun c4 => ?_) (fun c4 => ?_)
      · have h := h.1 c4
        refine lv_iload_n hx hb dX12_leave_101 rfl (lv_at hl 1 rfl) ?_
        refine lv_iconst (v := 5) hx hb dX12_leave_102 (by decide) ?_
        refine lv_icmp_ne (tgt := 119) hx hb dX12_leave_103 (by decide) (fun c5 => ?_) (fun c5 => ?_)
        · have h := h.1 c5
          refine lv_aload_n hx hb dX12_leave_119 rfl (lv_at hl 0 rfl) ?_
          refine lv_iload_n hx hb dX12_leave_120 rfl (lv_at hl 1 rfl) ?_
          refine lv_iconst (v := 3) hx hb dX12_leave_121 (by decide) ?_
          refine lv_icmp_ne (tgt := 134) hx hb dX12_leave_122 (by decide) (fun c6 => ?_) (fun c6 => ?_)
          · have h := h.1 c6
            refine lv_aload_n hx hb dX12_leave_134 rfl (lv_at hl 0 rfl) ?_
            refine mv_get (v := .ref (E.2.2.1 42)) hX hC 54 (Nat.le_of_ble_eq_true rfl) wd_1454 rfl dX12_leave_135 ?_
            refine lv_iload_n hx hb dX12_leave_138 rfl (lv_at hl 2 rfl) ?_
            refine mq_ild (n := 1000) hX hC 42 rfl rfl dX12_leave_139 h (fun z7 h => ?_)
            refine mq_put (v := z7) hX hC 122 32 (Nat.le_of_ble_eq_true rfl) wd_1522 rfl rfl rfl mz_32 dX12_leave_140 h (fun S8 H locs hC h => ?_)
            exact hret _ _ _ _ _ hC h dX12_leave_143
          · have h := h.2 c6
            refine lv_aload_n hx hb dX12_leave_125 rfl (lv_at hl 0 rfl) ?_
            refine mv_get (v := .ref (E.2.2.1 43)) hX hC 55 (Nat.le_of_ble_eq_true rfl) wd_1455 rfl dX12_leave_126 ?_
            refine lv_iload_n hx hb dX12_leave_129 rfl (lv_at hl 2 rfl) ?_
            refine mq_ild (n := 1000) hX hC 43 rfl rfl dX12_leave_130 h (fun z9 h => ?_)
            refine lv_goto (tgt := 140) hx hb dX12_leave_131 (by decide) ?_
            refine mq_put (v := z9) hX hC 122 32 (Nat.le_of_ble_eq_true rfl) wd_1522 rfl rfl rfl mz_32 dX12_leave_140 h (fun S10 H locs hC h => ?_)
            exact hret _ _ _ _ _ hC h dX12_leave_143
        · have h := h.2 c5
          refine lv_aload_n hx hb dX12_leave_106 rfl (lv_at hl 0 rfl) ?_
          refine lv_aload_n hx hb dX12_leave_107 rfl (lv_at hl 0 rfl) ?_
          refine mv_get (v := .int (S.1 33)) hX hC 123 (Nat.le_of_ble_eq_true rfl) wd_1523 rfl dX12_leave_108 ?_
          refine lv_iconst (v := 0) hx hb dX12_leave_111 (by decide) ?_
          refine lv_iload_n hx hb dX12_leave_112 rfl (lv_at hl 2 rfl) ?_
          refine mv_callv [.int (S.1 33), .int 0, .int x2] (rest := []) hX hC (ct_ends l S (S.1 33) 0 x2 _ h E _) (cw_X12_ends hts (by omega) (by omega)) rfl hl.1 (Nat.le_of_ble_eq_true rfl) ⟨Nat.zero_le _, Nat.zero_le _⟩ dX12_leave_113 (fun S11 H locs hC h => ?_)
          refine lv_goto (tgt := 143) hx hb dX12_leave_116 (by decide) ?_
          exact hret _ _ _ _ _ hC h dX12_leave_143
      · have h := h.2 c4
        refine lv_bipush (v := 11) hx hb dX12_leave_29 (by decide) ?_
        refine lv_aload_n hx hb dX12_leave_31 rfl (lv_at hl 0 rfl) ?_
        refine mv_get (v := .int (S.1 33)) hX hC 123 (Nat.le_of_ble_eq_true rfl) wd_1523 rfl dX12_leave_32 ?_
        refine lq_imul hx hb dX12_leave_35 h (fun z12 h => ?_)
        refine lv_aload_n hx hb dX12_leave_36 rfl (lv_at hl 0 rfl) ?_
        refine mv_get (v := .ref (E.2.2.1 68)) hX hC 92 (Nat.le_of_ble_eq_true rfl) wd_1492 rfl dX12_leave_37 ?_
        refine lv_aload_n hx hb dX12_leave_40 rfl (lv_at hl 0 rfl) ?_
        refine mv_get (v := .int (S.1 33)) hX hC 123 (Nat.le_of_ble_eq_true rfl) wd_1523 rfl dX12_leave_41 ?_
        refine mq_ild (n := 200) hX hC 68 rfl rfl dX12_leave_44 h (fun z13 h => ?_)
        refine lq_iadd hx hb dX12_leave_45 h (fun z14 h => ?_)
        refine lv_iconst (v := 1) hx hb dX12_leave_46 (by decide) ?_
        refine lq_isub hx hb dX12_leave_47 h (fun z15 h => ?_)
        refine lv_istore (lv' := [(4, .int z15), (0, .ref E.2.1), (1, .int x1), (2, .int x2), (3, .int x3)]) hx hb dX12_leave_48 hl (by decide) rfl (fun ls hl => ?_)
        refine lv_aload_n hx hb dX12_leave_50 rfl (lv_at hl 1 rfl) ?_
        refine mv_get (v := .ref (E.2.2.1 70)) hX hC 94 (Nat.le_of_ble_eq_true rfl) wd_1494 rfl dX12_leave_51 ?_
        refine lv_iload hx hb dX12_leave_54 (lv_at hl 0 rfl) ?_
        refine mq_ild (n := 2200) hX hC 70 rfl rfl dX12_leave_56 h (fun z16 h => ?_)
        refine lv_iconst (v := 2) hx hb dX12_leave_57 (by decide) ?_
        refine lv_icmp_ge (tgt := 85) hx hb dX12_leave_58 (by decide) (fun c17 => ?_) (fun c17 => ?_)
        · have h := h.1 c17
          exact cut85 x1 x2 x3 S _ _ _ h hC (lv_sub hl [1, 2, 3, 4] rfl)
        · have h := h.2 c17
          refine lv_aload_n hx hb dX12_leave_61 rfl (lv_at hl 1 rfl) ?_
          refine mv_get (v := .ref (E.2.2.1 29)) hX hC 40 (Nat.le_of_ble_eq_true rfl) wd_1440 rfl dX12_leave_62 ?_
          refine lv_aload_n hx hb dX12_leave_65 rfl (lv_at hl 1 rfl) ?_
          refine mv_get (v := .ref (E.2.2.1 69)) hX hC 93 (Nat.le_of_ble_eq_true rfl) wd_1493 rfl dX12_leave_66 ?_
          refine lv_iload hx hb dX12_leave_69 (lv_at hl 0 rfl) ?_
          refine mq_ild (n := 2200) hX hC 69 rfl rfl dX12_leave_71 h (fun z18 h => ?_)
          refine mq_zld (n := 1000) hX hC 29 rfl rfl dX12_leave_72 h (fun z19 h => ?_)
          refine lv_if_eq (tgt := 85) hx hb dX12_leave_73 (by decide) (fun c20 => ?_) (fun c20 => ?_)
          · have h := h.1 c20
            exact cut85 x1 x2 x3 S _ _ _ h hC (lv_sub hl [1, 2, 3, 4] rfl)
          · have h := h.2 c20
            refine lv_aload_n hx hb dX12_leave_76 rfl (lv_at hl 1 rfl) ?_
            refine lv_iload hx hb dX12_leave_77 (lv_at hl 0 rfl) ?_
            refine lv_iload_n hx hb dX12_leave_79 rfl (lv_at hl 2 rfl) ?_
            refine lv_iload_n hx hb dX12_leave_80 rfl (lv_at hl 3 rfl) ?_
            refine mv_callv [.int z15, .int x1, .int x2] (rest := []) hX hC (ct_toFinish l S z15 x1 x2 _ h E _) (cw_X12_toFinish hts (by omega) (by omega)) rfl hl.1 (Nat.le_of_ble_eq_true rfl) ⟨Nat.zero_le _, Nat.zero_le _⟩ dX12_leave_81 (fun S21 H locs hC h => ?_)
            exact hret _ _ _ _ _ hC h dX12_leave_84
  have cut15 : ∀ (x1 : Int32) (x2 : Int32) (y0 : Int32) (S : mS) (H : Heap) (locs : List Loc) (ls : Array Slot), wp_leave_15 K x1 x2 y0 S → mC E A s.heap S H locs → lv_has ls 5 [(0, .ref E.2.1), (1, .int x1), (2, .int x2)] → W p l e R s m args below meth c H locs 0 0 Q (F0 m 15 ls [.int y0]) := by
    intro x1 x2 y0 S H locs ls h hC hl
    unfold wp_leave_15 at h
    refine lv_istore_n (lv' := [(3, .int y0), (0, .ref E.2.1), (1, .int x1), (2, .int x2)]) hx hb dX12_leave_15 rfl hl (by decide) rfl (fun ls hl => ?_)
    obtain ⟨n9, h⟩ := h
    exact cut16 n9 x1 x2 y0 S _ _ _ h hC (lv_sub hl [1, 2, 3, 0] rfl)
  have hl : lv_has ls 5 [(0, .ref E.2.1), (1, .int a0), (2, .int a1)] := hl
  unfold wp_leave at h
  refine lv_iload_n hx hb dX12_leave_0 rfl (lv_at hl 1 rfl) ?_
  refine lv_iconst (v := 5) hx hb dX12_leave_1 (by decide) ?_
  refine lv_icmp_ne (tgt := 9) hx hb dX12_leave_2 (by decide) (fun c1 => ?_) (fun c1 => ?_)
  · have h := h.1 c1
    refine lv_aload_n hx hb dX12_leave_9 rfl (lv_at hl 0 rfl) ?_
    refine mv_get (v := .ref (E.2.2.1 41)) hX hC 53 (Nat.le_of_ble_eq_true rfl) wd_1453 rfl dX12_leave_10 ?_
    refine lv_iload_n hx hb dX12_leave_13 rfl (lv_at hl 2 rfl) ?_
    refine mq_ild (n := 1000) hX hC 41 rfl rfl dX12_leave_14 h (fun z2 h => ?_)
    exact cut15 a0 a1 z2 S _ _ _ h hC (lv_sub hl [0, 1, 2] rfl)
  · have h := h.2 c1
    refine lv_iconst (v := 0) hx hb dX12_leave_5 (by decide) ?_
    refine lv_goto (tgt := 15) hx hb dX12_leave_6 (by decide) ?_
    exact cut15 a0 a1 0 S _ _ _ h hC (lv_sub hl [0, 1, 2] rfl)
def wp_finished (a0 : Int32) (S : mS) (K : mS → Prop) : Prop := inR (S.1 33) 200 ∧ ∀ z1 : Int32, z1 = S.2.1 68 (ix (S.1 33)) → ∀ z2 : Int32, z2 = z1 - 1 → inR (S.1 33) 200 ∧ ∀ S3 : mS, S3 = sF S 68 (ix (S.1 33)) z2 → ∀ z4 : Int32, z4 = 11 * (S3.1 33) → inR (S3.1 33) 200 ∧ ∀ z5 : Int32, z5 = S3.2.1 68 (ix (S3.1 33)) → ∀ z6 : Int32, z6 = z4 + z5 → inR z6 2200 ∧ ∀ z7 : Int32, z7 = S3.2.1 71 (ix z6) → inR z6 2200 ∧ ∀ z8 : Int32, z8 = S3.2.1 72 (ix z6) → ((¬ z7 = 0 → ((¬ z7 = 1 → ((¬ z7 = 2 → wp_leave z7 z8 S3 (fun (S12 : mS) => K S12)) ∧ (z7 = 2 → wp_raiseCancel S3 (fun (S13 : mS) => K S13)))) ∧ (z7 = 1 → wp_raise z8 S3 (fun (S14 : mS) => K S14)))) ∧ (z7 = 0 → inR a0 1000 ∧ ∀ z15 : Int32, z15 = S3.2.1 33 (ix a0) → ∀ S16 : mS, S16 = sZ S3 32 z15 → K S16))
theorem cw_X12_leave {R : Room} {s : State} {args : Array Value} {fr lo : Nat} (hts : ∀ w ∈ tb, w.before args s = true) (h1 : fr + 1 ≤ R.frames) (h2 : 8 + (5 + 11) + lo ≤ R.locals) : CallW R s args RX12 RX12 633 yX12_leave cX12_leave 5 none (.code yX12_leave cX12_leave 5 none :: tb) (mRm fr lo) 0 0 2 := cwV 2 hts (gd_V wd_2087 wd_2089 sl_X12_leave wd_15 wd_2090) rfl rfl rfl (by decide +kernel) ⟨h1, h2⟩
set_option maxHeartbeats 4000000 in
set_option maxRecDepth 100000 in
theorem ct_finished (l : Launch) (S : mS) (a0 : Int32) (K : mS → Prop) (h : wp_finished a0 S K) : mMv l yX12_finished cX12_finished 5 none 697 16726 (fun E => [.int a0]) S K := by
  refine mv_ofv (by decide) rfl (fun _ => Nat.le_of_ble_eq_true rfl) ?_
  intro E p e R s m args below meth c A ls Q hRf hRl hX hC hl hret
  have hx := hX.1.1
  have hb := hX.1.2.1
  have hown := hX.1.2.2.2.1
  have hts := hX.1.2.2.2.2
  have hl : lv_has ls 5 [(0, .ref E.2.1), (1, .int a0)] := hl
  unfold wp_finished at h
  refine lv_aload_n hx hb dX12_finished_0 rfl (lv_at hl 0 rfl) ?_
  refine mv_get (v := .ref (E.2.2.1 68)) hX hC 92 (Nat.le_of_ble_eq_true rfl) wd_1492 rfl dX12_finished_1 ?_
  refine lv_aload_n hx hb dX12_finished_4 rfl (lv_at hl 0 rfl) ?_
  refine mv_get (v := .int (S.1 33)) hX hC 123 (Nat.le_of_ble_eq_true rfl) wd_1523 rfl dX12_finished_5 ?_
  refine lv_dup2_11 hx hb dX12_finished_8 rfl rfl ?_
  refine mq_ild (n := 200) hX hC 68 rfl rfl dX12_finished_9 h (fun z1 h => ?_)
  refine lv_iconst (v := 1) hx hb dX12_finished_10 (by decide) ?_
  refine lq_isub hx hb dX12_finished_11 h (fun z2 h => ?_)
  refine mq_ist (n := 200) (v := z2) hX hC 68 rfl rfl mf_68 dX12_finished_12 h.1 h.2 (fun S3 H locs hC h => ?_)
  refine lv_bipush (v := 11) hx hb dX12_finished_13 (by decide) ?_
  refine lv_aload_n hx hb dX12_finished_15 rfl (lv_at hl 0 rfl) ?_
  refine mv_get (v := .int (S3.1 33)) hX hC 123 (Nat.le_of_ble_eq_true rfl) wd_1523 rfl dX12_finished_16 ?_
  refine lq_imul hx hb dX12_finished_19 h (fun z4 h => ?_)
  refine lv_aload_n hx hb dX12_finished_20 rfl (lv_at hl 0 rfl) ?_
  refine mv_get (v := .ref (E.2.2.1 68)) hX hC 92 (Nat.le_of_ble_eq_true rfl) wd_1492 rfl dX12_finished_21 ?_
  refine lv_aload_n hx hb dX12_finished_24 rfl (lv_at hl 0 rfl) ?_
  refine mv_get (v := .int (S3.1 33)) hX hC 123 (Nat.le_of_ble_eq_true rfl) wd_1523 rfl dX12_finished_25 ?_
  refine mq_ild (n := 200) hX hC 68 rfl rfl dX12_finished_28 h (fun z5 h => ?_)
  refine lq_iadd hx hb dX12_finished_29 h (fun z6 h => ?_)
  refine lv_istore_n (lv' := [(2, .int z6), (0, .ref E.2.1), (1, .int a0)]) hx hb dX12_finished_30 rfl hl (by decide) rfl (fun ls hl => ?_)
  refine lv_aload_n hx hb dX12_finished_31 rfl (lv_at hl 1 rfl) ?_
  refine mv_get (v := .ref (E.2.2.1 71)) hX hC 95 (Nat.le_of_ble_eq_true rfl) wd_1495 rfl dX12_finished_32 ?_
  refine lv_iload_n hx hb dX12_finished_35 rfl (lv_at hl 0 rfl) ?_
  refine mq_ild (n := 2200) hX hC 71 rfl rfl dX12_finished_36 h (fun z7 h => ?_)
  refine lv_istore_n (lv' := [(3, .int z7), (2, .int z6), (0, .ref E.2.1), (1, .int a0)]) hx hb dX12_finished_37 rfl hl (by decide) rfl (fun ls hl => ?_)
  refine lv_aload_n hx hb dX12_finished_38 rfl (lv_at hl 2 rfl) ?_
  refine mv_get (v := .ref (E.2.2.1 72)) hX hC 96 (Nat.le_of_ble_eq_true rfl) wd_1496 rfl dX12_finished_39 ?_
  refine lv_iload_n hx hb dX12_finished_42 rfl (lv_at hl 1 rfl) ?_
  refine mq_ild (n := 2200) hX hC 72 rfl rfl dX12_finished_43 h (fun z8 h => ?_)
  refine lv_istore (lv' := [(4, .int z8), (3, .int z7), (2, .int z6), (0, .ref E.2.1), (1, .int a0)]) hx hb dX12_finished_44 hl (by decide) rfl (fun ls hl => ?_)
  refine lv_iload_n hx hb dX12_finished_46 rfl (lv_at hl 1 rfl) ?_
  refine lv_if_ne (tgt := 63) hx hb dX12_finished_47 (by decide) (fun c9 => ?_) (fun c9 => ?_)
  · have h := h.1 c9
    refine lv_iload_n hx hb dX12_finished_63 rfl (lv_at hl 1 rfl) ?_
    refine lv_iconst (v := 1) hx hb dX12_finished_64 (by decide) ?_
    refine lv_icmp_ne (tgt := 77) hx hb dX12_finished_65 (by decide) (fun c10 => ?_) (fun c10 => ?_)
    · have h := h.1 c10
      refine lv_iload_n hx hb dX12_finished_77 rfl (lv_at hl 1 rfl) ?_
      refine lv_iconst (v := 2) hx hb dX12_finished_78 (by decide) ?_
      refine lv_icmp_ne (tgt := 89) hx hb dX12_finished_79 (by decide) (fun c11 => ?_) (fun c11 => ?_)
      · have h := h.1 c11
        refine lv_aload_n hx hb dX12_finished_89 rfl (lv_at hl 3 rfl) ?_
        refine lv_iload_n hx hb dX12_finished_90 rfl (lv_at hl 1 rfl) ?_
        refine lv_iload hx hb dX12_finished_91 (lv_at hl 0 rfl) ?_
        refine mv_callv [.int z7, .int z8] (rest := []) hX hC (ct_leave l S3 z7 z8 _ h E _) (cw_X12_leave hts (by omega) (by omega)) rfl hl.1 (Nat.le_of_ble_eq_true rfl) ⟨Nat.zero_le _, Nat.zero_le _⟩ dX12_finished_93 (fun S12 H locs hC h => ?_)
        exact hret _ _ _ _ _ hC h dX12_finished_96
      · have h := h.2 c11
        refine lv_aload_n hx hb dX12_finished_82 rfl (lv_at hl 3 rfl) ?_
        refine mv_callv [] (rest := []) hX hC (ct_raiseCancel l S3 _ h E _) (cw_X12_raiseCancel hts (by omega) (by omega)) rfl hl.1 (Nat.le_of_ble_eq_true rfl) ⟨Nat.zero_le _, Nat.zero_le _⟩ dX12_finished_83 (fun S13 H locs hC h => ?_)
        refine lv_goto (tgt := 96) hx hb dX12_finished_86 (by decide) ?_
        exact hret _ _ _ _ _ hC h dX12_finished_96
    · have h := h.2 c10
      refine lv_aload_n hx hb dX12_finished_68 rfl (lv_at hl 3 rfl) ?_
      refine lv_iload hx hb dX12_finished_69 (lv_at hl 0 rfl) ?_
      refine mv_callv [.int z8] (rest := []) hX hC (ct_raise l S3 z8 _ h E _) (cw_X12_raise hts (by omega) (by omega)) rfl hl.1 (Nat.le_of_ble_eq_true rfl) ⟨Nat.zero_le _, Nat.zero_le _⟩ dX12_finished_71 (fun S14 H locs hC h => ?_)
      refine lv_goto (tgt := 96) hx hb dX12_finished_74 (by decide) ?_
      exact hret _ _ _ _ _ hC h dX12_finished_96
  · have h := h.2 c9
    refine lv_aload_n hx hb dX12_finished_50 rfl (lv_at hl 3 rfl) ?_
    refine lv_aload_n hx hb dX12_finished_51 rfl (lv_at hl 3 rfl) ?_
    refine mv_get (v := .ref (E.2.2.1 33)) hX hC 44 (Nat.le_of_ble_eq_true rfl) wd_1444 rfl dX12_finished_52 ?_
    refine lv_iload_n hx hb dX12_finished_55 rfl (lv_at hl 4 rfl) ?_
    refine mq_ild (n := 1000) hX hC 33 rfl rfl dX12_finished_56 h (fun z15 h => ?_)
    refine mq_put (v := z15) hX hC 122 32 (Nat.le_of_ble_eq_true rfl) wd_1522 rfl rfl rfl mz_32 dX12_finished_57 h (fun S16 H locs hC h => ?_)
    refine lv_goto (tgt := 96) hx hb dX12_finished_60 (by decide) ?_
    exact hret _ _ _ _ _ hC h dX12_finished_96
def wp_finishing_50 (K : mS → Int32 → Prop) (k6 : Int32 × Int32 × Int32 × mS → Prop) (x3 : Int32) (x4 : Int32) (S : mS) : Prop := inR x4 1000 ∧ ∀ z9 : Int32, z9 = S.2.1 26 (ix x4) → inR x4 1000 ∧ ∀ z10 : Int32, z10 = S.2.1 25 (ix x4) → k6 (x3, z10, z9, S)
def wp_finishing_26 (K : mS → Int32 → Prop) (k6 : Int32 × Int32 × Int32 × mS → Prop) (x3 : Int32) (x4 : Int32) (x5 : Int32) (S : mS) : Prop := ((2 ≤ x5 → wp_finishing_50 K k6 x3 x4 S) ∧ (¬ 2 ≤ x5 → inR x4 1000 ∧ ∀ z6 : Int32, z6 = S.2.1 29 (ix x4) → ((z6 = 0 → wp_finishing_50 K k6 x3 x4 S) ∧ (¬ z6 = 0 → inR x4 1000 ∧ ∀ z8 : Int32, z8 = S.2.1 35 (ix x4) → K S z8))))
def wp_finishing_6 (K : mS → Int32 → Prop) (k6 : Int32 × Int32 × Int32 × mS → Prop) (x3 : Int32) (x4 : Int32) (x5 : Int32) (S : mS) : Prop := ((x4 < 0 → K S (-1)) ∧ (¬ x4 < 0 → ((x3 < 0 → wp_finishing_26 K k6 x3 x4 x5 S) ∧ (¬ x3 < 0 → inR x3 1000 ∧ ∀ z3 : Int32, z3 = S.2.1 40 (ix x3) → ((x4 = z3 → K S (-1)) ∧ (¬ x4 = z3 → wp_finishing_26 K k6 x3 x4 x5 S))))))
def ls_finishing_6 (K : mS → Int32 → Prop) (k6 : Int32 × Int32 × Int32 × mS → Prop) (u : Int32 × Int32 × Int32 × mS) : Prop := wp_finishing_6 K k6 u.1 u.2.1 u.2.2.1 u.2.2.2
def wp_finishing (a0 : Int32) (a1 : Int32) (a2 : Int32) (S : mS) (K : mS → Int32 → Prop) : Prop := (∃ n9, it (ls_finishing_6 K) n9 (a2, a0, a1, S))
set_option maxHeartbeats 4000000 in
set_option maxRecDepth 100000 in
theorem ct_finishing (l : Launch) (S : mS) (a0 : Int32) (a1 : Int32) (a2 : Int32) (K : mS → Int32 → Prop) (h : wp_finishing a0 a1 a2 S K) : mMi l yX12_finishing cX12_finishing 6 (some .int) 0 0 (fun E => [.int a0, .int a1, .int a2]) S K := by
  refine mv_ofi (by decide) rfl (fun _ => Nat.le_of_ble_eq_true rfl) ?_
  intro E p e R s m args below meth c A ls Q hRf hRl hX hC hl hret
  have hx := hX.1.1
  have hb := hX.1.2.1
  have hown := hX.1.2.2.2.1
  have hts := hX.1.2.2.2.2
  have cut6 : ∀ (n6 : Nat) (x3 : Int32) (x4 : Int32) (x5 : Int32) (S : mS) (H : Heap) (locs : List Loc) (ls : Array Slot), it (ls_finishing_6 K) n6 (x3, x4, x5, S) → mC E A s.heap S H locs → lv_has ls 6 [(0, .ref E.2.1), (3, .int x3), (4, .int x4), (5, .int x5)] → W p l e R s m args below meth c H locs 0 0 Q (F0 m 6 ls []) := by
    intro n6
    induction n6 with
    | zero => intro x3 x4 x5 S H locs ls h hC hl; exact h.elim
    | succ n6 ih6 =>
      have cut50 : ∀ (x3 : Int32) (x4 : Int32) (S : mS) (H : Heap) (locs : List Loc) (ls : Array Slot), wp_finishing_50 K (it (ls_finishing_6 K) n6) x3 x4 S → mC E A s.heap S H locs → lv_has ls 6 [(0, .ref E.2.1), (3, .int x3), (4, .int x4)] → W p l e R s m args below meth c H locs 0 0 Q (F0 m 50 ls []) := by
        intro x3 x4 S H locs ls h hC hl
        unfold wp_finishing_50 at h
        refine lv_aload_n hx hb dX12_finishing_50 rfl (lv_at hl 0 rfl) ?_
        refine mv_get (v := .ref (E.2.2.1 26)) hX hC 37 (Nat.le_of_ble_eq_true rfl) wd_1437 rfl dX12_finishing_51 ?_
        refine lv_iload hx hb dX12_finishing_54 (lv_at hl 2 rfl) ?_
        refine mq_ild (n := 1000) hX hC 26 rfl rfl dX12_finishing_56 h (fun z9 h => ?_)
        refine lv_istore (lv' := [(5, .int z9), (0, .ref E.2.1), (3, .int x3), (4, .int x4)]) hx hb dX12_finishing_57 hl (by decide) rfl (fun ls hl => ?_)
        refine lv_aload_n hx hb dX12_finishing_59 rfl (lv_at hl 1 rfl) ?_
        refine mv_get (v := .ref (E.2.2.1 25)) hX hC 36 (Nat.le_of_ble_eq_true rfl) wd_1436 rfl dX12_finishing_60 ?_
        refine lv_iload hx hb dX12_finishing_63 (lv_at hl 3 rfl) ?_
        refine mq_ild (n := 1000) hX hC 25 rfl rfl dX12_finishing_65 h (fun z10 h => ?_)
        refine lv_istore (lv' := [(4, .int z10), (5, .int z9), (0, .ref E.2.1), (3, .int x3)]) hx hb dX12_finishing_66 hl (by decide) rfl (fun ls hl => ?_)
        refine lv_goto (tgt := 6) hx hb dX12_finishing_68 (by decide) ?_
        exact ih6 x3 z10 z9 S _ _ _ h hC (lv_sub hl [2, 3, 0, 1] rfl)
      have cut26 : ∀ (x3 : Int32) (x4 : Int32) (x5 : Int32) (S : mS) (H : Heap) (locs : List Loc) (ls : Array Slot), wp_finishing_26 K (it (ls_finishing_6 K) n6) x3 x4 x5 S → mC E A s.heap S H locs → lv_has ls 6 [(0, .ref E.2.1), (3, .int x3), (4, .int x4), (5, .int x5)] → W p l e R s m args below meth c H locs 0 0 Q (F0 m 26 ls []) := by
        intro x3 x4 x5 S H locs ls h hC hl
        unfold wp_finishing_26 at h
        refine lv_iload hx hb dX12_finishing_26 (lv_at hl 3 rfl) ?_
        refine lv_iconst (v := 2) hx hb dX12_finishing_28 (by decide) ?_
        refine lv_icmp_ge (tgt := 50) hx hb dX12_finishing_29 (by decide) (fun c5 => ?_) (fun c5 => ?_)
        · have h := h.1 c5
          exact cut50 x3 x4 S _ _ _ h hC (lv_sub hl [0, 1, 2] rfl)
        · have h := h.2 c5
          refine lv_aload_n hx hb dX12_finishing_32 rfl (lv_at hl 0 rfl) ?_
          refine mv_get (v := .ref (E.2.2.1 29)) hX hC 40 (Nat.le_of_ble_eq_true rfl) wd_1440 rfl dX12_finishing_33 ?_
          refine lv_iload hx hb dX12_finishing_36 (lv_at hl 2 rfl) ?_
          refine mq_zld (n := 1000) hX hC 29 rfl rfl dX12_finishing_38 h (fun z6 h => ?_)
          refine lv_if_eq (tgt := 50) hx hb dX12_finishing_39 (by decide) (fun c7 => ?_) (fun c7 => ?_)
          · have h := h.1 c7
            exact cut50 x3 x4 S _ _ _ h hC (lv_sub hl [0, 1, 2] rfl)
          · have h := h.2 c7
            refine lv_aload_n hx hb dX12_finishing_42 rfl (lv_at hl 0 rfl) ?_
            refine mv_get (v := .ref (E.2.2.1 35)) hX hC 46 (Nat.le_of_ble_eq_true rfl) wd_1446 rfl dX12_finishing_43 ?_
            refine lv_iload hx hb dX12_finishing_46 (lv_at hl 2 rfl) ?_
            refine mq_ild (n := 1000) hX hC 35 rfl rfl dX12_finishing_48 h (fun z8 h => ?_)
            exact hret _ _ _ _ _ _ hC h dX12_finishing_49
      intro x3 x4 x5 S H locs ls h hC hl
      have h : wp_finishing_6 K (it (ls_finishing_6 K) n6) x3 x4 x5 S := h
      unfold wp_finishing_6 at h
      refine lv_iload hx hb dX12_finishing_6 (lv_at hl 2 rfl) ?_
      refine lv_if_lt (tgt := 71) hx hb dX12_finishing_8 (by decide) (fun c1 => ?_) (fun c1 => ?_)
      · have h := h.1 c1
        refine lv_iconst (v := -1) hx hb dX12_finishing_71 (by decide) ?_
        exact hret _ _ _ _ _ _ hC h dX12_finishing_72
      · have h := h.2 c1
        refine lv_iload_n hx hb dX12_finishing_11 rfl (lv_at hl 1 rfl) ?_
        refine lv_if_lt (tgt := 26) hx hb dX12_finishing_12 (by decide) (fun c2 => ?_) (fun c2 => ?_)
        · have h := h.1 c2
          exact cut26 x3 x4 x5 S _ _ _ h hC (lv_sub hl [0, 1, 2, 3] rfl)
        · have h := h.2 c2
          refine lv_iload hx hb dX12_finishing_15 (lv_at hl 2 rfl) ?_
          refine lv_aload_n hx hb dX12_finishing_17 rfl (lv_at hl 0 rfl) ?_
          refine mv_get (v := .ref (E.2.2.1 40)) hX hC 52 (Nat.le_of_ble_eq_true rfl) wd_1452 rfl dX12_finishing_18 ?_
          refine lv_iload_n hx hb dX12_finishing_21 rfl (lv_at hl 1 rfl) ?_
          refine mq_ild (n := 1000) hX hC 40 rfl rfl dX12_finishing_22 h (fun z3 h => ?_)
          refine lv_icmp_eq (tgt := 71) hx hb dX12_finishing_23 (by decide) (fun c4 => ?_) (fun c4 => ?_)
          · have h := h.1 c4
            refine lv_iconst (v := -1) hx hb dX12_finishing_71 (by decide) ?_
            exact hret _ _ _ _ _ _ hC h dX12_finishing_72
          · have h := h.2 c4
            exact cut26 x3 x4 x5 S _ _ _ h hC (lv_sub hl [0, 1, 2, 3] rfl)
  have hl : lv_has ls 6 [(0, .ref E.2.1), (1, .int a0), (2, .int a1), (3, .int a2)] := hl
  unfold wp_finishing at h
  refine lv_iload_n hx hb dX12_finishing_0 rfl (lv_at hl 1 rfl) ?_
  refine lv_istore (lv' := [(4, .int a0), (0, .ref E.2.1), (1, .int a0), (2, .int a1), (3, .int a2)]) hx hb dX12_finishing_1 hl (by decide) rfl (fun ls hl => ?_)
  refine lv_iload_n hx hb dX12_finishing_3 rfl (lv_at hl 3 rfl) ?_
  refine lv_istore (lv' := [(5, .int a1), (4, .int a0), (0, .ref E.2.1), (1, .int a0), (2, .int a1), (3, .int a2)]) hx hb dX12_finishing_4 hl (by decide) rfl (fun ls hl => ?_)
  obtain ⟨n9, h⟩ := h
  exact cut6 n9 a2 a0 a1 S _ _ _ h hC (lv_sub hl [2, 5, 1, 0] rfl)
def wp_forget_42 (K : mS → Prop) (k42 : Int32 × mS → Prop) (x1 : Int32) (S : mS) : Prop := ((8 ≤ x1 → K S) ∧ (¬ 8 ≤ x1 → inR x1 8 ∧ ∀ S10 : mS, S10 = sF S 78 (ix x1) 0 → ∀ z11 : Int32, z11 = x1 + 1 → k42 (z11, S10)))
def ls_forget_42 (K : mS → Prop) (k42 : Int32 × mS → Prop) (u : Int32 × mS) : Prop := wp_forget_42 K k42 u.1 u.2
def wp_forget (S : mS) (K : mS → Prop) : Prop := ∀ S1 : mS, S1 = sZ S 22 0 → ∀ S2 : mS, S2 = sZ S1 23 0 → ∀ S3 : mS, S3 = sZ S2 24 0 → ∀ S4 : mS, S4 = sZ S3 26 0 → ∀ S5 : mS, S5 = sZ S4 27 0 → ∀ S6 : mS, S6 = sZ S5 28 0 → ∀ S7 : mS, S7 = sZ S6 29 0 → ∀ S8 : mS, S8 = sZ S7 30 0 → (∃ n9, it (ls_forget_42 K) n9 (0, S8))
set_option maxHeartbeats 4000000 in
set_option maxRecDepth 100000 in
theorem ct_forget (l : Launch) (S : mS) (K : mS → Prop) (h : wp_forget S K) : mMv l yX12_forget cX12_forget 2 none 0 0 (fun E => []) S K := by
  refine mv_ofv (by decide) rfl (fun _ => Nat.le_of_ble_eq_true rfl) ?_
  intro E p e R s m args below meth c A ls Q hRf hRl hX hC hl hret
  have hx := hX.1.1
  have hb := hX.1.2.1
  have hown := hX.1.2.2.2.1
  have hts := hX.1.2.2.2.2
  have cut42 : ∀ (n42 : Nat) (x1 : Int32) (S : mS) (H : Heap) (locs : List Loc) (ls : Array Slot), it (ls_forget_42 K) n42 (x1, S) → mC E A s.heap S H locs → lv_has ls 2 [(0, .ref E.2.1), (1, .int x1)] → W p l e R s m args below meth c H locs 0 0 Q (F0 m 42 ls []) := by
    intro n42
    induction n42 with
    | zero => intro x1 S H locs ls h hC hl; exact h.elim
    | succ n42 ih42 =>
      intro x1 S H locs ls h hC hl
      have h : wp_forget_42 K (it (ls_forget_42 K) n42) x1 S := h
      unfold wp_forget_42 at h
      refine lv_iload_n hx hb dX12_forget_42 rfl (lv_at hl 1 rfl) ?_
      refine lv_bipush (v := 8) hx hb dX12_forget_43 (by decide) ?_
      refine lv_icmp_ge (tgt := 61) hx hb dX12_forget_45 (by decide) (fun c9 => ?_) (fun c9 => ?_)
      · have h := h.1 c9
        exact hret _ _ _ _ _ hC h dX12_forget_61
      · have h := h.2 c9
        refine lv_aload_n hx hb dX12_forget_48 rfl (lv_at hl 0 rfl) ?_
        refine mv_get (v := .ref (E.2.2.1 78)) hX hC 108 (Nat.le_of_ble_eq_true rfl) wd_1508 rfl dX12_forget_49 ?_
        refine lv_iload_n hx hb dX12_forget_52 rfl (lv_at hl 1 rfl) ?_
        refine lv_iconst (v := 0) hx hb dX12_forget_53 (by decide) ?_
        refine mq_ist (n := 8) (v := 0) hX hC 78 rfl rfl mf_78 dX12_forget_54 h.1 h.2 (fun S10 H locs hC h => ?_)
        obtain ⟨z11, ez11⟩ : ∃ y : Int32, y = x1 + 1 := ⟨_, rfl⟩
        have h := h z11 ez11
        refine lv_iinc (v := z11) (lv' := [(1, .int z11), (0, .ref E.2.1)]) hx hb dX12_forget_55 hl (k := 1) rfl (by rw [ez11]; rfl) (by decide) rfl (fun ls hl => ?_)
        refine lv_goto (tgt := 42) hx hb dX12_forget_58 (by decide) ?_
        exact ih42 z11 S10 _ _ _ h hC (lv_sub hl [1, 0] rfl)
  have hl : lv_has ls 2 [(0, .ref E.2.1)] := hl
  unfold wp_forget at h
  refine lv_aload_n hx hb dX12_forget_0 rfl (lv_at hl 0 rfl) ?_
  refine lv_iconst (v := 0) hx hb dX12_forget_1 (by decide) ?_
  refine mq_put (v := 0) hX hC 74 22 (Nat.le_of_ble_eq_true rfl) wd_1474 rfl rfl rfl mz_22 dX12_forget_2 h (fun S1 H locs hC h => ?_)
  refine lv_aload_n hx hb dX12_forget_5 rfl (lv_at hl 0 rfl) ?_
  refine lv_iconst (v := 0) hx hb dX12_forget_6 (by decide) ?_
  refine mq_put (v := 0) hX hC 98 23 (Nat.le_of_ble_eq_true rfl) wd_1498 rfl rfl rfl mz_23 dX12_forget_7 h (fun S2 H locs hC h => ?_)
  refine lv_aload_n hx hb dX12_forget_10 rfl (lv_at hl 0 rfl) ?_
  refine lv_iconst (v := 0) hx hb dX12_forget_11 (by decide) ?_
  refine mq_put (v := 0) hX hC 99 24 (Nat.le_of_ble_eq_true rfl) wd_1499 rfl rfl rfl mz_24 dX12_forget_12 h (fun S3 H locs hC h => ?_)
  refine lv_aload_n hx hb dX12_forget_15 rfl (lv_at hl 0 rfl) ?_
  refine lv_iconst (v := 0) hx hb dX12_forget_16 (by decide) ?_
  refine mq_put (v := 0) hX hC 101 26 (Nat.le_of_ble_eq_true rfl) wd_1501 rfl rfl rfl mz_26 dX12_forget_17 h (fun S4 H locs hC h => ?_)
  refine lv_aload_n hx hb dX12_forget_20 rfl (lv_at hl 0 rfl) ?_
  refine lv_iconst (v := 0) hx hb dX12_forget_21 (by decide) ?_
  refine mq_put (v := 0) hX hC 102 27 (Nat.le_of_ble_eq_true rfl) wd_1502 rfl rfl rfl mz_27 dX12_forget_22 h (fun S5 H locs hC h => ?_)
  refine lv_aload_n hx hb dX12_forget_25 rfl (lv_at hl 0 rfl) ?_
  refine lv_iconst (v := 0) hx hb dX12_forget_26 (by decide) ?_
  refine mq_put (v := 0) hX hC 105 28 (Nat.le_of_ble_eq_true rfl) wd_1505 rfl rfl rfl mz_28 dX12_forget_27 h (fun S6 H locs hC h => ?_)
  refine lv_aload_n hx hb dX12_forget_30 rfl (lv_at hl 0 rfl) ?_
  refine lv_iconst (v := 0) hx hb dX12_forget_31 (by decide) ?_
  refine mq_put (v := 0) hX hC 110 29 (Nat.le_of_ble_eq_true rfl) wd_1510 rfl rfl rfl mz_29 dX12_forget_32 h (fun S7 H locs hC h => ?_)
  refine lv_aload_n hx hb dX12_forget_35 rfl (lv_at hl 0 rfl) ?_
  refine lv_iconst (v := 0) hx hb dX12_forget_36 (by decide) ?_
  refine mq_put (v := 0) hX hC 119 30 (Nat.le_of_ble_eq_true rfl) wd_1519 rfl rfl rfl mz_30 dX12_forget_37 h (fun S8 H locs hC h => ?_)
  refine lv_iconst (v := 0) hx hb dX12_forget_40 (by decide) ?_
  refine lv_istore_n (lv' := [(1, .int 0), (0, .ref E.2.1)]) hx hb dX12_forget_41 rfl hl (by decide) rfl (fun ls hl => ?_)
  obtain ⟨n9, h⟩ := h
  exact cut42 n9 0 S8 _ _ _ h hC (lv_sub hl [1, 0] rfl)
def wp_go_9 (K : mS → Prop) (y0 : Int32) (S : mS) : Prop := ∀ z2 : Int32, z2 = 12000 * (S.1 5) → ∀ z3 : Int32, z3 = y0 - z2 → inR z3 12000 ∧ ∀ z4 : Int32, z4 = S.2.1 49 (ix z3) → ((¬ z4 = 0 → K S) ∧ (z4 = 0 → inR z3 12000 ∧ ∀ S6 : mS, S6 = sF S 49 (ix z3) 1 → inR (S6.1 21) 12000 ∧ ∀ S7 : mS, S7 = sF S6 50 (ix (S6.1 21)) y0 → ∀ z8 : Int32, z8 = (S7.1 21) + 1 → ∀ S9 : mS, S9 = sZ S7 21 z8 → K S9))
def wp_go (a0 : Int32) (a1 : Int32) (S : mS) (K : mS → Prop) : Prop := ((0 ≤ a0 → wp_go_9 K a0 S) ∧ (¬ 0 ≤ a0 → wp_go_9 K a1 S))
set_option maxHeartbeats 4000000 in
set_option maxRecDepth 100000 in
theorem ct_go (l : Launch) (S : mS) (a0 : Int32) (a1 : Int32) (K : mS → Prop) (h : wp_go a0 a1 S K) : mMv l yX12_go cX12_go 5 none 0 0 (fun E => [.int a0, .int a1]) S K := by
  refine mv_ofv (by decide) rfl (fun _ => Nat.le_of_ble_eq_true rfl) ?_
  intro E p e R s m args below meth c A ls Q hRf hRl hX hC hl hret
  have hx := hX.1.1
  have hb := hX.1.2.1
  have hown := hX.1.2.2.2.1
  have hts := hX.1.2.2.2.2
  have cut9 : ∀ (y0 : Int32) (S : mS) (H : Heap) (locs : List Loc) (ls : Array Slot), wp_go_9 K y0 S → mC E A s.heap S H locs → lv_has ls 5 [(0, .ref E.2.1)] → W p l e R s m args below meth c H locs 0 0 Q (F0 m 9 ls [.int y0]) := by
    intro y0 S H locs ls h hC hl
    unfold wp_go_9 at h
    refine lv_istore_n (lv' := [(3, .int y0), (0, .ref E.2.1)]) hx hb dX12_go_9 rfl hl (by decide) rfl (fun ls hl => ?_)
    refine lv_iload_n hx hb dX12_go_10 rfl (lv_at hl 0 rfl) ?_
    refine lv_sipush (v := 12000) hx hb dX12_go_11 (by decide) ?_
    refine lv_aload_n hx hb dX12_go_14 rfl (lv_at hl 1 rfl) ?_
    refine mv_get (v := .int (S.1 5)) hX hC 11 (Nat.le_of_ble_eq_true rfl) wd_1411 rfl dX12_go_15 ?_
    refine lq_imul hx hb dX12_go_18 h (fun z2 h => ?_)
    refine lq_isub hx hb dX12_go_19 h (fun z3 h => ?_)
    refine lv_istore (lv' := [(4, .int z3), (3, .int y0), (0, .ref E.2.1)]) hx hb dX12_go_20 hl (by decide) rfl (fun ls hl => ?_)
    refine lv_aload_n hx hb dX12_go_22 rfl (lv_at hl 2 rfl) ?_
    refine mv_get (v := .ref (E.2.2.1 49)) hX hC 71 (Nat.le_of_ble_eq_true rfl) wd_1471 rfl dX12_go_23 ?_
    refine lv_iload hx hb dX12_go_26 (lv_at hl 0 rfl) ?_
    refine mq_zld (n := 12000) hX hC 49 rfl rfl dX12_go_28 h (fun z4 h => ?_)
    refine lv_if_ne (tgt := 60) hx hb dX12_go_29 (by decide) (fun c5 => ?_) (fun c5 => ?_)
    · have h := h.1 c5
      exact hret _ _ _ _ _ hC h dX12_go_60
    · have h := h.2 c5
      refine lv_aload_n hx hb dX12_go_32 rfl (lv_at hl 2 rfl) ?_
      refine mv_get (v := .ref (E.2.2.1 49)) hX hC 71 (Nat.le_of_ble_eq_true rfl) wd_1471 rfl dX12_go_33 ?_
      refine lv_iload hx hb dX12_go_36 (lv_at hl 0 rfl) ?_
      refine lv_iconst (v := 1) hx hb dX12_go_38 (by decide) ?_
      refine mq_zst (n := 12000) (v := 1) hX hC 49 rfl rfl rfl mf_49 dX12_go_39 h.1 h.2 (fun S6 H locs hC h => ?_)
      refine lv_aload_n hx hb dX12_go_40 rfl (lv_at hl 2 rfl) ?_
      refine mv_get (v := .ref (E.2.2.1 50)) hX hC 72 (Nat.le_of_ble_eq_true rfl) wd_1472 rfl dX12_go_41 ?_
      refine lv_aload_n hx hb dX12_go_44 rfl (lv_at hl 2 rfl) ?_
      refine mv_get (v := .int (S6.1 21)) hX hC 73 (Nat.le_of_ble_eq_true rfl) wd_1473 rfl dX12_go_45 ?_
      refine lv_iload_n hx hb dX12_go_48 rfl (lv_at hl 1 rfl) ?_
      refine mq_ist (n := 12000) (v := y0) hX hC 50 rfl rfl mf_50 dX12_go_49 h.1 h.2 (fun S7 H locs hC h => ?_)
      refine lv_aload_n hx hb dX12_go_50 rfl (lv_at hl 2 rfl) ?_
      refine lv_dup hx hb dX12_go_51 rfl ?_
      refine mv_get (v := .int (S7.1 21)) hX hC 73 (Nat.le_of_ble_eq_true rfl) wd_1473 rfl dX12_go_52 ?_
      refine lv_iconst (v := 1) hx hb dX12_go_55 (by decide) ?_
      refine lq_iadd hx hb dX12_go_56 h (fun z8 h => ?_)
      refine mq_put (v := z8) hX hC 73 21 (Nat.le_of_ble_eq_true rfl) wd_1473 rfl rfl rfl mz_21 dX12_go_57 h (fun S9 H locs hC h => ?_)
      exact hret _ _ _ _ _ hC h dX12_go_60
  have hl : lv_has ls 5 [(0, .ref E.2.1), (1, .int a0), (2, .int a1)] := hl
  unfold wp_go at h
  refine lv_iload_n hx hb dX12_go_0 rfl (lv_at hl 1 rfl) ?_
  refine lv_if_ge (tgt := 8) hx hb dX12_go_1 (by decide) (fun c1 => ?_) (fun c1 => ?_)
  · have h := h.1 c1
    refine lv_iload_n hx hb dX12_go_8 rfl (lv_at hl 1 rfl) ?_
    exact cut9 a0 S _ _ _ h hC (lv_sub hl [0] rfl)
  · have h := h.2 c1
    refine lv_iload_n hx hb dX12_go_4 rfl (lv_at hl 2 rfl) ?_
    refine lv_goto (tgt := 9) hx hb dX12_go_5 (by decide) ?_
    exact cut9 a1 S _ _ _ h hC (lv_sub hl [0] rfl)
def wp_goTo_10 (K : mS → Prop) (x3 : Int32) (y1 : Int32) (S : mS) : Prop := wp_go y1 x3 S (fun (S2 : mS) => K S2)
def wp_goTo (a0 : Int32) (a1 : Int32) (a2 : Int32) (S : mS) (K : mS → Prop) : Prop := ((0 ≤ a0 → wp_goTo_10 K a2 a0 S) ∧ (¬ 0 ≤ a0 → wp_goTo_10 K a2 a1 S))
theorem cw_X12_go {R : Room} {s : State} {args : Array Value} {fr lo : Nat} (hts : ∀ w ∈ tb, w.before args s = true) (h1 : fr + 1 ≤ R.frames) (h2 : 8 + (5 + 11) + lo ≤ R.locals) : CallW R s args RX12 RX12 516 yX12_go cX12_go 5 none (.code yX12_go cX12_go 5 none :: tb) (mRm fr lo) 0 0 2 := cwV 2 hts (gd_V wd_1970 wd_1972 sl_X12_go wd_15 wd_1973) rfl rfl rfl (by decide +kernel) ⟨h1, h2⟩
set_option maxHeartbeats 4000000 in
set_option maxRecDepth 100000 in
theorem ct_goTo (l : Launch) (S : mS) (a0 : Int32) (a1 : Int32) (a2 : Int32) (K : mS → Prop) (h : wp_goTo a0 a1 a2 S K) : mMv l yX12_goTo cX12_goTo 4 none 1 24 (fun E => [.int a0, .int a1, .int a2]) S K := by
  refine mv_ofv (by decide) rfl (fun _ => Nat.le_of_ble_eq_true rfl) ?_
  intro E p e R s m args below meth c A ls Q hRf hRl hX hC hl hret
  have hx := hX.1.1
  have hb := hX.1.2.1
  have hown := hX.1.2.2.2.1
  have hts := hX.1.2.2.2.2
  have cut10 : ∀ (x3 : Int32) (y1 : Int32) (S : mS) (H : Heap) (locs : List Loc) (ls : Array Slot), wp_goTo_10 K x3 y1 S → mC E A s.heap S H locs → lv_has ls 4 [(0, .ref E.2.1), (3, .int x3)] → W p l e R s m args below meth c H locs 0 0 Q (F0 m 10 ls [.int y1, .ref E.2.1]) := by
    intro x3 y1 S H locs ls h hC hl
    unfold wp_goTo_10 at h
    refine lv_iload_n hx hb dX12_goTo_10 rfl (lv_at hl 1 rfl) ?_
    refine mv_callv [.int y1, .int x3] (rest := []) hX hC (ct_go l S y1 x3 _ h E _) (cw_X12_go hts (by omega) (by omega)) rfl hl.1 (Nat.le_of_ble_eq_true rfl) ⟨Nat.zero_le _, Nat.zero_le _⟩ dX12_goTo_11 (fun S2 H locs hC h => ?_)
    exact hret _ _ _ _ _ hC h dX12_goTo_14
  have hl : lv_has ls 4 [(0, .ref E.2.1), (1, .int a0), (2, .int a1), (3, .int a2)] := hl
  unfold wp_goTo at h
  refine lv_aload_n hx hb dX12_goTo_0 rfl (lv_at hl 0 rfl) ?_
  refine lv_iload_n hx hb dX12_goTo_1 rfl (lv_at hl 1 rfl) ?_
  refine lv_if_ge (tgt := 9) hx hb dX12_goTo_2 (by decide) (fun c1 => ?_) (fun c1 => ?_)
  · have h := h.1 c1
    refine lv_iload_n hx hb dX12_goTo_9 rfl (lv_at hl 1 rfl) ?_
    exact cut10 a2 a0 S _ _ _ h hC (lv_sub hl [0, 3] rfl)
  · have h := h.2 c1
    refine lv_iload_n hx hb dX12_goTo_5 rfl (lv_at hl 2 rfl) ?_
    refine lv_goto (tgt := 10) hx hb dX12_goTo_6 (by decide) ?_
    exact cut10 a2 a1 S _ _ _ h hC (lv_sub hl [0, 3] rfl)
