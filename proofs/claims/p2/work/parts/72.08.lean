theorem wd_1522 : (Jvm.Cond.fieldLink "SleepersModel" (609 : Nat) "SleepersModel" "pc" "I") ∈ tb := tb_at 1522 (by decide +kernel) (by decide +kernel)
theorem wd_1523 : (Jvm.Cond.fieldLink "SleepersModel" (600 : Nat) "SleepersModel" "t" "I") ∈ tb := tb_at 1523 (by decide +kernel) (by decide +kernel)
theorem wd_2018 : (Jvm.Cond.methodLink "SleepersModel" (590 : Nat) ({ cls := "SleepersModel", name := "outOfRow", desc := "(I)V" } : Jvm.MethodName)) ∈ tb := tb_at 2018 (by decide +kernel) (by decide +kernel)
theorem wd_2020 : (Jvm.Cond.instanceMethod ({ cls := "SleepersModel", name := "outOfRow", desc := "(I)V" } : Jvm.MethodName)) ∈ tb := tb_at 2020 (by decide +kernel) (by decide +kernel)
theorem wd_2021 : (Jvm.Cond.code ({ cls := "SleepersModel", name := "outOfRow", desc := "(I)V" } : Jvm.MethodName) prog_14_method_61_code (3 : Nat) (Option.none : Option Jvm.ClassFile.FieldType)) ∈ tb := tb_at 2021 (by decide +kernel) (by decide +kernel)
theorem wd_2022 : (Jvm.Cond.methodLink "SleepersModel" (593 : Nat) ({ cls := "SleepersModel", name := "ends", desc := "(III)V" } : Jvm.MethodName)) ∈ tb := tb_at 2022 (by decide +kernel) (by decide +kernel)
theorem wd_2024 : (Jvm.Cond.instanceMethod ({ cls := "SleepersModel", name := "ends", desc := "(III)V" } : Jvm.MethodName)) ∈ tb := tb_at 2024 (by decide +kernel) (by decide +kernel)
theorem wd_2025 : (Jvm.Cond.code ({ cls := "SleepersModel", name := "ends", desc := "(III)V" } : Jvm.MethodName) prog_14_method_64_code (6 : Nat) (Option.none : Option Jvm.ClassFile.FieldType)) ∈ tb := tb_at 2025 (by decide +kernel) (by decide +kernel)
theorem wd_2058 : (Jvm.Cond.methodLink "SleepersModel" (666 : Nat) ({ cls := "SleepersModel", name := "toFinish", desc := "(III)V" } : Jvm.MethodName)) ∈ tb := tb_at 2058 (by decide +kernel) (by decide +kernel)
theorem wd_2060 : (Jvm.Cond.instanceMethod ({ cls := "SleepersModel", name := "toFinish", desc := "(III)V" } : Jvm.MethodName)) ∈ tb := tb_at 2060 (by decide +kernel) (by decide +kernel)
theorem wd_2061 : (Jvm.Cond.code ({ cls := "SleepersModel", name := "toFinish", desc := "(III)V" } : Jvm.MethodName) prog_14_method_82_code (4 : Nat) (Option.none : Option Jvm.ClassFile.FieldType)) ∈ tb := tb_at 2061 (by decide +kernel) (by decide +kernel)
theorem wd_2163 : (Jvm.Cond.methodLink "SleepersModel" (694 : Nat) ({ cls := "SleepersModel", name := "isTask", desc := "(I)Z" } : Jvm.MethodName)) ∈ tb := tb_at 2163 (by decide +kernel) (by decide +kernel)
theorem wd_2165 : (Jvm.Cond.instanceMethod ({ cls := "SleepersModel", name := "isTask", desc := "(I)Z" } : Jvm.MethodName)) ∈ tb := tb_at 2165 (by decide +kernel) (by decide +kernel)
theorem wd_2166 : (Jvm.Cond.code ({ cls := "SleepersModel", name := "isTask", desc := "(I)Z" } : Jvm.MethodName) prog_14_method_100_code (2 : Nat) (Option.some Jvm.ClassFile.FieldType.boolean)) ∈ tb := tb_at 2166 (by decide +kernel) (by decide +kernel)
theorem sl_X12_ends : Cond.selects RX12 yX12_ends yX12_ends ∈ tb := sl_of (y := ⟨"SleepersModel", "ends", "(III)V"⟩) (n := 128) (by decide +kernel) (by decide +kernel)
theorem sl_X12_isTask : Cond.selects RX12 yX12_isTask yX12_isTask ∈ tb := sl_of (y := ⟨"SleepersModel", "isTask", "(I)Z"⟩) (n := 128) (by decide +kernel) (by decide +kernel)
theorem sl_X12_outOfRow : Cond.selects RX12 yX12_outOfRow yX12_outOfRow ∈ tb := sl_of (y := ⟨"SleepersModel", "outOfRow", "(I)V"⟩) (n := 128) (by decide +kernel) (by decide +kernel)
theorem sl_X12_toFinish : Cond.selects RX12 yX12_toFinish yX12_toFinish ∈ tb := sl_of (y := ⟨"SleepersModel", "toFinish", "(III)V"⟩) (n := 128) (by decide +kernel) (by decide +kernel)
theorem dX12_cancel_0 : decode cX12_cancel 0 = .ok (.aload_n 0, 1) := by decide +kernel
theorem dX12_cancel_1 : decode cX12_cancel 1 = .ok (.iconst 0, 1) := by decide +kernel
theorem dX12_cancel_2 : decode cX12_cancel 2 = .ok (.putfield 1, 3) := by decide +kernel
theorem dX12_cancel_5 : decode cX12_cancel 5 = .ok (.iload_n 1, 1) := by decide +kernel
theorem dX12_cancel_6 : decode cX12_cancel 6 = .ok (.ifCond .lt 23, 3) := by decide +kernel
theorem dX12_cancel_9 : decode cX12_cancel 9 = .ok (.iload_n 1, 1) := by decide +kernel
theorem dX12_cancel_10 : decode cX12_cancel 10 = .ok (.aload_n 0, 1) := by decide +kernel
theorem dX12_cancel_11 : decode cX12_cancel 11 = .ok (.getfield 542, 3) := by decide +kernel
theorem dX12_cancel_14 : decode cX12_cancel 14 = .ok (.if_icmp .ge 15, 3) := by decide +kernel
theorem dX12_cancel_17 : decode cX12_cancel 17 = .ok (.aload_n 0, 1) := by decide +kernel
theorem dX12_cancel_18 : decode cX12_cancel 18 = .ok (.iload_n 1, 1) := by decide +kernel
theorem dX12_cancel_19 : decode cX12_cancel 19 = .ok (.invokevirtual 584, 3) := by decide +kernel
theorem dX12_cancel_22 : decode cX12_cancel 22 = .ok (.ifCond .eq 7, 3) := by decide +kernel
theorem dX12_cancel_25 : decode cX12_cancel 25 = .ok (.iconst 1, 1) := by decide +kernel
theorem dX12_cancel_26 : decode cX12_cancel 26 = .ok (.goto 4, 3) := by decide +kernel
theorem dX12_cancel_29 : decode cX12_cancel 29 = .ok (.iconst 0, 1) := by decide +kernel
theorem dX12_cancel_30 : decode cX12_cancel 30 = .ok (.ireturn, 1) := by decide +kernel
theorem dX12_cancels_0 : decode cX12_cancels 0 = .ok (.aload_n 0, 1) := by decide +kernel
theorem dX12_cancels_1 : decode cX12_cancels 1 = .ok (.getfield 195, 3) := by decide +kernel
theorem dX12_cancels_4 : decode cX12_cancels 4 = .ok (.iload_n 1, 1) := by decide +kernel
theorem dX12_cancels_5 : decode cX12_cancels 5 = .ok (.iaload, 1) := by decide +kernel
theorem dX12_cancels_6 : decode cX12_cancels 6 = .ok (.iconst 3, 1) := by decide +kernel
theorem dX12_cancels_7 : decode cX12_cancels 7 = .ok (.if_icmp .eq 12, 3) := by decide +kernel
theorem dX12_cancels_10 : decode cX12_cancels 10 = .ok (.aload_n 0, 1) := by decide +kernel
theorem dX12_cancels_11 : decode cX12_cancels 11 = .ok (.getfield 216, 3) := by decide +kernel
theorem dX12_cancels_14 : decode cX12_cancels 14 = .ok (.iload_n 1, 1) := by decide +kernel
theorem dX12_cancels_15 : decode cX12_cancels 15 = .ok (.baload, 1) := by decide +kernel
theorem dX12_cancels_16 : decode cX12_cancels 16 = .ok (.ifCond .eq 5, 3) := by decide +kernel
theorem dX12_cancels_19 : decode cX12_cancels 19 = .ok (.iconst 0, 1) := by decide +kernel
theorem dX12_cancels_20 : decode cX12_cancels 20 = .ok (.ireturn, 1) := by decide +kernel
theorem dX12_cancels_21 : decode cX12_cancels 21 = .ok (.aload_n 0, 1) := by decide +kernel
theorem dX12_cancels_22 : decode cX12_cancels 22 = .ok (.getfield 216, 3) := by decide +kernel
theorem dX12_cancels_25 : decode cX12_cancels 25 = .ok (.iload_n 1, 1) := by decide +kernel
theorem dX12_cancels_26 : decode cX12_cancels 26 = .ok (.iconst 1, 1) := by decide +kernel
theorem dX12_cancels_27 : decode cX12_cancels 27 = .ok (.bastore, 1) := by decide +kernel
theorem dX12_cancels_28 : decode cX12_cancels 28 = .ok (.aload_n 0, 1) := by decide +kernel
theorem dX12_cancels_29 : decode cX12_cancels 29 = .ok (.getfield 213, 3) := by decide +kernel
theorem dX12_cancels_32 : decode cX12_cancels 32 = .ok (.iload_n 1, 1) := by decide +kernel
theorem dX12_cancels_33 : decode cX12_cancels 33 = .ok (.iaload, 1) := by decide +kernel
theorem dX12_cancels_34 : decode cX12_cancels 34 = .ok (.ifCond .ne 36, 3) := by decide +kernel
theorem dX12_cancels_37 : decode cX12_cancels 37 = .ok (.iconst 0, 1) := by decide +kernel
theorem dX12_cancels_38 : decode cX12_cancels 38 = .ok (.istore_n 2, 1) := by decide +kernel
theorem dX12_cancels_39 : decode cX12_cancels 39 = .ok (.aload_n 0, 1) := by decide +kernel
theorem dX12_cancels_40 : decode cX12_cancels 40 = .ok (.getfield 252, 3) := by decide +kernel
theorem dX12_cancels_43 : decode cX12_cancels 43 = .ok (.iload_n 2, 1) := by decide +kernel
theorem dX12_cancels_44 : decode cX12_cancels 44 = .ok (.iaload, 1) := by decide +kernel
theorem dX12_cancels_45 : decode cX12_cancels 45 = .ok (.iload_n 1, 1) := by decide +kernel
theorem dX12_cancels_46 : decode cX12_cancels 46 = .ok (.if_icmp .eq 9, 3) := by decide +kernel
theorem dX12_cancels_49 : decode cX12_cancels 49 = .ok (.iinc 2 1, 3) := by decide +kernel
theorem dX12_cancels_52 : decode cX12_cancels 52 = .ok (.goto (-13), 3) := by decide +kernel
theorem dX12_cancels_55 : decode cX12_cancels 55 = .ok (.aload_n 0, 1) := by decide +kernel
theorem dX12_cancels_56 : decode cX12_cancels 56 = .ok (.iload_n 2, 1) := by decide +kernel
theorem dX12_cancels_57 : decode cX12_cancels 57 = .ok (.invokevirtual 590, 3) := by decide +kernel
theorem dX12_cancels_60 : decode cX12_cancels 60 = .ok (.aload_n 0, 1) := by decide +kernel
theorem dX12_cancels_61 : decode cX12_cancels 61 = .ok (.iload_n 1, 1) := by decide +kernel
theorem dX12_cancels_62 : decode cX12_cancels 62 = .ok (.bipush 22, 2) := by decide +kernel
theorem dX12_cancels_64 : decode cX12_cancels 64 = .ok (.iconst 0, 1) := by decide +kernel
theorem dX12_cancels_65 : decode cX12_cancels 65 = .ok (.invokevirtual 593, 3) := by decide +kernel
theorem dX12_cancels_68 : decode cX12_cancels 68 = .ok (.iconst 1, 1) := by decide +kernel
theorem dX12_cancels_69 : decode cX12_cancels 69 = .ok (.ireturn, 1) := by decide +kernel
theorem dX12_cancels_70 : decode cX12_cancels 70 = .ok (.aload_n 0, 1) := by decide +kernel
theorem dX12_cancels_71 : decode cX12_cancels 71 = .ok (.getfield 219, 3) := by decide +kernel
theorem dX12_cancels_74 : decode cX12_cancels 74 = .ok (.iload_n 1, 1) := by decide +kernel
theorem dX12_cancels_75 : decode cX12_cancels 75 = .ok (.iaload, 1) := by decide +kernel
theorem dX12_cancels_76 : decode cX12_cancels 76 = .ok (.iconst 1, 1) := by decide +kernel
theorem dX12_cancels_77 : decode cX12_cancels 77 = .ok (.if_icmp .ne 48, 3) := by decide +kernel
theorem dX12_cancels_80 : decode cX12_cancels 80 = .ok (.aload_n 0, 1) := by decide +kernel
theorem dX12_cancels_81 : decode cX12_cancels 81 = .ok (.getfield 557, 3) := by decide +kernel
theorem dX12_cancels_84 : decode cX12_cancels 84 = .ok (.sipush 300, 3) := by decide +kernel
theorem dX12_cancels_87 : decode cX12_cancels 87 = .ok (.if_icmp .ge 28, 3) := by decide +kernel
theorem dX12_cancels_90 : decode cX12_cancels 90 = .ok (.aload_n 0, 1) := by decide +kernel
theorem dX12_cancels_91 : decode cX12_cancels 91 = .ok (.getfield 261, 3) := by decide +kernel
theorem dX12_cancels_94 : decode cX12_cancels 94 = .ok (.aload_n 0, 1) := by decide +kernel
theorem dX12_cancels_95 : decode cX12_cancels 95 = .ok (.getfield 557, 3) := by decide +kernel
theorem dX12_cancels_98 : decode cX12_cancels 98 = .ok (.iload_n 1, 1) := by decide +kernel
theorem dX12_cancels_99 : decode cX12_cancels 99 = .ok (.iastore, 1) := by decide +kernel
theorem dX12_cancels_100 : decode cX12_cancels 100 = .ok (.aload_n 0, 1) := by decide +kernel
theorem dX12_cancels_101 : decode cX12_cancels 101 = .ok (.getfield 264, 3) := by decide +kernel
theorem dX12_cancels_104 : decode cX12_cancels 104 = .ok (.aload_n 0, 1) := by decide +kernel
theorem dX12_cancels_105 : decode cX12_cancels 105 = .ok (.getfield 557, 3) := by decide +kernel
theorem dX12_cancels_108 : decode cX12_cancels 108 = .ok (.aload_n 0, 1) := by decide +kernel
theorem dX12_cancels_109 : decode cX12_cancels 109 = .ok (.getfield 222, 3) := by decide +kernel
theorem dX12_cancels_112 : decode cX12_cancels 112 = .ok (.iload_n 1, 1) := by decide +kernel
theorem dX12_cancels_113 : decode cX12_cancels 113 = .ok (.iaload, 1) := by decide +kernel
theorem dX12_cancels_114 : decode cX12_cancels 114 = .ok (.iastore, 1) := by decide +kernel
theorem dX12_cancels_115 : decode cX12_cancels 115 = .ok (.aload_n 0, 1) := by decide +kernel
theorem dX12_cancels_116 : decode cX12_cancels 116 = .ok (.dup, 1) := by decide +kernel
theorem dX12_cancels_117 : decode cX12_cancels 117 = .ok (.getfield 557, 3) := by decide +kernel
theorem dX12_cancels_120 : decode cX12_cancels 120 = .ok (.iconst 1, 1) := by decide +kernel
theorem dX12_cancels_121 : decode cX12_cancels 121 = .ok (.iadd, 1) := by decide +kernel
theorem dX12_cancels_122 : decode cX12_cancels 122 = .ok (.putfield 557, 3) := by decide +kernel
theorem dX12_cancels_125 : decode cX12_cancels 125 = .ok (.aload_n 0, 1) := by decide +kernel
theorem dX12_cancels_126 : decode cX12_cancels 126 = .ok (.getfield 195, 3) := by decide +kernel
theorem dX12_cancels_129 : decode cX12_cancels 129 = .ok (.iload_n 1, 1) := by decide +kernel
theorem dX12_cancels_130 : decode cX12_cancels 130 = .ok (.iaload, 1) := by decide +kernel
theorem dX12_cancels_131 : decode cX12_cancels 131 = .ok (.iconst 1, 1) := by decide +kernel
theorem dX12_cancels_132 : decode cX12_cancels 132 = .ok (.if_icmp .ne 57, 3) := by decide +kernel
theorem dX12_cancels_135 : decode cX12_cancels 135 = .ok (.aload_n 0, 1) := by decide +kernel
theorem dX12_cancels_136 : decode cX12_cancels 136 = .ok (.getfield 195, 3) := by decide +kernel
theorem dX12_cancels_139 : decode cX12_cancels 139 = .ok (.iload_n 1, 1) := by decide +kernel
theorem dX12_cancels_140 : decode cX12_cancels 140 = .ok (.iconst 2, 1) := by decide +kernel
theorem dX12_cancels_141 : decode cX12_cancels 141 = .ok (.iastore, 1) := by decide +kernel
theorem dX12_cancels_142 : decode cX12_cancels 142 = .ok (.aload_n 0, 1) := by decide +kernel
theorem dX12_cancels_143 : decode cX12_cancels 143 = .ok (.getfield 219, 3) := by decide +kernel
theorem dX12_cancels_146 : decode cX12_cancels 146 = .ok (.iload_n 1, 1) := by decide +kernel
theorem dX12_cancels_147 : decode cX12_cancels 147 = .ok (.iconst 3, 1) := by decide +kernel
theorem dX12_cancels_148 : decode cX12_cancels 148 = .ok (.iastore, 1) := by decide +kernel
theorem dX12_cancels_149 : decode cX12_cancels 149 = .ok (.aload_n 0, 1) := by decide +kernel
theorem dX12_cancels_150 : decode cX12_cancels 150 = .ok (.aload_n 0, 1) := by decide +kernel
theorem dX12_cancels_151 : decode cX12_cancels 151 = .ok (.getfield 228, 3) := by decide +kernel
theorem dX12_cancels_154 : decode cX12_cancels 154 = .ok (.iload_n 1, 1) := by decide +kernel
theorem dX12_cancels_155 : decode cX12_cancels 155 = .ok (.iaload, 1) := by decide +kernel
theorem dX12_cancels_156 : decode cX12_cancels 156 = .ok (.aload_n 0, 1) := by decide +kernel
theorem dX12_cancels_157 : decode cX12_cancels 157 = .ok (.getfield 231, 3) := by decide +kernel
theorem dX12_cancels_160 : decode cX12_cancels 160 = .ok (.iload_n 1, 1) := by decide +kernel
theorem dX12_cancels_161 : decode cX12_cancels 161 = .ok (.iaload, 1) := by decide +kernel
theorem dX12_cancels_162 : decode cX12_cancels 162 = .ok (.invokevirtual 581, 3) := by decide +kernel
theorem dX12_cancels_165 : decode cX12_cancels 165 = .ok (.aload_n 0, 1) := by decide +kernel
theorem dX12_cancels_166 : decode cX12_cancels 166 = .ok (.getfield 234, 3) := by decide +kernel
theorem dX12_cancels_169 : decode cX12_cancels 169 = .ok (.iload_n 1, 1) := by decide +kernel
theorem dX12_cancels_170 : decode cX12_cancels 170 = .ok (.iaload, 1) := by decide +kernel
theorem dX12_cancels_171 : decode cX12_cancels 171 = .ok (.ifCond .ne 18, 3) := by decide +kernel
theorem dX12_cancels_174 : decode cX12_cancels 174 = .ok (.aload_n 0, 1) := by decide +kernel
theorem dX12_cancels_175 : decode cX12_cancels 175 = .ok (.getfield 195, 3) := by decide +kernel
theorem dX12_cancels_178 : decode cX12_cancels 178 = .ok (.iload_n 1, 1) := by decide +kernel
theorem dX12_cancels_179 : decode cX12_cancels 179 = .ok (.iaload, 1) := by decide +kernel
theorem dX12_cancels_180 : decode cX12_cancels 180 = .ok (.iconst 2, 1) := by decide +kernel
theorem dX12_cancels_181 : decode cX12_cancels 181 = .ok (.if_icmp .ne 8, 3) := by decide +kernel
theorem dX12_cancels_184 : decode cX12_cancels 184 = .ok (.aload_n 0, 1) := by decide +kernel
theorem dX12_cancels_185 : decode cX12_cancels 185 = .ok (.iload_n 1, 1) := by decide +kernel
theorem dX12_cancels_186 : decode cX12_cancels 186 = .ok (.invokevirtual 566, 3) := by decide +kernel
theorem dX12_cancels_189 : decode cX12_cancels 189 = .ok (.aload_n 0, 1) := by decide +kernel
theorem dX12_cancels_190 : decode cX12_cancels 190 = .ok (.getfield 219, 3) := by decide +kernel
theorem dX12_cancels_193 : decode cX12_cancels 193 = .ok (.iload_n 1, 1) := by decide +kernel
theorem dX12_cancels_194 : decode cX12_cancels 194 = .ok (.iconst 3, 1) := by decide +kernel
theorem dX12_cancels_195 : decode cX12_cancels 195 = .ok (.iastore, 1) := by decide +kernel
theorem dX12_cancels_196 : decode cX12_cancels 196 = .ok (.iconst 1, 1) := by decide +kernel
theorem dX12_cancels_197 : decode cX12_cancels 197 = .ok (.ireturn, 1) := by decide +kernel
theorem dX12_cell_0 : decode cX12_cell 0 = .ok (.aload_n 0, 1) := by decide +kernel
theorem dX12_cell_1 : decode cX12_cell 1 = .ok (.aload_n 0, 1) := by decide +kernel
theorem dX12_cell_2 : decode cX12_cell 2 = .ok (.iload_n 1, 1) := by decide +kernel
theorem dX12_cell_3 : decode cX12_cell 3 = .ok (.invokevirtual 694, 3) := by decide +kernel
theorem dX12_cell_6 : decode cX12_cell 6 = .ok (.ifCond .eq 34, 3) := by decide +kernel
theorem dX12_cell_9 : decode cX12_cell 9 = .ok (.iload_n 2, 1) := by decide +kernel
theorem dX12_cell_10 : decode cX12_cell 10 = .ok (.ifCond .lt 30, 3) := by decide +kernel
theorem dX12_cell_13 : decode cX12_cell 13 = .ok (.iload_n 2, 1) := by decide +kernel
theorem dX12_cell_14 : decode cX12_cell 14 = .ok (.aload_n 0, 1) := by decide +kernel
theorem dX12_cell_15 : decode cX12_cell 15 = .ok (.getfield 52, 3) := by decide +kernel
theorem dX12_cell_18 : decode cX12_cell 18 = .ok (.bipush 12, 2) := by decide +kernel
theorem dX12_cell_20 : decode cX12_cell 20 = .ok (.aload_n 0, 1) := by decide +kernel
theorem dX12_cell_21 : decode cX12_cell 21 = .ok (.getfield 356, 3) := by decide +kernel
theorem dX12_cell_24 : decode cX12_cell 24 = .ok (.imul, 1) := by decide +kernel
theorem dX12_cell_25 : decode cX12_cell 25 = .ok (.aload_n 0, 1) := by decide +kernel
theorem dX12_cell_26 : decode cX12_cell 26 = .ok (.getfield 186, 3) := by decide +kernel
theorem dX12_cell_29 : decode cX12_cell 29 = .ok (.iload_n 1, 1) := by decide +kernel
theorem dX12_cell_30 : decode cX12_cell 30 = .ok (.iaload, 1) := by decide +kernel
theorem dX12_cell_31 : decode cX12_cell 31 = .ok (.iadd, 1) := by decide +kernel
theorem dX12_cell_32 : decode cX12_cell 32 = .ok (.iaload, 1) := by decide +kernel
theorem dX12_cell_33 : decode cX12_cell 33 = .ok (.if_icmp .ge 7, 3) := by decide +kernel
theorem dX12_cell_36 : decode cX12_cell 36 = .ok (.iconst 0, 1) := by decide +kernel
theorem dX12_cell_37 : decode cX12_cell 37 = .ok (.goto 4, 3) := by decide +kernel
theorem dX12_cell_40 : decode cX12_cell 40 = .ok (.iconst 1, 1) := by decide +kernel
theorem dX12_cell_41 : decode cX12_cell 41 = .ok (.putfield 1, 3) := by decide +kernel
theorem dX12_cell_44 : decode cX12_cell 44 = .ok (.aload_n 0, 1) := by decide +kernel
theorem dX12_cell_45 : decode cX12_cell 45 = .ok (.getfield 1, 3) := by decide +kernel
theorem dX12_cell_48 : decode cX12_cell 48 = .ok (.ifCond .le 7, 3) := by decide +kernel
theorem dX12_cell_51 : decode cX12_cell 51 = .ok (.iconst 0, 1) := by decide +kernel
theorem dX12_cell_52 : decode cX12_cell 52 = .ok (.goto 14, 3) := by decide +kernel
theorem dX12_cell_55 : decode cX12_cell 55 = .ok (.aload_n 0, 1) := by decide +kernel
theorem dX12_cell_56 : decode cX12_cell 56 = .ok (.getfield 207, 3) := by decide +kernel
theorem dX12_cell_59 : decode cX12_cell 59 = .ok (.bipush 12, 2) := by decide +kernel
theorem dX12_cell_61 : decode cX12_cell 61 = .ok (.iload_n 1, 1) := by decide +kernel
theorem dX12_cell_62 : decode cX12_cell 62 = .ok (.imul, 1) := by decide +kernel
theorem dX12_cell_63 : decode cX12_cell 63 = .ok (.iload_n 2, 1) := by decide +kernel
theorem dX12_cell_64 : decode cX12_cell 64 = .ok (.iadd, 1) := by decide +kernel
theorem dX12_cell_65 : decode cX12_cell 65 = .ok (.iaload, 1) := by decide +kernel
theorem dX12_cell_66 : decode cX12_cell 66 = .ok (.ireturn, 1) := by decide +kernel
theorem dX12_isTask_0 : decode cX12_isTask 0 = .ok (.iload_n 1, 1) := by decide +kernel
theorem dX12_isTask_1 : decode cX12_isTask 1 = .ok (.ifCond .lt 15, 3) := by decide +kernel
theorem dX12_isTask_4 : decode cX12_isTask 4 = .ok (.iload_n 1, 1) := by decide +kernel
theorem dX12_isTask_5 : decode cX12_isTask 5 = .ok (.aload_n 0, 1) := by decide +kernel
theorem dX12_isTask_6 : decode cX12_isTask 6 = .ok (.getfield 542, 3) := by decide +kernel
theorem dX12_isTask_9 : decode cX12_isTask 9 = .ok (.if_icmp .ge 7, 3) := by decide +kernel
theorem dX12_isTask_12 : decode cX12_isTask 12 = .ok (.iconst 1, 1) := by decide +kernel
theorem dX12_isTask_13 : decode cX12_isTask 13 = .ok (.goto 4, 3) := by decide +kernel
theorem dX12_isTask_16 : decode cX12_isTask 16 = .ok (.iconst 0, 1) := by decide +kernel
theorem dX12_isTask_17 : decode cX12_isTask 17 = .ok (.ireturn, 1) := by decide +kernel
theorem dX12_raiseCancel_0 : decode cX12_raiseCancel 0 = .ok (.aload_n 0, 1) := by decide +kernel
theorem dX12_raiseCancel_1 : decode cX12_raiseCancel 1 = .ok (.getfield 237, 3) := by decide +kernel
theorem dX12_raiseCancel_4 : decode cX12_raiseCancel 4 = .ok (.aload_n 0, 1) := by decide +kernel
theorem dX12_raiseCancel_5 : decode cX12_raiseCancel 5 = .ok (.getfield 600, 3) := by decide +kernel
theorem dX12_raiseCancel_8 : decode cX12_raiseCancel 8 = .ok (.iaload, 1) := by decide +kernel
theorem dX12_raiseCancel_9 : decode cX12_raiseCancel 9 = .ok (.ifCond .le 71, 3) := by decide +kernel
theorem dX12_raiseCancel_12 : decode cX12_raiseCancel 12 = .ok (.bipush 11, 2) := by decide +kernel
theorem dX12_raiseCancel_14 : decode cX12_raiseCancel 14 = .ok (.aload_n 0, 1) := by decide +kernel
theorem dX12_raiseCancel_15 : decode cX12_raiseCancel 15 = .ok (.getfield 600, 3) := by decide +kernel
theorem dX12_raiseCancel_18 : decode cX12_raiseCancel 18 = .ok (.imul, 1) := by decide +kernel
theorem dX12_raiseCancel_19 : decode cX12_raiseCancel 19 = .ok (.aload_n 0, 1) := by decide +kernel
theorem dX12_raiseCancel_20 : decode cX12_raiseCancel 20 = .ok (.getfield 237, 3) := by decide +kernel
theorem dX12_raiseCancel_23 : decode cX12_raiseCancel 23 = .ok (.aload_n 0, 1) := by decide +kernel
theorem dX12_raiseCancel_24 : decode cX12_raiseCancel 24 = .ok (.getfield 600, 3) := by decide +kernel
theorem dX12_raiseCancel_27 : decode cX12_raiseCancel 27 = .ok (.iaload, 1) := by decide +kernel
theorem dX12_raiseCancel_28 : decode cX12_raiseCancel 28 = .ok (.iadd, 1) := by decide +kernel
theorem dX12_raiseCancel_29 : decode cX12_raiseCancel 29 = .ok (.iconst 1, 1) := by decide +kernel
theorem dX12_raiseCancel_30 : decode cX12_raiseCancel 30 = .ok (.isub, 1) := by decide +kernel
theorem dX12_raiseCancel_31 : decode cX12_raiseCancel 31 = .ok (.istore_n 1, 1) := by decide +kernel
theorem dX12_raiseCancel_32 : decode cX12_raiseCancel 32 = .ok (.aload_n 0, 1) := by decide +kernel
theorem dX12_raiseCancel_33 : decode cX12_raiseCancel 33 = .ok (.getfield 243, 3) := by decide +kernel
theorem dX12_raiseCancel_36 : decode cX12_raiseCancel 36 = .ok (.iload_n 1, 1) := by decide +kernel
theorem dX12_raiseCancel_37 : decode cX12_raiseCancel 37 = .ok (.iaload, 1) := by decide +kernel
theorem dX12_raiseCancel_38 : decode cX12_raiseCancel 38 = .ok (.iconst 2, 1) := by decide +kernel
theorem dX12_raiseCancel_39 : decode cX12_raiseCancel 39 = .ok (.if_icmp .ge 25, 3) := by decide +kernel
theorem dX12_raiseCancel_42 : decode cX12_raiseCancel 42 = .ok (.aload_n 0, 1) := by decide +kernel
theorem dX12_raiseCancel_43 : decode cX12_raiseCancel 43 = .ok (.getfield 116, 3) := by decide +kernel
theorem dX12_raiseCancel_46 : decode cX12_raiseCancel 46 = .ok (.aload_n 0, 1) := by decide +kernel
theorem dX12_raiseCancel_47 : decode cX12_raiseCancel 47 = .ok (.getfield 240, 3) := by decide +kernel
theorem dX12_raiseCancel_50 : decode cX12_raiseCancel 50 = .ok (.iload_n 1, 1) := by decide +kernel
theorem dX12_raiseCancel_51 : decode cX12_raiseCancel 51 = .ok (.iaload, 1) := by decide +kernel
theorem dX12_raiseCancel_52 : decode cX12_raiseCancel 52 = .ok (.baload, 1) := by decide +kernel
theorem dX12_raiseCancel_53 : decode cX12_raiseCancel 53 = .ok (.ifCond .eq 11, 3) := by decide +kernel
theorem dX12_raiseCancel_56 : decode cX12_raiseCancel 56 = .ok (.aload_n 0, 1) := by decide +kernel
theorem dX12_raiseCancel_57 : decode cX12_raiseCancel 57 = .ok (.iload_n 1, 1) := by decide +kernel
theorem dX12_raiseCancel_58 : decode cX12_raiseCancel 58 = .ok (.iconst 2, 1) := by decide +kernel
theorem dX12_raiseCancel_59 : decode cX12_raiseCancel 59 = .ok (.iconst 0, 1) := by decide +kernel
theorem dX12_raiseCancel_60 : decode cX12_raiseCancel 60 = .ok (.invokevirtual 666, 3) := by decide +kernel
theorem dX12_raiseCancel_63 : decode cX12_raiseCancel 63 = .ok (.return_, 1) := by decide +kernel
theorem dX12_raiseCancel_64 : decode cX12_raiseCancel 64 = .ok (.aload_n 0, 1) := by decide +kernel
theorem dX12_raiseCancel_65 : decode cX12_raiseCancel 65 = .ok (.getfield 237, 3) := by decide +kernel
theorem dX12_raiseCancel_68 : decode cX12_raiseCancel 68 = .ok (.aload_n 0, 1) := by decide +kernel
theorem dX12_raiseCancel_69 : decode cX12_raiseCancel 69 = .ok (.getfield 600, 3) := by decide +kernel
theorem dX12_raiseCancel_72 : decode cX12_raiseCancel 72 = .ok (.dup2, 1) := by decide +kernel
theorem dX12_raiseCancel_73 : decode cX12_raiseCancel 73 = .ok (.iaload, 1) := by decide +kernel
theorem dX12_raiseCancel_74 : decode cX12_raiseCancel 74 = .ok (.iconst 1, 1) := by decide +kernel
theorem dX12_raiseCancel_75 : decode cX12_raiseCancel 75 = .ok (.isub, 1) := by decide +kernel
theorem dX12_raiseCancel_76 : decode cX12_raiseCancel 76 = .ok (.iastore, 1) := by decide +kernel
theorem dX12_raiseCancel_77 : decode cX12_raiseCancel 77 = .ok (.goto (-77), 3) := by decide +kernel
theorem dX12_raiseCancel_80 : decode cX12_raiseCancel 80 = .ok (.aload_n 0, 1) := by decide +kernel
theorem dX12_raiseCancel_81 : decode cX12_raiseCancel 81 = .ok (.aload_n 0, 1) := by decide +kernel
theorem dX12_raiseCancel_82 : decode cX12_raiseCancel 82 = .ok (.getfield 600, 3) := by decide +kernel
theorem dX12_raiseCancel_85 : decode cX12_raiseCancel 85 = .ok (.bipush 22, 2) := by decide +kernel
theorem dX12_raiseCancel_87 : decode cX12_raiseCancel 87 = .ok (.iconst 0, 1) := by decide +kernel
theorem dX12_raiseCancel_88 : decode cX12_raiseCancel 88 = .ok (.invokevirtual 593, 3) := by decide +kernel
theorem dX12_raiseCancel_91 : decode cX12_raiseCancel 91 = .ok (.return_, 1) := by decide +kernel
theorem dX12_toFinish_0 : decode cX12_toFinish 0 = .ok (.aload_n 0, 1) := by decide +kernel
theorem dX12_toFinish_1 : decode cX12_toFinish 1 = .ok (.getfield 243, 3) := by decide +kernel
theorem dX12_toFinish_4 : decode cX12_toFinish 4 = .ok (.iload_n 1, 1) := by decide +kernel
theorem dX12_toFinish_5 : decode cX12_toFinish 5 = .ok (.iconst 2, 1) := by decide +kernel
theorem dX12_toFinish_6 : decode cX12_toFinish 6 = .ok (.iastore, 1) := by decide +kernel
theorem dX12_toFinish_7 : decode cX12_toFinish 7 = .ok (.aload_n 0, 1) := by decide +kernel
theorem dX12_toFinish_8 : decode cX12_toFinish 8 = .ok (.getfield 246, 3) := by decide +kernel
theorem dX12_toFinish_11 : decode cX12_toFinish 11 = .ok (.iload_n 1, 1) := by decide +kernel
theorem dX12_toFinish_12 : decode cX12_toFinish 12 = .ok (.iload_n 2, 1) := by decide +kernel
theorem dX12_toFinish_13 : decode cX12_toFinish 13 = .ok (.iastore, 1) := by decide +kernel
theorem dX12_toFinish_14 : decode cX12_toFinish 14 = .ok (.aload_n 0, 1) := by decide +kernel
theorem dX12_toFinish_15 : decode cX12_toFinish 15 = .ok (.getfield 249, 3) := by decide +kernel
theorem dX12_toFinish_18 : decode cX12_toFinish 18 = .ok (.iload_n 1, 1) := by decide +kernel
theorem dX12_toFinish_19 : decode cX12_toFinish 19 = .ok (.iload_n 3, 1) := by decide +kernel
theorem dX12_toFinish_20 : decode cX12_toFinish 20 = .ok (.iastore, 1) := by decide +kernel
theorem dX12_toFinish_21 : decode cX12_toFinish 21 = .ok (.aload_n 0, 1) := by decide +kernel
theorem dX12_toFinish_22 : decode cX12_toFinish 22 = .ok (.aload_n 0, 1) := by decide +kernel
theorem dX12_toFinish_23 : decode cX12_toFinish 23 = .ok (.getfield 125, 3) := by decide +kernel
theorem dX12_toFinish_26 : decode cX12_toFinish 26 = .ok (.aload_n 0, 1) := by decide +kernel
theorem dX12_toFinish_27 : decode cX12_toFinish 27 = .ok (.getfield 240, 3) := by decide +kernel
theorem dX12_toFinish_30 : decode cX12_toFinish 30 = .ok (.iload_n 1, 1) := by decide +kernel
theorem dX12_toFinish_31 : decode cX12_toFinish 31 = .ok (.iaload, 1) := by decide +kernel
theorem dX12_toFinish_32 : decode cX12_toFinish 32 = .ok (.iaload, 1) := by decide +kernel
theorem dX12_toFinish_33 : decode cX12_toFinish 33 = .ok (.putfield 609, 3) := by decide +kernel
theorem dX12_toFinish_36 : decode cX12_toFinish 36 = .ok (.return_, 1) := by decide +kernel
def wp_cancels_189 (r_decides : Int32 → Int32 → Int32 → mS → (mS → Prop) → Prop) (r_cancels : Int32 → mS → (mS → Int32 → Prop) → Prop) (K : mS → Int32 → Prop) (x1 : Int32) (S : mS) : Prop := inR x1 200 ∧ ∀ S33 : mS, S33 = sF S 62 (ix x1) 3 → K S33 1
def wp_cancels_125 (r_decides : Int32 → Int32 → Int32 → mS → (mS → Prop) → Prop) (r_cancels : Int32 → mS → (mS → Int32 → Prop) → Prop) (K : mS → Int32 → Prop) (x1 : Int32) (S : mS) : Prop := inR x1 200 ∧ ∀ z21 : Int32, z21 = S.2.1 54 (ix x1) → ((¬ z21 = 1 → wp_cancels_189 r_decides r_cancels K x1 S) ∧ (z21 = 1 → inR x1 200 ∧ ∀ S23 : mS, S23 = sF S 54 (ix x1) 2 → inR x1 200 ∧ ∀ S24 : mS, S24 = sF S23 62 (ix x1) 3 → inR x1 200 ∧ ∀ z25 : Int32, z25 = S24.2.1 65 (ix x1) → inR x1 200 ∧ ∀ z26 : Int32, z26 = S24.2.1 66 (ix x1) → wp_letGo r_decides r_cancels z25 z26 S24 (fun (S27 : mS) => inR x1 200 ∧ ∀ z28 : Int32, z28 = S27.2.1 67 (ix x1) → ((¬ z28 = 0 → wp_cancels_189 r_decides r_cancels K x1 S27) ∧ (z28 = 0 → inR x1 200 ∧ ∀ z30 : Int32, z30 = S27.2.1 54 (ix x1) → ((¬ z30 = 2 → wp_cancels_189 r_decides r_cancels K x1 S27) ∧ (z30 = 2 → wp_toRow x1 S27 (fun (S32 : mS) => wp_cancels_189 r_decides r_cancels K x1 S32))))))))
def wp_cancels_115 (r_decides : Int32 → Int32 → Int32 → mS → (mS → Prop) → Prop) (r_cancels : Int32 → mS → (mS → Int32 → Prop) → Prop) (K : mS → Int32 → Prop) (x1 : Int32) (S : mS) : Prop := ∀ z19 : Int32, z19 = (S.1 28) + 1 → ∀ S20 : mS, S20 = sZ S 28 z19 → wp_cancels_125 r_decides r_cancels K x1 S20
def wp_cancels_39 (r_decides : Int32 → Int32 → Int32 → mS → (mS → Prop) → Prop) (r_cancels : Int32 → mS → (mS → Int32 → Prop) → Prop) (K : mS → Int32 → Prop) (k39 : Int32 × Int32 × mS → Prop) (x1 : Int32) (x2 : Int32) (S : mS) : Prop := inR x2 200 ∧ ∀ z14 : Int32, z14 = S.2.1 73 (ix x2) → ((z14 = x1 → wp_outOfRow x2 S (fun (S16 : mS) => wp_ends r_decides r_cancels x1 22 0 S16 (fun (S17 : mS) => K S17 1))) ∧ (¬ z14 = x1 → ∀ z18 : Int32, z18 = x2 + 1 → k39 (x1, z18, S)))
def ls_cancels_39 (r_decides : Int32 → Int32 → Int32 → mS → (mS → Prop) → Prop) (r_cancels : Int32 → mS → (mS → Int32 → Prop) → Prop) (K : mS → Int32 → Prop) (k39 : Int32 × Int32 × mS → Prop) (u : Int32 × Int32 × mS) : Prop := wp_cancels_39 r_decides r_cancels K k39 u.1 u.2.1 u.2.2
def wp_cancels (r_decides : Int32 → Int32 → Int32 → mS → (mS → Prop) → Prop) (r_cancels : Int32 → mS → (mS → Int32 → Prop) → Prop) (a0 : Int32) (S : mS) (K : mS → Int32 → Prop) : Prop := inR a0 200 ∧ ∀ z1 : Int32, z1 = S.2.1 54 (ix a0) → ((z1 = 3 → K S 0) ∧ (¬ z1 = 3 → inR a0 200 ∧ ∀ z3 : Int32, z3 = S.2.1 61 (ix a0) → ((z3 = 0 → inR a0 200 ∧ ∀ S5 : mS, S5 = sF S 61 (ix a0) 1 → inR a0 200 ∧ ∀ z6 : Int32, z6 = S5.2.1 60 (ix a0) → ((¬ z6 = 0 → inR a0 200 ∧ ∀ z8 : Int32, z8 = S5.2.1 62 (ix a0) → ((¬ z8 = 1 → wp_cancels_125 r_decides r_cancels K a0 S5) ∧ (z8 = 1 → ((300 ≤ (S5.1 28) → wp_cancels_115 r_decides r_cancels K a0 S5) ∧ (¬ 300 ≤ (S5.1 28) → inR (S5.1 28) 300 ∧ ∀ S11 : mS, S11 = sF S5 76 (ix (S5.1 28)) a0 → inR a0 200 ∧ ∀ z12 : Int32, z12 = S11.2.1 63 (ix a0) → inR (S11.1 28) 300 ∧ ∀ S13 : mS, S13 = sF S11 77 (ix (S11.1 28)) z12 → wp_cancels_115 r_decides r_cancels K a0 S13))))) ∧ (z6 = 0 → (∃ n9, it (ls_cancels_39 r_decides r_cancels K) n9 (a0, 0, S5))))) ∧ (¬ z3 = 0 → K S 0))))
theorem cw_X12_outOfRow {R : Room} {s : State} {args : Array Value} {fr lo : Nat} (hts : ∀ w ∈ tb, w.before args s = true) (h1 : fr + 1 ≤ R.frames) (h2 : 8 + (3 + 11) + lo ≤ R.locals) : CallW R s args RX12 RX12 590 yX12_outOfRow cX12_outOfRow 3 none (.code yX12_outOfRow cX12_outOfRow 3 none :: tb) (mRm fr lo) 0 0 1 := cwV 1 hts (gd_V wd_2018 wd_2020 sl_X12_outOfRow wd_15 wd_2021) rfl rfl rfl (by decide +kernel) ⟨h1, h2⟩
theorem cw_X12_ends {R : Room} {s : State} {args : Array Value} {fr lo : Nat} (hts : ∀ w ∈ tb, w.before args s = true) (h1 : fr + 1 ≤ R.frames) (h2 : 8 + (6 + 11) + lo ≤ R.locals) : CallW R s args RX12 RX12 593 yX12_ends cX12_ends 6 none (.code yX12_ends cX12_ends 6 none :: tb) (mRm fr lo) 0 0 3 := cwV 3 hts (gd_V wd_2022 wd_2024 sl_X12_ends wd_15 wd_2025) rfl rfl rfl (by decide +kernel) ⟨h1, h2⟩
set_option maxHeartbeats 4000000 in
set_option maxRecDepth 100000 in
theorem co_cancels (l : Launch) (fr lo F Lo : Nat) (r_decides : Int32 → Int32 → Int32 → mS → (mS → Prop) → Prop) (hr_decides : ∀ (a0 : Int32) (a1 : Int32) (a2 : Int32) (S : mS) (K : mS → Prop), r_decides a0 a1 a2 S K → mMv l yX12_decides cX12_decides 5 none fr lo (fun E => [.int a0, .int a1, .int a2]) S K) (r_cancels : Int32 → mS → (mS → Int32 → Prop) → Prop) (hr_cancels : ∀ (a0 : Int32) (S : mS) (K : mS → Int32 → Prop), r_cancels a0 S K → mMi l yX12_cancels cX12_cancels 3 (some .boolean) fr lo (fun E => [.int a0]) S K) (hF : fr + 2 ≤ F) (hL : lo + 49 ≤ Lo) (hF0 : 2 ≤ F) (hL0 : 46 ≤ Lo) (S : mS) (a0 : Int32) (K : mS → Int32 → Prop) (h : wp_cancels r_decides r_cancels a0 S K) : mMi l yX12_cancels cX12_cancels 3 (some .boolean) F Lo (fun E => [.int a0]) S K := by
  refine mv_ofz (by decide) rfl (fun _ => Nat.le_of_ble_eq_true rfl) ?_
  intro E p e R s m args below meth c A ls Q hRf hRl hX hC hl hret
  have hx := hX.1.1
  have hb := hX.1.2.1
  have hown := hX.1.2.2.2.1
  have hts := hX.1.2.2.2.2
  have cut189 : ∀ (x1 : Int32) (S : mS) (H : Heap) (locs : List Loc) (ls : Array Slot), wp_cancels_189 r_decides r_cancels K x1 S → mC E A s.heap S H locs → lv_has ls 3 [(0, .ref E.2.1), (1, .int x1)] → W p l e R s m args below meth c H locs 0 0 Q (F0 m 189 ls []) := by
    intro x1 S H locs ls h hC hl
    unfold wp_cancels_189 at h
    refine lv_aload_n hx hb dX12_cancels_189 rfl (lv_at hl 0 rfl) ?_
    refine mv_get (v := .ref (E.2.2.1 62)) hX hC 86 (Nat.le_of_ble_eq_true rfl) wd_1486 rfl dX12_cancels_190 ?_
    refine lv_iload_n hx hb dX12_cancels_193 rfl (lv_at hl 1 rfl) ?_
    refine lv_iconst (v := 3) hx hb dX12_cancels_194 (by decide) ?_
    refine mq_ist (n := 200) (v := 3) hX hC 62 rfl rfl mf_62 dX12_cancels_195 h.1 h.2 (fun S33 H locs hC h => ?_)
    refine lv_iconst (v := 1) hx hb dX12_cancels_196 (by decide) ?_
    exact hret _ _ _ _ _ _ hC (Or.inr rfl) h dX12_cancels_197
  have cut125 : ∀ (x1 : Int32) (S : mS) (H : Heap) (locs : List Loc) (ls : Array Slot), wp_cancels_125 r_decides r_cancels K x1 S → mC E A s.heap S H locs → lv_has ls 3 [(0, .ref E.2.1), (1, .int x1)] → W p l e R s m args below meth c H locs 0 0 Q (F0 m 125 ls []) := by
    intro x1 S H locs ls h hC hl
    unfold wp_cancels_125 at h
    refine lv_aload_n hx hb dX12_cancels_125 rfl (lv_at hl 0 rfl) ?_
    refine mv_get (v := .ref (E.2.2.1 54)) hX hC 78 (Nat.le_of_ble_eq_true rfl) wd_1478 rfl dX12_cancels_126 ?_
    refine lv_iload_n hx hb dX12_cancels_129 rfl (lv_at hl 1 rfl) ?_
    refine mq_ild (n := 200) hX hC 54 rfl rfl dX12_cancels_130 h (fun z21 h => ?_)
    refine lv_iconst (v := 1) hx hb dX12_cancels_131 (by decide) ?_
    refine lv_icmp_ne (tgt := 189) hx hb dX12_cancels_132 (by decide) (fun c22 => ?_) (fun c22 => ?_)
    · have h := h.1 c22
      exact cut189 x1 S _ _ _ h hC (lv_sub hl [0, 1] rfl)
    · have h := h.2 c22
      refine lv_aload_n hx hb dX12_cancels_135 rfl (lv_at hl 0 rfl) ?_
      refine mv_get (v := .ref (E.2.2.1 54)) hX hC 78 (Nat.le_of_ble_eq_true rfl) wd_1478 rfl dX12_cancels_136 ?_
      refine lv_iload_n hx hb dX12_cancels_139 rfl (lv_at hl 1 rfl) ?_
      refine lv_iconst (v := 2) hx hb dX12_cancels_140 (by decide) ?_
      refine mq_ist (n := 200) (v := 2) hX hC 54 rfl rfl mf_54 dX12_cancels_141 h.1 h.2 (fun S23 H locs hC h => ?_)
      refine lv_aload_n hx hb dX12_cancels_142 rfl (lv_at hl 0 rfl) ?_
      refine mv_get (v := .ref (E.2.2.1 62)) hX hC 86 (Nat.le_of_ble_eq_true rfl) wd_1486 rfl dX12_cancels_143 ?_
      refine lv_iload_n hx hb dX12_cancels_146 rfl (lv_at hl 1 rfl) ?_
      refine lv_iconst (v := 3) hx hb dX12_cancels_147 (by decide) ?_
      refine mq_ist (n := 200) (v := 3) hX hC 62 rfl rfl mf_62 dX12_cancels_148 h.1 h.2 (fun S24 H locs hC h => ?_)
      refine lv_aload_n hx hb dX12_cancels_149 rfl (lv_at hl 0 rfl) ?_
      refine lv_aload_n hx hb dX12_cancels_150 rfl (lv_at hl 0 rfl) ?_
      refine mv_get (v := .ref (E.2.2.1 65)) hX hC 89 (Nat.le_of_ble_eq_true rfl) wd_1489 rfl dX12_cancels_151 ?_
      refine lv_iload_n hx hb dX12_cancels_154 rfl (lv_at hl 1 rfl) ?_
      refine mq_ild (n := 200) hX hC 65 rfl rfl dX12_cancels_155 h (fun z25 h => ?_)
      refine lv_aload_n hx hb dX12_cancels_156 rfl (lv_at hl 0 rfl) ?_
      refine mv_get (v := .ref (E.2.2.1 66)) hX hC 90 (Nat.le_of_ble_eq_true rfl) wd_1490 rfl dX12_cancels_157 ?_
      refine lv_iload_n hx hb dX12_cancels_160 rfl (lv_at hl 1 rfl) ?_
      refine mq_ild (n := 200) hX hC 66 rfl rfl dX12_cancels_161 h (fun z26 h => ?_)
      refine mv_callv [.int z25, .int z26] (rest := []) hX hC (co_letGo l fr lo (max (fr + 1) 1) (max (lo + 22) 23) r_decides hr_decides r_cancels hr_cancels (Nat.le_max_left _ _) (Nat.le_max_left _ _) (Nat.le_max_right _ _) (Nat.le_max_right _ _) S24 z25 z26 _ h E _) (cw_X12_letGo hts (by omega) (by omega)) rfl hl.1 (Nat.le_of_ble_eq_true rfl) ⟨Nat.zero_le _, Nat.zero_le _⟩ dX12_cancels_162 (fun S27 H locs hC h => ?_)
      refine lv_aload_n hx hb dX12_cancels_165 rfl (lv_at hl 0 rfl) ?_
      refine mv_get (v := .ref (E.2.2.1 67)) hX hC 91 (Nat.le_of_ble_eq_true rfl) wd_1491 rfl dX12_cancels_166 ?_
      refine lv_iload_n hx hb dX12_cancels_169 rfl (lv_at hl 1 rfl) ?_
      refine mq_ild (n := 200) hX hC 67 rfl rfl dX12_cancels_170 h (fun z28 h => ?_)
      refine lv_if_ne (tgt := 189) hx hb dX12_cancels_171 (by decide) (fun c29 => ?_) (fun c29 => ?_)
      · have h := h.1 c29
        exact cut189 x1 S27 _ _ _ h hC (lv_sub hl [0, 1] rfl)
      · have h := h.2 c29
        refine lv_aload_n hx hb dX12_cancels_174 rfl (lv_at hl 0 rfl) ?_
        refine mv_get (v := .ref (E.2.2.1 54)) hX hC 78 (Nat.le_of_ble_eq_true rfl) wd_1478 rfl dX12_cancels_175 ?_
        refine lv_iload_n hx hb dX12_cancels_178 rfl (lv_at hl 1 rfl) ?_
        refine mq_ild (n := 200) hX hC 54 rfl rfl dX12_cancels_179 h (fun z30 h => ?_)
        refine lv_iconst (v := 2) hx hb dX12_cancels_180 (by decide) ?_
        refine lv_icmp_ne (tgt := 189) hx hb dX12_cancels_181 (by decide) (fun c31 => ?_) (fun c31 => ?_)
        · have h := h.1 c31
          exact cut189 x1 S27 _ _ _ h hC (lv_sub hl [0, 1] rfl)
        · have h := h.2 c31
          refine lv_aload_n hx hb dX12_cancels_184 rfl (lv_at hl 0 rfl) ?_
          refine lv_iload_n hx hb dX12_cancels_185 rfl (lv_at hl 1 rfl) ?_
          refine mv_callv [.int x1] (rest := []) hX hC (ct_toRow l S27 x1 _ h E _) (cw_X12_toRow hts (by omega) (by omega)) rfl hl.1 (Nat.le_of_ble_eq_true rfl) ⟨Nat.zero_le _, Nat.zero_le _⟩ dX12_cancels_186 (fun S32 H locs hC h => ?_)
          exact cut189 x1 S32 _ _ _ h hC (lv_sub hl [0, 1] rfl)
  have cut115 : ∀ (x1 : Int32) (S : mS) (H : Heap) (locs : List Loc) (ls : Array Slot), wp_cancels_115 r_decides r_cancels K x1 S → mC E A s.heap S H locs → lv_has ls 3 [(0, .ref E.2.1), (1, .int x1)] → W p l e R s m args below meth c H locs 0 0 Q (F0 m 115 ls []) := by
    intro x1 S H locs ls h hC hl
    unfold wp_cancels_115 at h
    refine lv_aload_n hx hb dX12_cancels_115 rfl (lv_at hl 0 rfl) ?_
    refine lv_dup hx hb dX12_cancels_116 rfl ?_
    refine mv_get (v := .int (S.1 28)) hX hC 105 (Nat.le_of_ble_eq_true rfl) wd_1505 rfl dX12_cancels_117 ?_
    refine lv_iconst (v := 1) hx hb dX12_cancels_120 (by decide) ?_
    refine lq_iadd hx hb dX12_cancels_121 h (fun z19 h => ?_)
    refine mq_put (v := z19) hX hC 105 28 (Nat.le_of_ble_eq_true rfl) wd_1505 rfl rfl rfl mz_28 dX12_cancels_122 h (fun S20 H locs hC h => ?_)
    exact cut125 x1 S20 _ _ _ h hC (lv_sub hl [0, 1] rfl)
  have cut39 : ∀ (n39 : Nat) (x1 : Int32) (x2 : Int32) (S : mS) (H : Heap) (locs : List Loc) (ls : Array Slot), it (ls_cancels_39 r_decides r_cancels K) n39 (x1, x2, S) → mC E A s.heap S H locs → lv_has ls 3 [(0, .ref E.2.1), (1, .int x1), (2, .int x2)] → W p l e R s m args below meth c H locs 0 0 Q (F0 m 39 ls []) := by
    intro n39
    induction n39 with
    | zero => intro x1 x2 S H locs ls h hC hl; exact h.elim
    | succ n39 ih39 =>
      intro x1 x2 S H locs ls h hC hl
      have h : wp_cancels_39 r_decides r_cancels K (it (ls_cancels_39 r_decides r_cancels K) n39) x1 x2 S := h
      unfold wp_cancels_39 at h
      refine lv_aload_n hx hb dX12_cancels_39 rfl (lv_at hl 0 rfl) ?_
      refine mv_get (v := .ref (E.2.2.1 73)) hX hC 97 (Nat.le_of_ble_eq_true rfl) wd_1497 rfl dX12_cancels_40 ?_
      refine lv_iload_n hx hb dX12_cancels_43 rfl (lv_at hl 2 rfl) ?_
      refine mq_ild (n := 200) hX hC 73 rfl rfl dX12_cancels_44 h (fun z14 h => ?_)
      refine lv_iload_n hx hb dX12_cancels_45 rfl (lv_at hl 1 rfl) ?_
      refine lv_icmp_eq (tgt := 55) hx hb dX12_cancels_46 (by decide) (fun c15 => ?_) (fun c15 => ?_)
      · have h := h.1 c15
        refine lv_aload_n hx hb dX12_cancels_55 rfl (lv_at hl 0 rfl) ?_
        refine lv_iload_n hx hb dX12_cancels_56 rfl (lv_at hl 2 rfl) ?_
        refine mv_callv [.int x2] (rest := []) hX hC (ct_outOfRow l S x2 _ h E _) (cw_X12_outOfRow hts (by omega) (by omega)) rfl hl.1 (Nat.le_of_ble_eq_true rfl) ⟨Nat.zero_le _, Nat.zero_le _⟩ dX12_cancels_57 (fun S16 H locs hC h => ?_)
        refine lv_aload_n hx hb dX12_cancels_60 rfl (lv_at hl 0 rfl) ?_
        refine lv_iload_n hx hb dX12_cancels_61 rfl (lv_at hl 1 rfl) ?_
        refine lv_bipush (v := 22) hx hb dX12_cancels_62 (by decide) ?_
        refine lv_iconst (v := 0) hx hb dX12_cancels_64 (by decide) ?_
        refine mv_callv [.int x1, .int 22, .int 0] (rest := []) hX hC (co_ends l fr lo (max (fr + 1) 1) (max (lo + 24) 21) r_decides hr_decides r_cancels hr_cancels (Nat.le_max_left _ _) (Nat.le_max_left _ _) (Nat.le_max_right _ _) (Nat.le_max_right _ _) S16 x1 22 0 _ h E _) (cw_X12_ends hts (by omega) (by omega)) rfl hl.1 (Nat.le_of_ble_eq_true rfl) ⟨Nat.zero_le _, Nat.zero_le _⟩ dX12_cancels_65 (fun S17 H locs hC h => ?_)
        refine lv_iconst (v := 1) hx hb dX12_cancels_68 (by decide) ?_
        exact hret _ _ _ _ _ _ hC (Or.inr rfl) h dX12_cancels_69
      · have h := h.2 c15
        obtain ⟨z18, ez18⟩ : ∃ y : Int32, y = x2 + 1 := ⟨_, rfl⟩
        have h := h z18 ez18
        refine lv_iinc (v := z18) (lv' := [(2, .int z18), (0, .ref E.2.1), (1, .int x1)]) hx hb dX12_cancels_49 hl (k := 2) rfl (by rw [ez18]; rfl) (by decide) rfl (fun ls hl => ?_)
        refine lv_goto (tgt := 39) hx hb dX12_cancels_52 (by decide) ?_
        exact ih39 x1 z18 S _ _ _ h hC (lv_sub hl [1, 2, 0] rfl)
  have hl : lv_has ls 3 [(0, .ref E.2.1), (1, .int a0)] := hl
  unfold wp_cancels at h
  refine lv_aload_n hx hb dX12_cancels_0 rfl (lv_at hl 0 rfl) ?_
  refine mv_get (v := .ref (E.2.2.1 54)) hX hC 78 (Nat.le_of_ble_eq_true rfl) wd_1478 rfl dX12_cancels_1 ?_
  refine lv_iload_n hx hb dX12_cancels_4 rfl (lv_at hl 1 rfl) ?_
  refine mq_ild (n := 200) hX hC 54 rfl rfl dX12_cancels_5 h (fun z1 h => ?_)
  refine lv_iconst (v := 3) hx hb dX12_cancels_6 (by decide) ?_
  refine lv_icmp_eq (tgt := 19) hx hb dX12_cancels_7 (by decide) (fun c2 => ?_) (fun c2 => ?_)
  · have h := h.1 c2
    refine lv_iconst (v := 0) hx hb dX12_cancels_19 (by decide) ?_
    exact hret _ _ _ _ _ _ hC (Or.inl rfl) h dX12_cancels_20
  · have h := h.2 c2
    refine lv_aload_n hx hb dX12_cancels_10 rfl (lv_at hl 0 rfl) ?_
    refine mv_get (v := .ref (E.2.2.1 61)) hX hC 85 (Nat.le_of_ble_eq_true rfl) wd_1485 rfl dX12_cancels_11 ?_
    refine lv_iload_n hx hb dX12_cancels_14 rfl (lv_at hl 1 rfl) ?_
    refine mq_zld (n := 200) hX hC 61 rfl rfl dX12_cancels_15 h (fun z3 h => ?_)
    refine lv_if_eq (tgt := 21) hx hb dX12_cancels_16 (by decide) (fun c4 => ?_) (fun c4 => ?_)
    · have h := h.1 c4
      refine lv_aload_n hx hb dX12_cancels_21 rfl (lv_at hl 0 rfl) ?_
      refine mv_get (v := .ref (E.2.2.1 61)) hX hC 85 (Nat.le_of_ble_eq_true rfl) wd_1485 rfl dX12_cancels_22 ?_
      refine lv_iload_n hx hb dX12_cancels_25 rfl (lv_at hl 1 rfl) ?_
      refine lv_iconst (v := 1) hx hb dX12_cancels_26 (by decide) ?_
      refine mq_zst (n := 200) (v := 1) hX hC 61 rfl rfl rfl mf_61 dX12_cancels_27 h.1 h.2 (fun S5 H locs hC h => ?_)
      refine lv_aload_n hx hb dX12_cancels_28 rfl (lv_at hl 0 rfl) ?_
      refine mv_get (v := .ref (E.2.2.1 60)) hX hC 84 (Nat.le_of_ble_eq_true rfl) wd_1484 rfl dX12_cancels_29 ?_
      refine lv_iload_n hx hb dX12_cancels_32 rfl (lv_at hl 1 rfl) ?_
      refine mq_ild (n := 200) hX hC 60 rfl rfl dX12_cancels_33 h (fun z6 h => ?_)
      refine lv_if_ne (tgt := 70) hx hb dX12_cancels_34 (by decide) (fun c7 => ?_) (fun c7 => ?_)
      · have h := h.1 c7
        refine lv_aload_n hx hb dX12_cancels_70 rfl (lv_at hl 0 rfl) ?_
        refine mv_get (v := .ref (E.2.2.1 62)) hX hC 86 (Nat.le_of_ble_eq_true rfl) wd_1486 rfl dX12_cancels_71 ?_
        refine lv_iload_n hx hb dX12_cancels_74 rfl (lv_at hl 1 rfl) ?_
        refine mq_ild (n := 200) hX hC 62 rfl rfl dX12_cancels_75 h (fun z8 h => ?_)
        refine lv_iconst (v := 1) hx hb dX12_cancels_76 (by decide) ?_
        refine lv_icmp_ne (tgt := 125) hx hb dX12_cancels_77 (by decide) (fun c9 => ?_) (fun c9 => ?_)
        · have h := h.1 c9
          exact cut125 a0 S5 _ _ _ h hC (lv_sub hl [0, 1] rfl)
        · have h := h.2 c9
          refine lv_aload_n hx hb dX12_cancels_80 rfl (lv_at hl 0 rfl) ?_
          refine mv_get (v := .int (S5.1 28)) hX hC 105 (Nat.le_of_ble_eq_true rfl) wd_1505 rfl dX12_cancels_81 ?_
          refine lv_sipush (v := 300) hx hb dX12_cancels_84 (by decide) ?_
          refine lv_icmp_ge (tgt := 115) hx hb dX12_cancels_87 (by decide) (fun c10 => ?_) (fun c10 => ?_)
          · have h := h.1 c10
            exact cut115 a0 S5 _ _ _ h hC (lv_sub hl [0, 1] rfl)
          · have h := h.2 c10
            refine lv_aload_n hx hb dX12_cancels_90 rfl (lv_at hl 0 rfl) ?_
            refine mv_get (v := .ref (E.2.2.1 76)) hX hC 106 (Nat.le_of_ble_eq_true rfl) wd_1506 rfl dX12_cancels_91 ?_
            refine lv_aload_n hx hb dX12_cancels_94 rfl (lv_at hl 0 rfl) ?_
            refine mv_get (v := .int (S5.1 28)) hX hC 105 (Nat.le_of_ble_eq_true rfl) wd_1505 rfl dX12_cancels_95 ?_
            refine lv_iload_n hx hb dX12_cancels_98 rfl (lv_at hl 1 rfl) ?_
            refine mq_ist (n := 300) (v := a0) hX hC 76 rfl rfl mf_76 dX12_cancels_99 h.1 h.2 (fun S11 H locs hC h => ?_)
            refine lv_aload_n hx hb dX12_cancels_100 rfl (lv_at hl 0 rfl) ?_
            refine mv_get (v := .ref (E.2.2.1 77)) hX hC 107 (Nat.le_of_ble_eq_true rfl) wd_1507 rfl dX12_cancels_101 ?_
            refine lv_aload_n hx hb dX12_cancels_104 rfl (lv_at hl 0 rfl) ?_
            refine mv_get (v := .int (S11.1 28)) hX hC 105 (Nat.le_of_ble_eq_true rfl) wd_1505 rfl dX12_cancels_105 ?_
            refine lv_aload_n hx hb dX12_cancels_108 rfl (lv_at hl 0 rfl) ?_
            refine mv_get (v := .ref (E.2.2.1 63)) hX hC 87 (Nat.le_of_ble_eq_true rfl) wd_1487 rfl dX12_cancels_109 ?_
            refine lv_iload_n hx hb dX12_cancels_112 rfl (lv_at hl 1 rfl) ?_
            refine mq_ild (n := 200) hX hC 63 rfl rfl dX12_cancels_113 h (fun z12 h => ?_)
            refine mq_ist (n := 300) (v := z12) hX hC 77 rfl rfl mf_77 dX12_cancels_114 h.1 h.2 (fun S13 H locs hC h => ?_)
            exact cut115 a0 S13 _ _ _ h hC (lv_sub hl [0, 1] rfl)
      · have h := h.2 c7
        refine lv_iconst (v := 0) hx hb dX12_cancels_37 (by decide) ?_
        refine lv_istore_n (lv' := [(2, .int 0), (0, .ref E.2.1), (1, .int a0)]) hx hb dX12_cancels_38 rfl hl (by decide) rfl (fun ls hl => ?_)
        obtain ⟨n9, h⟩ := h
        exact cut39 n9 a0 0 S5 _ _ _ h hC (lv_sub hl [1, 2, 0] rfl)
    · have h := h.2 c4
      refine lv_iconst (v := 0) hx hb dX12_cancels_19 (by decide) ?_
      exact hret _ _ _ _ _ _ hC (Or.inl rfl) h dX12_cancels_20
def wr_decides : Nat → ((Int32 → Int32 → Int32 → mS → (mS → Prop) → Prop) × (Int32 → mS → (mS → Int32 → Prop) → Prop))
  | 0 => (fun _ _ _ _ _ => False, fun _ _ _ => False)
  | n + 1 => (wp_decides (wr_decides n).1 (wr_decides n).2, wp_cancels (wr_decides n).1 (wr_decides n).2)
def wq_letGo : Int32 → Int32 → mS → (mS → Prop) → Prop := wp_letGo (wr_decides 230).1 (wr_decides 230).2
def wq_weighs : Int32 → mS → (mS → Prop) → Prop := wp_weighs (wr_decides 230).1 (wr_decides 230).2
def wq_ends : Int32 → Int32 → Int32 → mS → (mS → Prop) → Prop := wp_ends (wr_decides 230).1 (wr_decides 230).2
def wq_decides : Int32 → Int32 → Int32 → mS → (mS → Prop) → Prop := (wr_decides 230).1
def wq_cancels : Int32 → mS → (mS → Int32 → Prop) → Prop := (wr_decides 230).2
set_option maxRecDepth 100000 in
theorem cr_decides (l : Launch) : ∀ n : Nat, (∀ (a0 : Int32) (a1 : Int32) (a2 : Int32) (S : mS) (K : mS → Prop), (wr_decides n).1 a0 a1 a2 S K → mMv l yX12_decides cX12_decides 5 none (3 * n + 3) (72 * n + 73) (fun E => [.int a0, .int a1, .int a2]) S K) ∧ (∀ (a0 : Int32) (S : mS) (K : mS → Int32 → Prop), (wr_decides n).2 a0 S K → mMi l yX12_cancels cX12_cancels 3 (some .boolean) (3 * n + 3) (72 * n + 73) (fun E => [.int a0]) S K) := by
  intro n
  induction n with
  | zero => exact ⟨fun _ _ _ _ _ h => h.elim, fun _ _ _ h => h.elim⟩
  | succ n ih => exact ⟨fun a0 a1 a2 S K h => co_decides l (3 * n + 3) (72 * n + 73) _ _ (wr_decides n).1 ih.1 (wr_decides n).2 ih.2 (by omega) (by omega) (by omega) (by omega) S a0 a1 a2 K h, fun a0 S K h => co_cancels l (3 * n + 3) (72 * n + 73) _ _ (wr_decides n).1 ih.1 (wr_decides n).2 ih.2 (by omega) (by omega) (by omega) (by omega) S a0 K h⟩
theorem ct_letGo (l : Launch) (S : mS) (a0 : Int32) (a1 : Int32) (K : mS → Prop) (h : wq_letGo a0 a1 S K) : mMv l yX12_letGo cX12_letGo 4 none 694 16655 (fun E => [.int a0, .int a1]) S K := co_letGo l (3 * 230 + 3) (72 * 230 + 73) _ _ (wr_decides 230).1 (cr_decides l 230).1 (wr_decides 230).2 (cr_decides l 230).2 (by omega) (by omega) (by omega) (by omega) S a0 a1 K h
theorem ct_weighs (l : Launch) (S : mS) (a0 : Int32) (K : mS → Prop) (h : wq_weighs a0 S K) : mMv l yX12_weighs cX12_weighs 8 none 695 16678 (fun E => [.int a0]) S K := co_weighs l (3 * 230 + 3) (72 * 230 + 73) _ _ (wr_decides 230).1 (cr_decides l 230).1 (wr_decides 230).2 (cr_decides l 230).2 (by omega) (by omega) (by omega) (by omega) S a0 K h
theorem ct_ends (l : Launch) (S : mS) (a0 : Int32) (a1 : Int32) (a2 : Int32) (K : mS → Prop) (h : wq_ends a0 a1 a2 S K) : mMv l yX12_ends cX12_ends 6 none 694 16657 (fun E => [.int a0, .int a1, .int a2]) S K := co_ends l (3 * 230 + 3) (72 * 230 + 73) _ _ (wr_decides 230).1 (cr_decides l 230).1 (wr_decides 230).2 (cr_decides l 230).2 (by omega) (by omega) (by omega) (by omega) S a0 a1 a2 K h
theorem ct_decides (l : Launch) (S : mS) (a0 : Int32) (a1 : Int32) (a2 : Int32) (K : mS → Prop) (h : wq_decides a0 a1 a2 S K) : mMv l yX12_decides cX12_decides 5 none (3 * 230 + 3) (72 * 230 + 73) (fun E => [.int a0, .int a1, .int a2]) S K := (cr_decides l 230).1 a0 a1 a2 S K h
theorem ct_cancels (l : Launch) (S : mS) (a0 : Int32) (K : mS → Int32 → Prop) (h : wq_cancels a0 S K) : mMi l yX12_cancels cX12_cancels 3 (some .boolean) (3 * 230 + 3) (72 * 230 + 73) (fun E => [.int a0]) S K := (cr_decides l 230).2 a0 S K h
def wp_cancel (a0 : Int32) (S : mS) (K : mS → Int32 → Prop) : Prop := ∀ S1 : mS, S1 = sZ S 0 0 → ((a0 < 0 → K S1 0) ∧ (¬ a0 < 0 → (((S1.1 22) ≤ a0 → K S1 0) ∧ (¬ (S1.1 22) ≤ a0 → wq_cancels a0 S1 (fun (S4 : mS) (r4 : Int32) => ((r4 = 0 → K S4 0) ∧ (¬ r4 = 0 → K S4 1)))))))
set_option maxHeartbeats 4000000 in
set_option maxRecDepth 100000 in
theorem ct_cancel (l : Launch) (S : mS) (a0 : Int32) (K : mS → Int32 → Prop) (h : wp_cancel a0 S K) : mMi l yX12_cancel cX12_cancel 2 (some .boolean) 694 16655 (fun E => [.int a0]) S K := by
  refine mv_ofz (by decide) rfl (fun _ => Nat.le_of_ble_eq_true rfl) ?_
  intro E p e R s m args below meth c A ls Q hRf hRl hX hC hl hret
  have hx := hX.1.1
  have hb := hX.1.2.1
  have hown := hX.1.2.2.2.1
  have hts := hX.1.2.2.2.2
  have hl : lv_has ls 2 [(0, .ref E.2.1), (1, .int a0)] := hl
  unfold wp_cancel at h
  refine lv_aload_n hx hb dX12_cancel_0 rfl (lv_at hl 0 rfl) ?_
  refine lv_iconst (v := 0) hx hb dX12_cancel_1 (by decide) ?_
  refine mq_put (v := 0) hX hC 0 0 (Nat.le_of_ble_eq_true rfl) wd_1400 rfl rfl rfl mz_0 dX12_cancel_2 h (fun S1 H locs hC h => ?_)
  refine lv_iload_n hx hb dX12_cancel_5 rfl (lv_at hl 1 rfl) ?_
  refine lv_if_lt (tgt := 29) hx hb dX12_cancel_6 (by decide) (fun c2 => ?_) (fun c2 => ?_)
  · have h := h.1 c2
    refine lv_iconst (v := 0) hx hb dX12_cancel_29 (by decide) ?_
    exact hret _ _ _ _ _ _ hC (Or.inl rfl) h dX12_cancel_30
  · have h := h.2 c2
    refine lv_iload_n hx hb dX12_cancel_9 rfl (lv_at hl 1 rfl) ?_
    refine lv_aload_n hx hb dX12_cancel_10 rfl (lv_at hl 0 rfl) ?_
    refine mv_get (v := .int (S1.1 22)) hX hC 74 (Nat.le_of_ble_eq_true rfl) wd_1474 rfl dX12_cancel_11 ?_
    refine lv_icmp_ge (tgt := 29) hx hb dX12_cancel_14 (by decide) (fun c3 => ?_) (fun c3 => ?_)
    · have h := h.1 c3
      refine lv_iconst (v := 0) hx hb dX12_cancel_29 (by decide) ?_
      exact hret _ _ _ _ _ _ hC (Or.inl rfl) h dX12_cancel_30
    · have h := h.2 c3
      refine lv_aload_n hx hb dX12_cancel_17 rfl (lv_at hl 0 rfl) ?_
      refine lv_iload_n hx hb dX12_cancel_18 rfl (lv_at hl 1 rfl) ?_
      refine mv_calli [.int a0] (rest := []) hX hC (ct_cancels l S1 a0 _ h E _) (cw_X12_cancels hts (by omega) (by omega)) rfl hl.1 (Nat.le_of_ble_eq_true rfl) ⟨Nat.zero_le _, Nat.zero_le _⟩ dX12_cancel_19 (fun r4 S4 H locs hC h => ?_)
      refine lv_if_eq (tgt := 29) hx hb dX12_cancel_22 (by decide) (fun c5 => ?_) (fun c5 => ?_)
      · have h := h.1 c5
        refine lv_iconst (v := 0) hx hb dX12_cancel_29 (by decide) ?_
        exact hret _ _ _ _ _ _ hC (Or.inl rfl) h dX12_cancel_30
      · have h := h.2 c5
        refine lv_iconst (v := 1) hx hb dX12_cancel_25 (by decide) ?_
        refine lv_goto (tgt := 30) hx hb dX12_cancel_26 (by decide) ?_
        exact hret _ _ _ _ _ _ hC (Or.inr rfl) h dX12_cancel_30
def wp_isTask (a0 : Int32) (S : mS) (K : mS → Int32 → Prop) : Prop := ((a0 < 0 → K S 0) ∧ (¬ a0 < 0 → (((S.1 22) ≤ a0 → K S 0) ∧ (¬ (S.1 22) ≤ a0 → K S 1))))
set_option maxHeartbeats 4000000 in
set_option maxRecDepth 100000 in
theorem ct_isTask (l : Launch) (S : mS) (a0 : Int32) (K : mS → Int32 → Prop) (h : wp_isTask a0 S K) : mMi l yX12_isTask cX12_isTask 2 (some .boolean) 0 0 (fun E => [.int a0]) S K := by
  refine mv_ofz (by decide) rfl (fun _ => Nat.le_of_ble_eq_true rfl) ?_
  intro E p e R s m args below meth c A ls Q hRf hRl hX hC hl hret
  have hx := hX.1.1
  have hb := hX.1.2.1
  have hown := hX.1.2.2.2.1
  have hts := hX.1.2.2.2.2
  have hl : lv_has ls 2 [(0, .ref E.2.1), (1, .int a0)] := hl
  unfold wp_isTask at h
  refine lv_iload_n hx hb dX12_isTask_0 rfl (lv_at hl 1 rfl) ?_
  refine lv_if_lt (tgt := 16) hx hb dX12_isTask_1 (by decide) (fun c1 => ?_) (fun c1 => ?_)
  · have h := h.1 c1
    refine lv_iconst (v := 0) hx hb dX12_isTask_16 (by decide) ?_
    exact hret _ _ _ _ _ _ hC (Or.inl rfl) h dX12_isTask_17
  · have h := h.2 c1
    refine lv_iload_n hx hb dX12_isTask_4 rfl (lv_at hl 1 rfl) ?_
    refine lv_aload_n hx hb dX12_isTask_5 rfl (lv_at hl 0 rfl) ?_
    refine mv_get (v := .int (S.1 22)) hX hC 74 (Nat.le_of_ble_eq_true rfl) wd_1474 rfl dX12_isTask_6 ?_
    refine lv_icmp_ge (tgt := 16) hx hb dX12_isTask_9 (by decide) (fun c2 => ?_) (fun c2 => ?_)
    · have h := h.1 c2
      refine lv_iconst (v := 0) hx hb dX12_isTask_16 (by decide) ?_
      exact hret _ _ _ _ _ _ hC (Or.inl rfl) h dX12_isTask_17
    · have h := h.2 c2
      refine lv_iconst (v := 1) hx hb dX12_isTask_12 (by decide) ?_
      refine lv_goto (tgt := 17) hx hb dX12_isTask_13 (by decide) ?_
      exact hret _ _ _ _ _ _ hC (Or.inr rfl) h dX12_isTask_17
def wp_cell_41 (K : mS → Int32 → Prop) (x1 : Int32) (x2 : Int32) (y1 : Int32) (S : mS) : Prop := ∀ S9 : mS, S9 = sZ S 0 y1 → (((S9.1 0) ≤ 0 → ∀ z11 : Int32, z11 = 12 * x1 → ∀ z12 : Int32, z12 = z11 + x2 → inR z12 2400 ∧ ∀ z13 : Int32, z13 = S9.2.1 58 (ix z12) → K S9 z13) ∧ (¬ (S9.1 0) ≤ 0 → K S9 0))
def wp_cell_40 (K : mS → Int32 → Prop) (x1 : Int32) (x2 : Int32) (S : mS) : Prop := wp_cell_41 K x1 x2 1 S
def wp_cell (a0 : Int32) (a1 : Int32) (S : mS) (K : mS → Int32 → Prop) : Prop := wp_isTask a0 S (fun (S1 : mS) (r1 : Int32) => ((r1 = 0 → wp_cell_40 K a0 a1 S1) ∧ (¬ r1 = 0 → ((a1 < 0 → wp_cell_40 K a0 a1 S1) ∧ (¬ a1 < 0 → ∀ z4 : Int32, z4 = 12 * (S1.1 5) → inR a0 200 ∧ ∀ z5 : Int32, z5 = S1.2.1 51 (ix a0) → ∀ z6 : Int32, z6 = z4 + z5 → inR z6 24 ∧ ∀ z7 : Int32, z7 = S1.2.1 8 (ix z6) → ((z7 ≤ a1 → wp_cell_40 K a0 a1 S1) ∧ (¬ z7 ≤ a1 → wp_cell_41 K a0 a1 0 S1)))))))
theorem cw_X12_isTask {R : Room} {s : State} {args : Array Value} {fr lo : Nat} (hts : ∀ w ∈ tb, w.before args s = true) (h1 : fr + 1 ≤ R.frames) (h2 : 8 + (2 + 11) + lo ≤ R.locals) : CallW R s args RX12 RX12 694 yX12_isTask cX12_isTask 2 (some .boolean) (.code yX12_isTask cX12_isTask 2 (some .boolean) :: tb) (mRm fr lo) 0 0 1 := cwV 1 hts (gd_V wd_2163 wd_2165 sl_X12_isTask wd_15 wd_2166) rfl rfl rfl (by decide +kernel) ⟨h1, h2⟩
set_option maxHeartbeats 4000000 in
set_option maxRecDepth 100000 in
theorem ct_cell (l : Launch) (S : mS) (a0 : Int32) (a1 : Int32) (K : mS → Int32 → Prop) (h : wp_cell a0 a1 S K) : mMi l yX12_cell cX12_cell 3 (some .int) 1 21 (fun E => [.int a0, .int a1]) S K := by
  refine mv_ofi (by decide) rfl (fun _ => Nat.le_of_ble_eq_true rfl) ?_
  intro E p e R s m args below meth c A ls Q hRf hRl hX hC hl hret
  have hx := hX.1.1
  have hb := hX.1.2.1
  have hown := hX.1.2.2.2.1
  have hts := hX.1.2.2.2.2
  have cut41 : ∀ (x1 : Int32) (x2 : Int32) (y1 : Int32) (S : mS) (H : Heap) (locs : List Loc) (ls : Array Slot), wp_cell_41 K x1 x2 y1 S → mC E A s.heap S H locs → lv_has ls 3 [(0, .ref E.2.1), (1, .int x1), (2, .int x2)] → W p l e R s m args below meth c H locs 0 0 Q (F0 m 41 ls [.int y1, .ref E.2.1]) := by
    intro x1 x2 y1 S H locs ls h hC hl
    unfold wp_cell_41 at h
    refine mq_put (v := y1) hX hC 0 0 (Nat.le_of_ble_eq_true rfl) wd_1400 rfl rfl rfl mz_0 dX12_cell_41 h (fun S9 H locs hC h => ?_)
    refine lv_aload_n hx hb dX12_cell_44 rfl (lv_at hl 0 rfl) ?_
    refine mv_get (v := .int (S9.1 0)) hX hC 0 (Nat.le_of_ble_eq_true rfl) wd_1400 rfl dX12_cell_45 ?_
    refine lv_if_le (tgt := 55) hx hb dX12_cell_48 (by decide) (fun c10 => ?_) (fun c10 => ?_)
    · have h := h.1 c10
      refine lv_aload_n hx hb dX12_cell_55 rfl (lv_at hl 0 rfl) ?_
      refine mv_get (v := .ref (E.2.2.1 58)) hX hC 82 (Nat.le_of_ble_eq_true rfl) wd_1482 rfl dX12_cell_56 ?_
      refine lv_bipush (v := 12) hx hb dX12_cell_59 (by decide) ?_
      refine lv_iload_n hx hb dX12_cell_61 rfl (lv_at hl 1 rfl) ?_
      refine lq_imul hx hb dX12_cell_62 h (fun z11 h => ?_)
      refine lv_iload_n hx hb dX12_cell_63 rfl (lv_at hl 2 rfl) ?_
      refine lq_iadd hx hb dX12_cell_64 h (fun z12 h => ?_)
      refine mq_ild (n := 2400) hX hC 58 rfl rfl dX12_cell_65 h (fun z13 h => ?_)
      exact hret _ _ _ _ _ _ hC h dX12_cell_66
    · have h := h.2 c10
      refine lv_iconst (v := 0) hx hb dX12_cell_51 (by decide) ?_
      refine lv_goto (tgt := 66) hx hb dX12_cell_52 (by decide) ?_
      exact hret _ _ _ _ _ _ hC h dX12_cell_66
  have cut40 : ∀ (x1 : Int32) (x2 : Int32) (S : mS) (H : Heap) (locs : List Loc) (ls : Array Slot), wp_cell_40 K x1 x2 S → mC E A s.heap S H locs → lv_has ls 3 [(0, .ref E.2.1), (1, .int x1), (2, .int x2)] → W p l e R s m args below meth c H locs 0 0 Q (F0 m 40 ls [.ref E.2.1]) := by
    intro x1 x2 S H locs ls h hC hl
    unfold wp_cell_40 at h
    refine lv_iconst (v := 1) hx hb dX12_cell_40 (by decide) ?_
    exact cut41 x1 x2 1 S _ _ _ h hC (lv_sub hl [0, 1, 2] rfl)
  have hl : lv_has ls 3 [(0, .ref E.2.1), (1, .int a0), (2, .int a1)] := hl
  unfold wp_cell at h
  refine lv_aload_n hx hb dX12_cell_0 rfl (lv_at hl 0 rfl) ?_
  refine lv_aload_n hx hb dX12_cell_1 rfl (lv_at hl 0 rfl) ?_
  refine lv_iload_n hx hb dX12_cell_2 rfl (lv_at hl 1 rfl) ?_
  refine mv_calli [.int a0] (rest := [.ref E.2.1]) hX hC (ct_isTask l S a0 _ h E _) (cw_X12_isTask hts (by omega) (by omega)) rfl hl.1 (Nat.le_of_ble_eq_true rfl) ⟨Nat.zero_le _, Nat.zero_le _⟩ dX12_cell_3 (fun r1 S1 H locs hC h => ?_)
  refine lv_if_eq (tgt := 40) hx hb dX12_cell_6 (by decide) (fun c2 => ?_) (fun c2 => ?_)
  · have h := h.1 c2
    exact cut40 a0 a1 S1 _ _ _ h hC (lv_sub hl [0, 1, 2] rfl)
  · have h := h.2 c2
    refine lv_iload_n hx hb dX12_cell_9 rfl (lv_at hl 2 rfl) ?_
    refine lv_if_lt (tgt := 40) hx hb dX12_cell_10 (by decide) (fun c3 => ?_) (fun c3 => ?_)
    · have h := h.1 c3
      exact cut40 a0 a1 S1 _ _ _ h hC (lv_sub hl [0, 1, 2] rfl)
    · have h := h.2 c3
      refine lv_iload_n hx hb dX12_cell_13 rfl (lv_at hl 2 rfl) ?_
      refine lv_aload_n hx hb dX12_cell_14 rfl (lv_at hl 0 rfl) ?_
      refine mv_get (v := .ref (E.2.2.1 8)) hX hC 16 (Nat.le_of_ble_eq_true rfl) wd_1416 rfl dX12_cell_15 ?_
      refine lv_bipush (v := 12) hx hb dX12_cell_18 (by decide) ?_
      refine lv_aload_n hx hb dX12_cell_20 rfl (lv_at hl 0 rfl) ?_
      refine mv_get (v := .int (S1.1 5)) hX hC 11 (Nat.le_of_ble_eq_true rfl) wd_1411 rfl dX12_cell_21 ?_
      refine lq_imul hx hb dX12_cell_24 h (fun z4 h => ?_)
      refine lv_aload_n hx hb dX12_cell_25 rfl (lv_at hl 0 rfl) ?_
      refine mv_get (v := .ref (E.2.2.1 51)) hX hC 75 (Nat.le_of_ble_eq_true rfl) wd_1475 rfl dX12_cell_26 ?_
      refine lv_iload_n hx hb dX12_cell_29 rfl (lv_at hl 1 rfl) ?_
      refine mq_ild (n := 200) hX hC 51 rfl rfl dX12_cell_30 h (fun z5 h => ?_)
      refine lq_iadd hx hb dX12_cell_31 h (fun z6 h => ?_)
      refine mq_ild (n := 24) hX hC 8 rfl rfl dX12_cell_32 h (fun z7 h => ?_)
      refine lv_icmp_ge (tgt := 40) hx hb dX12_cell_33 (by decide) (fun c8 => ?_) (fun c8 => ?_)
      · have h := h.1 c8
        exact cut40 a0 a1 S1 _ _ _ h hC (lv_sub hl [0, 1, 2] rfl)
      · have h := h.2 c8
        refine lv_iconst (v := 0) hx hb dX12_cell_36 (by decide) ?_
        refine lv_goto (tgt := 41) hx hb dX12_cell_37 (by decide) ?_
        exact cut41 a0 a1 0 S1 _ _ _ h hC (lv_sub hl [0, 1, 2] rfl)
def wp_toFinish (a0 : Int32) (a1 : Int32) (a2 : Int32) (S : mS) (K : mS → Prop) : Prop := inR a0 2200 ∧ ∀ S1 : mS, S1 = sF S 70 (ix a0) 2 → inR a0 2200 ∧ ∀ S2 : mS, S2 = sF S1 71 (ix a0) a1 → inR a0 2200 ∧ ∀ S3 : mS, S3 = sF S2 72 (ix a0) a2 → inR a0 2200 ∧ ∀ z4 : Int32, z4 = S3.2.1 69 (ix a0) → inR z4 1000 ∧ ∀ z5 : Int32, z5 = S3.2.1 32 (ix z4) → ∀ S6 : mS, S6 = sZ S3 32 z5 → K S6
set_option maxHeartbeats 4000000 in
set_option maxRecDepth 100000 in
theorem ct_toFinish (l : Launch) (S : mS) (a0 : Int32) (a1 : Int32) (a2 : Int32) (K : mS → Prop) (h : wp_toFinish a0 a1 a2 S K) : mMv l yX12_toFinish cX12_toFinish 4 none 0 0 (fun E => [.int a0, .int a1, .int a2]) S K := by
  refine mv_ofv (by decide) rfl (fun _ => Nat.le_of_ble_eq_true rfl) ?_
  intro E p e R s m args below meth c A ls Q hRf hRl hX hC hl hret
  have hx := hX.1.1
  have hb := hX.1.2.1
  have hown := hX.1.2.2.2.1
  have hts := hX.1.2.2.2.2
  have hl : lv_has ls 4 [(0, .ref E.2.1), (1, .int a0), (2, .int a1), (3, .int a2)] := hl
  unfold wp_toFinish at h
  refine lv_aload_n hx hb dX12_toFinish_0 rfl (lv_at hl 0 rfl) ?_
  refine mv_get (v := .ref (E.2.2.1 70)) hX hC 94 (Nat.le_of_ble_eq_true rfl) wd_1494 rfl dX12_toFinish_1 ?_
  refine lv_iload_n hx hb dX12_toFinish_4 rfl (lv_at hl 1 rfl) ?_
  refine lv_iconst (v := 2) hx hb dX12_toFinish_5 (by decide) ?_
  refine mq_ist (n := 2200) (v := 2) hX hC 70 rfl rfl mf_70 dX12_toFinish_6 h.1 h.2 (fun S1 H locs hC h => ?_)
  refine lv_aload_n hx hb dX12_toFinish_7 rfl (lv_at hl 0 rfl) ?_
  refine mv_get (v := .ref (E.2.2.1 71)) hX hC 95 (Nat.le_of_ble_eq_true rfl) wd_1495 rfl dX12_toFinish_8 ?_
  refine lv_iload_n hx hb dX12_toFinish_11 rfl (lv_at hl 1 rfl) ?_
  refine lv_iload_n hx hb dX12_toFinish_12 rfl (lv_at hl 2 rfl) ?_
  refine mq_ist (n := 2200) (v := a1) hX hC 71 rfl rfl mf_71 dX12_toFinish_13 h.1 h.2 (fun S2 H locs hC h => ?_)
  refine lv_aload_n hx hb dX12_toFinish_14 rfl (lv_at hl 0 rfl) ?_
  refine mv_get (v := .ref (E.2.2.1 72)) hX hC 96 (Nat.le_of_ble_eq_true rfl) wd_1496 rfl dX12_toFinish_15 ?_
  refine lv_iload_n hx hb dX12_toFinish_18 rfl (lv_at hl 1 rfl) ?_
  refine lv_iload_n hx hb dX12_toFinish_19 rfl (lv_at hl 3 rfl) ?_
  refine mq_ist (n := 2200) (v := a2) hX hC 72 rfl rfl mf_72 dX12_toFinish_20 h.1 h.2 (fun S3 H locs hC h => ?_)
  refine lv_aload_n hx hb dX12_toFinish_21 rfl (lv_at hl 0 rfl) ?_
  refine lv_aload_n hx hb dX12_toFinish_22 rfl (lv_at hl 0 rfl) ?_
  refine mv_get (v := .ref (E.2.2.1 32)) hX hC 43 (Nat.le_of_ble_eq_true rfl) wd_1443 rfl dX12_toFinish_23 ?_
  refine lv_aload_n hx hb dX12_toFinish_26 rfl (lv_at hl 0 rfl) ?_
  refine mv_get (v := .ref (E.2.2.1 69)) hX hC 93 (Nat.le_of_ble_eq_true rfl) wd_1493 rfl dX12_toFinish_27 ?_
  refine lv_iload_n hx hb dX12_toFinish_30 rfl (lv_at hl 1 rfl) ?_
  refine mq_ild (n := 2200) hX hC 69 rfl rfl dX12_toFinish_31 h (fun z4 h => ?_)
  refine mq_ild (n := 1000) hX hC 32 rfl rfl dX12_toFinish_32 h (fun z5 h => ?_)
  refine mq_put (v := z5) hX hC 122 32 (Nat.le_of_ble_eq_true rfl) wd_1522 rfl rfl rfl mz_32 dX12_toFinish_33 h (fun S6 H locs hC h => ?_)
  exact hret _ _ _ _ _ hC h dX12_toFinish_36
def wp_raiseCancel_64 (K : mS → Prop) (k0 : mS → Prop) (S : mS) : Prop := inR (S.1 33) 200 ∧ ∀ z14 : Int32, z14 = S.2.1 68 (ix (S.1 33)) → ∀ z15 : Int32, z15 = z14 - 1 → inR (S.1 33) 200 ∧ ∀ S16 : mS, S16 = sF S 68 (ix (S.1 33)) z15 → k0 S16
def wp_raiseCancel_0 (K : mS → Prop) (k0 : mS → Prop) (S : mS) : Prop := inR (S.1 33) 200 ∧ ∀ z1 : Int32, z1 = S.2.1 68 (ix (S.1 33)) → ((z1 ≤ 0 → wq_ends (S.1 33) 22 0 S (fun (S3 : mS) => K S3)) ∧ (¬ z1 ≤ 0 → ∀ z4 : Int32, z4 = 11 * (S.1 33) → inR (S.1 33) 200 ∧ ∀ z5 : Int32, z5 = S.2.1 68 (ix (S.1 33)) → ∀ z6 : Int32, z6 = z4 + z5 → ∀ z7 : Int32, z7 = z6 - 1 → inR z7 2200 ∧ ∀ z8 : Int32, z8 = S.2.1 70 (ix z7) → ((2 ≤ z8 → wp_raiseCancel_64 K k0 S) ∧ (¬ 2 ≤ z8 → inR z7 2200 ∧ ∀ z10 : Int32, z10 = S.2.1 69 (ix z7) → inR z10 1000 ∧ ∀ z11 : Int32, z11 = S.2.1 29 (ix z10) → ((z11 = 0 → wp_raiseCancel_64 K k0 S) ∧ (¬ z11 = 0 → wp_toFinish z7 2 0 S (fun (S13 : mS) => K S13)))))))
def ls_raiseCancel_0 (K : mS → Prop) (k0 : mS → Prop) (u : mS) : Prop := wp_raiseCancel_0 K k0 u
def wp_raiseCancel (S : mS) (K : mS → Prop) : Prop := (∃ n9, it (ls_raiseCancel_0 K) n9 S)
theorem cw_X12_toFinish {R : Room} {s : State} {args : Array Value} {fr lo : Nat} (hts : ∀ w ∈ tb, w.before args s = true) (h1 : fr + 1 ≤ R.frames) (h2 : 8 + (4 + 11) + lo ≤ R.locals) : CallW R s args RX12 RX12 666 yX12_toFinish cX12_toFinish 4 none (.code yX12_toFinish cX12_toFinish 4 none :: tb) (mRm fr lo) 0 0 3 := cwV 3 hts (gd_V wd_2058 wd_2060 sl_X12_toFinish wd_15 wd_2061) rfl rfl rfl (by decide +kernel) ⟨h1, h2⟩
set_option maxHeartbeats 4000000 in
set_option maxRecDepth 100000 in
theorem ct_raiseCancel (l : Launch) (S : mS) (K : mS → Prop) (h : wp_raiseCancel S K) : mMv l yX12_raiseCancel cX12_raiseCancel 2 none 695 16682 (fun E => []) S K := by
  refine mv_ofv (by decide) rfl (fun _ => Nat.le_of_ble_eq_true rfl) ?_
  intro E p e R s m args below meth c A ls Q hRf hRl hX hC hl hret
  have hx := hX.1.1
  have hb := hX.1.2.1
  have hown := hX.1.2.2.2.1
  have hts := hX.1.2.2.2.2
  have cut0 : ∀ (n0 : Nat) (S : mS) (H : Heap) (locs : List Loc) (ls : Array Slot), it (ls_raiseCancel_0 K) n0 S → mC E A s.heap S H locs → lv_has ls 2 [(0, .ref E.2.1)] → W p l e R s m args below meth c H locs 0 0 Q (F0 m 0 ls []) := by
    intro n0
    induction n0 with
    | zero => intro S H locs ls h hC hl; exact h.elim
    | succ n0 ih0 =>
      have cut64 : ∀ (S : mS) (H : Heap) (locs : List Loc) (ls : Array Slot), wp_raiseCancel_64 K (it (ls_raiseCancel_0 K) n0) S → mC E A s.heap S H locs → lv_has ls 2 [(0, .ref E.2.1)] → W p l e R s m args below meth c H locs 0 0 Q (F0 m 64 ls []) := by
        intro S H locs ls h hC hl
        unfold wp_raiseCancel_64 at h
        refine lv_aload_n hx hb dX12_raiseCancel_64 rfl (lv_at hl 0 rfl) ?_
        refine mv_get (v := .ref (E.2.2.1 68)) hX hC 92 (Nat.le_of_ble_eq_true rfl) wd_1492 rfl dX12_raiseCancel_65 ?_
        refine lv_aload_n hx hb dX12_raiseCancel_68 rfl (lv_at hl 0 rfl) ?_
        refine mv_get (v := .int (S.1 33)) hX hC 123 (Nat.le_of_ble_eq_true rfl) wd_1523 rfl dX12_raiseCancel_69 ?_
        refine lv_dup2_11 hx hb dX12_raiseCancel_72 rfl rfl ?_
        refine mq_ild (n := 200) hX hC 68 rfl rfl dX12_raiseCancel_73 h (fun z14 h => ?_)
        refine lv_iconst (v := 1) hx hb dX12_raiseCancel_74 (by decide) ?_
        refine lq_isub hx hb dX12_raiseCancel_75 h (fun z15 h => ?_)
        refine mq_ist (n := 200) (v := z15) hX hC 68 rfl rfl mf_68 dX12_raiseCancel_76 h.1 h.2 (fun S16 H locs hC h => ?_)
        refine lv_goto (tgt := 0) hx hb dX12_raiseCancel_77 (by decide) ?_
        exact ih0 S16 _ _ _ h hC (lv_sub hl [0] rfl)
      intro S H locs ls h hC hl
      have h : wp_raiseCancel_0 K (it (ls_raiseCancel_0 K) n0) S := h
      unfold wp_raiseCancel_0 at h
      refine lv_aload_n hx hb dX12_raiseCancel_0 rfl (lv_at hl 0 rfl) ?_
      refine mv_get (v := .ref (E.2.2.1 68)) hX hC 92 (Nat.le_of_ble_eq_true rfl) wd_1492 rfl dX12_raiseCancel_1 ?_
      refine lv_aload_n hx hb dX12_raiseCancel_4 rfl (lv_at hl 0 rfl) ?_
      refine mv_get (v := .int (S.1 33)) hX hC 123 (Nat.le_of_ble_eq_true rfl) wd_1523 rfl dX12_raiseCancel_5 ?_
      refine mq_ild (n := 200) hX hC 68 rfl rfl dX12_raiseCancel_8 h (fun z1 h => ?_)
      refine lv_if_le (tgt := 80) hx hb dX12_raiseCancel_9 (by decide) (fun c2 => ?_) (fun c2 => ?_)
      · have h := h.1 c2
        refine lv_aload_n hx hb dX12_raiseCancel_80 rfl (lv_at hl 0 rfl) ?_
        refine lv_aload_n hx hb dX12_raiseCancel_81 rfl (lv_at hl 0 rfl) ?_
        refine mv_get (v := .int (S.1 33)) hX hC 123 (Nat.le_of_ble_eq_true rfl) wd_1523 rfl dX12_raiseCancel_82 ?_
        refine lv_bipush (v := 22) hx hb dX12_raiseCancel_85 (by decide) ?_
        refine lv_iconst (v := 0) hx hb dX12_raiseCancel_87 (by decide) ?_
        refine mv_callv [.int (S.1 33), .int 22, .int 0] (rest := []) hX hC (ct_ends l S (S.1 33) 22 0 _ h E _) (cw_X12_ends hts (by omega) (by omega)) rfl hl.1 (Nat.le_of_ble_eq_true rfl) ⟨Nat.zero_le _, Nat.zero_le _⟩ dX12_raiseCancel_88 (fun S3 H locs hC h => ?_)
        exact hret _ _ _ _ _ hC h dX12_raiseCancel_91
      · have h := h.2 c2
        refine lv_bipush (v := 11) hx hb dX12_raiseCancel_12 (by decide) ?_
        refine lv_aload_n hx hb dX12_raiseCancel_14 rfl (lv_at hl 0 rfl) ?_
        refine mv_get (v := .int (S.1 33)) hX hC 123 (Nat.le_of_ble_eq_true rfl) wd_1523 rfl dX12_raiseCancel_15 ?_
        refine lq_imul hx hb dX12_raiseCancel_18 h (fun z4 h => ?_)
        refine lv_aload_n hx hb dX12_raiseCancel_19 rfl (lv_at hl 0 rfl) ?_
        refine mv_get (v := .ref (E.2.2.1 68)) hX hC 92 (Nat.le_of_ble_eq_true rfl) wd_1492 rfl dX12_raiseCancel_20 ?_
        refine lv_aload_n hx hb dX12_raiseCancel_23 rfl (lv_at hl 0 rfl) ?_
        refine mv_get (v := .int (S.1 33)) hX hC 123 (Nat.le_of_ble_eq_true rfl) wd_1523 rfl dX12_raiseCancel_24 ?_
        refine mq_ild (n := 200) hX hC 68 rfl rfl dX12_raiseCancel_27 h (fun z5 h => ?_)
        refine lq_iadd hx hb dX12_raiseCancel_28 h (fun z6 h => ?_)
        refine lv_iconst (v := 1) hx hb dX12_raiseCancel_29 (by decide) ?_
        refine lq_isub hx hb dX12_raiseCancel_30 h (fun z7 h => ?_)
        refine lv_istore_n (lv' := [(1, .int z7), (0, .ref E.2.1)]) hx hb dX12_raiseCancel_31 rfl hl (by decide) rfl (fun ls hl => ?_)
        refine lv_aload_n hx hb dX12_raiseCancel_32 rfl (lv_at hl 1 rfl) ?_
        refine mv_get (v := .ref (E.2.2.1 70)) hX hC 94 (Nat.le_of_ble_eq_true rfl) wd_1494 rfl dX12_raiseCancel_33 ?_
        refine lv_iload_n hx hb dX12_raiseCancel_36 rfl (lv_at hl 0 rfl) ?_
        refine mq_ild (n := 2200) hX hC 70 rfl rfl dX12_raiseCancel_37 h (fun z8 h => ?_)
        refine lv_iconst (v := 2) hx hb dX12_raiseCancel_38 (by decide) ?_
        refine lv_icmp_ge (tgt := 64) hx hb dX12_raiseCancel_39 (by decide) (fun c9 => ?_) (fun c9 => ?_)
        · have h := h.1 c9
          exact cut64 S _ _ _ h hC (lv_sub hl [1] rfl)
        · have h := h.2 c9
          refine lv_aload_n hx hb dX12_raiseCancel_42 rfl (lv_at hl 1 rfl) ?_
          refine mv_get (v := .ref (E.2.2.1 29)) hX hC 40 (Nat.le_of_ble_eq_true rfl) wd_1440 rfl dX12_raiseCancel_43 ?_
          refine lv_aload_n hx hb dX12_raiseCancel_46 rfl (lv_at hl 1 rfl) ?_
          refine mv_get (v := .ref (E.2.2.1 69)) hX hC 93 (Nat.le_of_ble_eq_true rfl) wd_1493 rfl dX12_raiseCancel_47 ?_
          refine lv_iload_n hx hb dX12_raiseCancel_50 rfl (lv_at hl 0 rfl) ?_
          refine mq_ild (n := 2200) hX hC 69 rfl rfl dX12_raiseCancel_51 h (fun z10 h => ?_)
          refine mq_zld (n := 1000) hX hC 29 rfl rfl dX12_raiseCancel_52 h (fun z11 h => ?_)
          refine lv_if_eq (tgt := 64) hx hb dX12_raiseCancel_53 (by decide) (fun c12 => ?_) (fun c12 => ?_)
          · have h := h.1 c12
            exact cut64 S _ _ _ h hC (lv_sub hl [1] rfl)
          · have h := h.2 c12
            refine lv_aload_n hx hb dX12_raiseCancel_56 rfl (lv_at hl 1 rfl) ?_
            refine lv_iload_n hx hb dX12_raiseCancel_57 rfl (lv_at hl 0 rfl) ?_
            refine lv_iconst (v := 2) hx hb dX12_raiseCancel_58 (by decide) ?_
            refine lv_iconst (v := 0) hx hb dX12_raiseCancel_59 (by decide) ?_
            refine mv_callv [.int z7, .int 2, .int 0] (rest := []) hX hC (ct_toFinish l S z7 2 0 _ h E _) (cw_X12_toFinish hts (by omega) (by omega)) rfl hl.1 (Nat.le_of_ble_eq_true rfl) ⟨Nat.zero_le _, Nat.zero_le _⟩ dX12_raiseCancel_60 (fun S13 H locs hC h => ?_)
            exact hret _ _ _ _ _ hC h dX12_raiseCancel_63
  have hl : lv_has ls 2 [(0, .ref E.2.1)] := hl
  unfold wp_raiseCancel at h
  obtain ⟨n9, h⟩ := h
  exact cut0 n9 S _ _ _ h hC (lv_sub hl [0] rfl)
