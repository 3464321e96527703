theorem wd_2074 : (Jvm.Cond.constant "SleepersModel" (599 : Nat) (100000 : Int32)) ∈ tb := tb_at 2074 (by decide +kernel) (by decide +kernel)
theorem wd_2079 : (Jvm.Cond.methodLink "SleepersModel" (627 : Nat) ({ cls := "SleepersModel", name := "pop", desc := "()I" } : Jvm.MethodName)) ∈ tb := tb_at 2079 (by decide +kernel) (by decide +kernel)
theorem wd_2081 : (Jvm.Cond.instanceMethod ({ cls := "SleepersModel", name := "pop", desc := "()I" } : Jvm.MethodName)) ∈ tb := tb_at 2081 (by decide +kernel) (by decide +kernel)
theorem wd_2082 : (Jvm.Cond.code ({ cls := "SleepersModel", name := "pop", desc := "()I" } : Jvm.MethodName) prog_14_method_75_code (1 : Nat) (Option.some Jvm.ClassFile.FieldType.int)) ∈ tb := tb_at 2082 (by decide +kernel) (by decide +kernel)
theorem wd_2107 : (Jvm.Cond.methodLink "SleepersModel" (675 : Nat) ({ cls := "SleepersModel", name := "letterNode", desc := "(I)V" } : Jvm.MethodName)) ∈ tb := tb_at 2107 (by decide +kernel) (by decide +kernel)
theorem wd_2109 : (Jvm.Cond.instanceMethod ({ cls := "SleepersModel", name := "letterNode", desc := "(I)V" } : Jvm.MethodName)) ∈ tb := tb_at 2109 (by decide +kernel) (by decide +kernel)
theorem wd_2110 : (Jvm.Cond.code ({ cls := "SleepersModel", name := "letterNode", desc := "(I)V" } : Jvm.MethodName) prog_14_method_91_code (4 : Nat) (Option.none : Option Jvm.ClassFile.FieldType)) ∈ tb := tb_at 2110 (by decide +kernel) (by decide +kernel)
theorem wd_2115 : (Jvm.Cond.methodLink "SleepersModel" (678 : Nat) ({ cls := "SleepersModel", name := "tickNode", desc := "(I)V" } : Jvm.MethodName)) ∈ tb := tb_at 2115 (by decide +kernel) (by decide +kernel)
theorem wd_2117 : (Jvm.Cond.instanceMethod ({ cls := "SleepersModel", name := "tickNode", desc := "(I)V" } : Jvm.MethodName)) ∈ tb := tb_at 2117 (by decide +kernel) (by decide +kernel)
theorem wd_2118 : (Jvm.Cond.code ({ cls := "SleepersModel", name := "tickNode", desc := "(I)V" } : Jvm.MethodName) prog_14_method_89_code (3 : Nat) (Option.none : Option Jvm.ClassFile.FieldType)) ∈ tb := tb_at 2118 (by decide +kernel) (by decide +kernel)
theorem wd_2119 : (Jvm.Cond.methodLink "SleepersModel" (681 : Nat) ({ cls := "SleepersModel", name := "childNode", desc := "(II)V" } : Jvm.MethodName)) ∈ tb := tb_at 2119 (by decide +kernel) (by decide +kernel)
theorem wd_2121 : (Jvm.Cond.instanceMethod ({ cls := "SleepersModel", name := "childNode", desc := "(II)V" } : Jvm.MethodName)) ∈ tb := tb_at 2121 (by decide +kernel) (by decide +kernel)
theorem wd_2122 : (Jvm.Cond.code ({ cls := "SleepersModel", name := "childNode", desc := "(II)V" } : Jvm.MethodName) prog_14_method_92_code (6 : Nat) (Option.none : Option Jvm.ClassFile.FieldType)) ∈ tb := tb_at 2122 (by decide +kernel) (by decide +kernel)
theorem wd_2131 : (Jvm.Cond.methodLink "SleepersModel" (684 : Nat) ({ cls := "SleepersModel", name := "shuts", desc := "()V" } : Jvm.MethodName)) ∈ tb := tb_at 2131 (by decide +kernel) (by decide +kernel)
theorem wd_2133 : (Jvm.Cond.instanceMethod ({ cls := "SleepersModel", name := "shuts", desc := "()V" } : Jvm.MethodName)) ∈ tb := tb_at 2133 (by decide +kernel) (by decide +kernel)
theorem wd_2134 : (Jvm.Cond.code ({ cls := "SleepersModel", name := "shuts", desc := "()V" } : Jvm.MethodName) prog_14_method_93_code (2 : Nat) (Option.none : Option Jvm.ClassFile.FieldType)) ∈ tb := tb_at 2134 (by decide +kernel) (by decide +kernel)
theorem wd_2139 : (Jvm.Cond.methodLink "SleepersModel" (651 : Nat) ({ cls := "SleepersModel", name := "push", desc := "(I)V" } : Jvm.MethodName)) ∈ tb := tb_at 2139 (by decide +kernel) (by decide +kernel)
theorem wd_2141 : (Jvm.Cond.instanceMethod ({ cls := "SleepersModel", name := "push", desc := "(I)V" } : Jvm.MethodName)) ∈ tb := tb_at 2141 (by decide +kernel) (by decide +kernel)
theorem wd_2142 : (Jvm.Cond.code ({ cls := "SleepersModel", name := "push", desc := "(I)V" } : Jvm.MethodName) prog_14_method_74_code (2 : Nat) (Option.none : Option Jvm.ClassFile.FieldType)) ∈ tb := tb_at 2142 (by decide +kernel) (by decide +kernel)
theorem sl_X12_childNode : Cond.selects RX12 yX12_childNode yX12_childNode ∈ tb := sl_of (y := ⟨"SleepersModel", "childNode", "(II)V"⟩) (n := 128) (by decide +kernel) (by decide +kernel)
theorem sl_X12_letterNode : Cond.selects RX12 yX12_letterNode yX12_letterNode ∈ tb := sl_of (y := ⟨"SleepersModel", "letterNode", "(I)V"⟩) (n := 128) (by decide +kernel) (by decide +kernel)
theorem sl_X12_pop : Cond.selects RX12 yX12_pop yX12_pop ∈ tb := sl_of (y := ⟨"SleepersModel", "pop", "()I"⟩) (n := 128) (by decide +kernel) (by decide +kernel)
theorem sl_X12_push : Cond.selects RX12 yX12_push yX12_push ∈ tb := sl_of (y := ⟨"SleepersModel", "push", "(I)V"⟩) (n := 128) (by decide +kernel) (by decide +kernel)
theorem sl_X12_shuts : Cond.selects RX12 yX12_shuts yX12_shuts ∈ tb := sl_of (y := ⟨"SleepersModel", "shuts", "()V"⟩) (n := 128) (by decide +kernel) (by decide +kernel)
theorem sl_X12_tickNode : Cond.selects RX12 yX12_tickNode yX12_tickNode ∈ tb := sl_of (y := ⟨"SleepersModel", "tickNode", "(I)V"⟩) (n := 128) (by decide +kernel) (by decide +kernel)
theorem dX12_reckons_0 : decode cX12_reckons 0 = .ok (.iload_n 1, 1) := by decide +kernel
theorem dX12_reckons_1 : decode cX12_reckons 1 = .ok (.iconst 2, 1) := by decide +kernel
theorem dX12_reckons_2 : decode cX12_reckons 2 = .ok (.if_icmp .eq 13, 3) := by decide +kernel
theorem dX12_reckons_5 : decode cX12_reckons 5 = .ok (.iload_n 1, 1) := by decide +kernel
theorem dX12_reckons_6 : decode cX12_reckons 6 = .ok (.iconst 3, 1) := by decide +kernel
theorem dX12_reckons_7 : decode cX12_reckons 7 = .ok (.if_icmp .eq 8, 3) := by decide +kernel
theorem dX12_reckons_10 : decode cX12_reckons 10 = .ok (.iload_n 1, 1) := by decide +kernel
theorem dX12_reckons_11 : decode cX12_reckons 11 = .ok (.iconst 4, 1) := by decide +kernel
theorem dX12_reckons_12 : decode cX12_reckons 12 = .ok (.if_icmp .ne 45, 3) := by decide +kernel
theorem dX12_reckons_15 : decode cX12_reckons 15 = .ok (.aload_n 0, 1) := by decide +kernel
theorem dX12_reckons_16 : decode cX12_reckons 16 = .ok (.iload_n 1, 1) := by decide +kernel
theorem dX12_reckons_17 : decode cX12_reckons 17 = .ok (.iconst 2, 1) := by decide +kernel
theorem dX12_reckons_18 : decode cX12_reckons 18 = .ok (.if_icmp .ne 7, 3) := by decide +kernel
theorem dX12_reckons_21 : decode cX12_reckons 21 = .ok (.iload_n 2, 1) := by decide +kernel
theorem dX12_reckons_22 : decode cX12_reckons 22 = .ok (.goto 29, 3) := by decide +kernel
theorem dX12_reckons_25 : decode cX12_reckons 25 = .ok (.iload_n 1, 1) := by decide +kernel
theorem dX12_reckons_26 : decode cX12_reckons 26 = .ok (.iconst 3, 1) := by decide +kernel
theorem dX12_reckons_27 : decode cX12_reckons 27 = .ok (.if_icmp .ne 20, 3) := by decide +kernel
theorem dX12_reckons_30 : decode cX12_reckons 30 = .ok (.aload_n 0, 1) := by decide +kernel
theorem dX12_reckons_31 : decode cX12_reckons 31 = .ok (.getfield 207, 3) := by decide +kernel
theorem dX12_reckons_34 : decode cX12_reckons 34 = .ok (.bipush 12, 2) := by decide +kernel
theorem dX12_reckons_36 : decode cX12_reckons 36 = .ok (.aload_n 0, 1) := by decide +kernel
theorem dX12_reckons_37 : decode cX12_reckons 37 = .ok (.getfield 600, 3) := by decide +kernel
theorem dX12_reckons_40 : decode cX12_reckons 40 = .ok (.imul, 1) := by decide +kernel
theorem dX12_reckons_41 : decode cX12_reckons 41 = .ok (.iload_n 2, 1) := by decide +kernel
theorem dX12_reckons_42 : decode cX12_reckons 42 = .ok (.iadd, 1) := by decide +kernel
theorem dX12_reckons_43 : decode cX12_reckons 43 = .ok (.iaload, 1) := by decide +kernel
theorem dX12_reckons_44 : decode cX12_reckons 44 = .ok (.goto 7, 3) := by decide +kernel
theorem dX12_reckons_47 : decode cX12_reckons 47 = .ok (.aload_n 0, 1) := by decide +kernel
theorem dX12_reckons_48 : decode cX12_reckons 48 = .ok (.getfield 548, 3) := by decide +kernel
theorem dX12_reckons_51 : decode cX12_reckons 51 = .ok (.invokevirtual 651, 3) := by decide +kernel
theorem dX12_reckons_54 : decode cX12_reckons 54 = .ok (.goto 154, 3) := by decide +kernel
theorem dX12_reckons_57 : decode cX12_reckons 57 = .ok (.iload_n 1, 1) := by decide +kernel
theorem dX12_reckons_58 : decode cX12_reckons 58 = .ok (.iconst 5, 1) := by decide +kernel
theorem dX12_reckons_59 : decode cX12_reckons 59 = .ok (.if_icmp .ne 15, 3) := by decide +kernel
theorem dX12_reckons_62 : decode cX12_reckons 62 = .ok (.aload_n 0, 1) := by decide +kernel
theorem dX12_reckons_63 : decode cX12_reckons 63 = .ok (.aload_n 0, 1) := by decide +kernel
theorem dX12_reckons_64 : decode cX12_reckons 64 = .ok (.invokevirtual 627, 3) := by decide +kernel
theorem dX12_reckons_67 : decode cX12_reckons 67 = .ok (.ineg, 1) := by decide +kernel
theorem dX12_reckons_68 : decode cX12_reckons 68 = .ok (.invokevirtual 651, 3) := by decide +kernel
theorem dX12_reckons_71 : decode cX12_reckons 71 = .ok (.goto 137, 3) := by decide +kernel
theorem dX12_reckons_74 : decode cX12_reckons 74 = .ok (.aload_n 0, 1) := by decide +kernel
theorem dX12_reckons_75 : decode cX12_reckons 75 = .ok (.invokevirtual 627, 3) := by decide +kernel
theorem dX12_reckons_78 : decode cX12_reckons 78 = .ok (.istore_n 3, 1) := by decide +kernel
theorem dX12_reckons_79 : decode cX12_reckons 79 = .ok (.aload_n 0, 1) := by decide +kernel
theorem dX12_reckons_80 : decode cX12_reckons 80 = .ok (.invokevirtual 627, 3) := by decide +kernel
theorem dX12_reckons_83 : decode cX12_reckons 83 = .ok (.istore 4, 2) := by decide +kernel
theorem dX12_reckons_85 : decode cX12_reckons 85 = .ok (.iload_n 1, 1) := by decide +kernel
theorem dX12_reckons_86 : decode cX12_reckons 86 = .ok (.bipush 7, 2) := by decide +kernel
theorem dX12_reckons_88 : decode cX12_reckons 88 = .ok (.if_icmp .eq 9, 3) := by decide +kernel
theorem dX12_reckons_91 : decode cX12_reckons 91 = .ok (.iload_n 1, 1) := by decide +kernel
theorem dX12_reckons_92 : decode cX12_reckons 92 = .ok (.bipush 8, 2) := by decide +kernel
theorem dX12_reckons_94 : decode cX12_reckons 94 = .ok (.if_icmp .ne 14, 3) := by decide +kernel
theorem dX12_reckons_97 : decode cX12_reckons 97 = .ok (.iload_n 3, 1) := by decide +kernel
theorem dX12_reckons_98 : decode cX12_reckons 98 = .ok (.ifCond .ne 10, 3) := by decide +kernel
theorem dX12_reckons_101 : decode cX12_reckons 101 = .ok (.aload_n 0, 1) := by decide +kernel
theorem dX12_reckons_102 : decode cX12_reckons 102 = .ok (.bipush 11, 2) := by decide +kernel
theorem dX12_reckons_104 : decode cX12_reckons 104 = .ok (.invokevirtual 654, 3) := by decide +kernel
theorem dX12_reckons_107 : decode cX12_reckons 107 = .ok (.return_, 1) := by decide +kernel
theorem dX12_reckons_108 : decode cX12_reckons 108 = .ok (.aload_n 0, 1) := by decide +kernel
theorem dX12_reckons_109 : decode cX12_reckons 109 = .ok (.iload_n 1, 1) := by decide +kernel
theorem dX12_reckons_110 : decode cX12_reckons 110 = .ok (.bipush 6, 2) := by decide +kernel
theorem dX12_reckons_112 : decode cX12_reckons 112 = .ok (.if_icmp .ne 10, 3) := by decide +kernel
theorem dX12_reckons_115 : decode cX12_reckons 115 = .ok (.iload 4, 2) := by decide +kernel
theorem dX12_reckons_117 : decode cX12_reckons 117 = .ok (.iload_n 3, 1) := by decide +kernel
theorem dX12_reckons_118 : decode cX12_reckons 118 = .ok (.imul, 1) := by decide +kernel
theorem dX12_reckons_119 : decode cX12_reckons 119 = .ok (.goto 86, 3) := by decide +kernel
theorem dX12_reckons_122 : decode cX12_reckons 122 = .ok (.iload_n 1, 1) := by decide +kernel
theorem dX12_reckons_123 : decode cX12_reckons 123 = .ok (.bipush 7, 2) := by decide +kernel
theorem dX12_reckons_125 : decode cX12_reckons 125 = .ok (.if_icmp .ne 10, 3) := by decide +kernel
theorem dX12_reckons_128 : decode cX12_reckons 128 = .ok (.iload 4, 2) := by decide +kernel
theorem dX12_reckons_130 : decode cX12_reckons 130 = .ok (.iload_n 3, 1) := by decide +kernel
theorem dX12_reckons_131 : decode cX12_reckons 131 = .ok (.idiv, 1) := by decide +kernel
theorem dX12_reckons_132 : decode cX12_reckons 132 = .ok (.goto 73, 3) := by decide +kernel
theorem dX12_reckons_135 : decode cX12_reckons 135 = .ok (.iload_n 1, 1) := by decide +kernel
theorem dX12_reckons_136 : decode cX12_reckons 136 = .ok (.bipush 8, 2) := by decide +kernel
theorem dX12_reckons_138 : decode cX12_reckons 138 = .ok (.if_icmp .ne 10, 3) := by decide +kernel
theorem dX12_reckons_141 : decode cX12_reckons 141 = .ok (.iload 4, 2) := by decide +kernel
theorem dX12_reckons_143 : decode cX12_reckons 143 = .ok (.iload_n 3, 1) := by decide +kernel
theorem dX12_reckons_144 : decode cX12_reckons 144 = .ok (.irem, 1) := by decide +kernel
theorem dX12_reckons_145 : decode cX12_reckons 145 = .ok (.goto 60, 3) := by decide +kernel
theorem dX12_reckons_148 : decode cX12_reckons 148 = .ok (.iload_n 1, 1) := by decide +kernel
theorem dX12_reckons_149 : decode cX12_reckons 149 = .ok (.bipush 9, 2) := by decide +kernel
theorem dX12_reckons_151 : decode cX12_reckons 151 = .ok (.if_icmp .ne 10, 3) := by decide +kernel
theorem dX12_reckons_154 : decode cX12_reckons 154 = .ok (.iload 4, 2) := by decide +kernel
theorem dX12_reckons_156 : decode cX12_reckons 156 = .ok (.iload_n 3, 1) := by decide +kernel
theorem dX12_reckons_157 : decode cX12_reckons 157 = .ok (.iadd, 1) := by decide +kernel
theorem dX12_reckons_158 : decode cX12_reckons 158 = .ok (.goto 47, 3) := by decide +kernel
theorem dX12_reckons_161 : decode cX12_reckons 161 = .ok (.iload_n 1, 1) := by decide +kernel
theorem dX12_reckons_162 : decode cX12_reckons 162 = .ok (.bipush 10, 2) := by decide +kernel
theorem dX12_reckons_164 : decode cX12_reckons 164 = .ok (.if_icmp .ne 10, 3) := by decide +kernel
theorem dX12_reckons_167 : decode cX12_reckons 167 = .ok (.iload 4, 2) := by decide +kernel
theorem dX12_reckons_169 : decode cX12_reckons 169 = .ok (.iload_n 3, 1) := by decide +kernel
theorem dX12_reckons_170 : decode cX12_reckons 170 = .ok (.isub, 1) := by decide +kernel
theorem dX12_reckons_171 : decode cX12_reckons 171 = .ok (.goto 34, 3) := by decide +kernel
theorem dX12_reckons_174 : decode cX12_reckons 174 = .ok (.iload_n 1, 1) := by decide +kernel
theorem dX12_reckons_175 : decode cX12_reckons 175 = .ok (.bipush 11, 2) := by decide +kernel
theorem dX12_reckons_177 : decode cX12_reckons 177 = .ok (.if_icmp .ne 17, 3) := by decide +kernel
theorem dX12_reckons_180 : decode cX12_reckons 180 = .ok (.iload 4, 2) := by decide +kernel
theorem dX12_reckons_182 : decode cX12_reckons 182 = .ok (.iload_n 3, 1) := by decide +kernel
theorem dX12_reckons_183 : decode cX12_reckons 183 = .ok (.if_icmp .ge 7, 3) := by decide +kernel
theorem dX12_reckons_186 : decode cX12_reckons 186 = .ok (.iconst 1, 1) := by decide +kernel
theorem dX12_reckons_187 : decode cX12_reckons 187 = .ok (.goto 18, 3) := by decide +kernel
theorem dX12_reckons_190 : decode cX12_reckons 190 = .ok (.iconst 0, 1) := by decide +kernel
theorem dX12_reckons_191 : decode cX12_reckons 191 = .ok (.goto 14, 3) := by decide +kernel
theorem dX12_reckons_194 : decode cX12_reckons 194 = .ok (.iload 4, 2) := by decide +kernel
theorem dX12_reckons_196 : decode cX12_reckons 196 = .ok (.iload_n 3, 1) := by decide +kernel
theorem dX12_reckons_197 : decode cX12_reckons 197 = .ok (.if_icmp .ne 7, 3) := by decide +kernel
theorem dX12_reckons_200 : decode cX12_reckons 200 = .ok (.iconst 1, 1) := by decide +kernel
theorem dX12_reckons_201 : decode cX12_reckons 201 = .ok (.goto 4, 3) := by decide +kernel
theorem dX12_reckons_204 : decode cX12_reckons 204 = .ok (.iconst 0, 1) := by decide +kernel
theorem dX12_reckons_205 : decode cX12_reckons 205 = .ok (.invokevirtual 651, 3) := by decide +kernel
theorem dX12_reckons_208 : decode cX12_reckons 208 = .ok (.return_, 1) := by decide +kernel
theorem dX12_shuts_0 : decode cX12_shuts 0 = .ok (.aload_n 0, 1) := by decide +kernel
theorem dX12_shuts_1 : decode cX12_shuts 1 = .ok (.getfield 669, 3) := by decide +kernel
theorem dX12_shuts_4 : decode cX12_shuts 4 = .ok (.istore_n 1, 1) := by decide +kernel
theorem dX12_shuts_5 : decode cX12_shuts 5 = .ok (.aload_n 0, 1) := by decide +kernel
theorem dX12_shuts_6 : decode cX12_shuts 6 = .ok (.getfield 274, 3) := by decide +kernel
theorem dX12_shuts_9 : decode cX12_shuts 9 = .ok (.iload_n 1, 1) := by decide +kernel
theorem dX12_shuts_10 : decode cX12_shuts 10 = .ok (.iaload, 1) := by decide +kernel
theorem dX12_shuts_11 : decode cX12_shuts 11 = .ok (.iconst 2, 1) := by decide +kernel
theorem dX12_shuts_12 : decode cX12_shuts 12 = .ok (.if_icmp .ne 14, 3) := by decide +kernel
theorem dX12_shuts_15 : decode cX12_shuts 15 = .ok (.aload_n 0, 1) := by decide +kernel
theorem dX12_shuts_16 : decode cX12_shuts 16 = .ok (.aload_n 0, 1) := by decide +kernel
theorem dX12_shuts_17 : decode cX12_shuts 17 = .ok (.getfield 292, 3) := by decide +kernel
theorem dX12_shuts_20 : decode cX12_shuts 20 = .ok (.iload_n 1, 1) := by decide +kernel
theorem dX12_shuts_21 : decode cX12_shuts 21 = .ok (.laload, 1) := by decide +kernel
theorem dX12_shuts_22 : decode cX12_shuts 22 = .ok (.l2i, 1) := by decide +kernel
theorem dX12_shuts_23 : decode cX12_shuts 23 = .ok (.invokevirtual 678, 3) := by decide +kernel
theorem dX12_shuts_26 : decode cX12_shuts 26 = .ok (.aload_n 0, 1) := by decide +kernel
theorem dX12_shuts_27 : decode cX12_shuts 27 = .ok (.getfield 280, 3) := by decide +kernel
theorem dX12_shuts_30 : decode cX12_shuts 30 = .ok (.iload_n 1, 1) := by decide +kernel
theorem dX12_shuts_31 : decode cX12_shuts 31 = .ok (.aload_n 0, 1) := by decide +kernel
theorem dX12_shuts_32 : decode cX12_shuts 32 = .ok (.getfield 560, 3) := by decide +kernel
theorem dX12_shuts_35 : decode cX12_shuts 35 = .ok (.iastore, 1) := by decide +kernel
theorem dX12_shuts_36 : decode cX12_shuts 36 = .ok (.aload_n 0, 1) := by decide +kernel
theorem dX12_shuts_37 : decode cX12_shuts 37 = .ok (.aload_n 0, 1) := by decide +kernel
theorem dX12_shuts_38 : decode cX12_shuts 38 = .ok (.getfield 277, 3) := by decide +kernel
theorem dX12_shuts_41 : decode cX12_shuts 41 = .ok (.iload_n 1, 1) := by decide +kernel
theorem dX12_shuts_42 : decode cX12_shuts 42 = .ok (.iaload, 1) := by decide +kernel
theorem dX12_shuts_43 : decode cX12_shuts 43 = .ok (.putfield 669, 3) := by decide +kernel
theorem dX12_shuts_46 : decode cX12_shuts 46 = .ok (.aload_n 0, 1) := by decide +kernel
theorem dX12_shuts_47 : decode cX12_shuts 47 = .ok (.iload_n 1, 1) := by decide +kernel
theorem dX12_shuts_48 : decode cX12_shuts 48 = .ok (.invokevirtual 578, 3) := by decide +kernel
theorem dX12_shuts_51 : decode cX12_shuts 51 = .ok (.return_, 1) := by decide +kernel
theorem dX12_spent_0 : decode cX12_spent 0 = .ok (.aload_n 0, 1) := by decide +kernel
theorem dX12_spent_1 : decode cX12_spent 1 = .ok (.getfield 606, 3) := by decide +kernel
theorem dX12_spent_4 : decode cX12_spent 4 = .ok (.ifCond .eq 15, 3) := by decide +kernel
theorem dX12_spent_7 : decode cX12_spent 7 = .ok (.aload_n 0, 1) := by decide +kernel
theorem dX12_spent_8 : decode cX12_spent 8 = .ok (.aload_n 0, 1) := by decide +kernel
theorem dX12_spent_9 : decode cX12_spent 9 = .ok (.getfield 657, 3) := by decide +kernel
theorem dX12_spent_12 : decode cX12_spent 12 = .ok (.aload_n 0, 1) := by decide +kernel
theorem dX12_spent_13 : decode cX12_spent 13 = .ok (.getfield 560, 3) := by decide +kernel
theorem dX12_spent_16 : decode cX12_spent 16 = .ok (.invokevirtual 581, 3) := by decide +kernel
theorem dX12_spent_19 : decode cX12_spent 19 = .ok (.aload_n 0, 1) := by decide +kernel
theorem dX12_spent_20 : decode cX12_spent 20 = .ok (.aload_n 0, 1) := by decide +kernel
theorem dX12_spent_21 : decode cX12_spent 21 = .ok (.getfield 600, 3) := by decide +kernel
theorem dX12_spent_24 : decode cX12_spent 24 = .ok (.bipush 24, 2) := by decide +kernel
theorem dX12_spent_26 : decode cX12_spent 26 = .ok (.iconst 0, 1) := by decide +kernel
theorem dX12_spent_27 : decode cX12_spent 27 = .ok (.invokevirtual 593, 3) := by decide +kernel
theorem dX12_spent_30 : decode cX12_spent 30 = .ok (.return_, 1) := by decide +kernel
theorem dX12_step_0 : decode cX12_step 0 = .ok (.aload_n 0, 1) := by decide +kernel
theorem dX12_step_1 : decode cX12_step 1 = .ok (.getfield 551, 3) := by decide +kernel
theorem dX12_step_4 : decode cX12_step 4 = .ok (.sipush 3000, 3) := by decide +kernel
theorem dX12_step_7 : decode cX12_step 7 = .ok (.if_icmp .eq 13, 3) := by decide +kernel
theorem dX12_step_10 : decode cX12_step 10 = .ok (.aload_n 0, 1) := by decide +kernel
theorem dX12_step_11 : decode cX12_step 11 = .ok (.getfield 596, 3) := by decide +kernel
theorem dX12_step_14 : decode cX12_step 14 = .ok (.ldc_w 599, 3) := by decide +kernel
theorem dX12_step_17 : decode cX12_step 17 = .ok (.if_icmp .ne 5, 3) := by decide +kernel
theorem dX12_step_20 : decode cX12_step 20 = .ok (.iconst 0, 1) := by decide +kernel
theorem dX12_step_21 : decode cX12_step 21 = .ok (.ireturn, 1) := by decide +kernel
theorem dX12_step_22 : decode cX12_step 22 = .ok (.aload_n 0, 1) := by decide +kernel
theorem dX12_step_23 : decode cX12_step 23 = .ok (.dup, 1) := by decide +kernel
theorem dX12_step_24 : decode cX12_step 24 = .ok (.getfield 551, 3) := by decide +kernel
theorem dX12_step_27 : decode cX12_step 27 = .ok (.iconst 1, 1) := by decide +kernel
theorem dX12_step_28 : decode cX12_step 28 = .ok (.iadd, 1) := by decide +kernel
theorem dX12_step_29 : decode cX12_step 29 = .ok (.putfield 551, 3) := by decide +kernel
theorem dX12_step_32 : decode cX12_step 32 = .ok (.aload_n 0, 1) := by decide +kernel
theorem dX12_step_33 : decode cX12_step 33 = .ok (.dup, 1) := by decide +kernel
theorem dX12_step_34 : decode cX12_step 34 = .ok (.getfield 596, 3) := by decide +kernel
theorem dX12_step_37 : decode cX12_step 37 = .ok (.iconst 1, 1) := by decide +kernel
theorem dX12_step_38 : decode cX12_step 38 = .ok (.iadd, 1) := by decide +kernel
theorem dX12_step_39 : decode cX12_step 39 = .ok (.putfield 596, 3) := by decide +kernel
theorem dX12_step_42 : decode cX12_step 42 = .ok (.iconst 1, 1) := by decide +kernel
theorem dX12_step_43 : decode cX12_step 43 = .ok (.ireturn, 1) := by decide +kernel
theorem dX12_tickNode_0 : decode cX12_tickNode 0 = .ok (.aload_n 0, 1) := by decide +kernel
theorem dX12_tickNode_1 : decode cX12_tickNode 1 = .ok (.iconst 4, 1) := by decide +kernel
theorem dX12_tickNode_2 : decode cX12_tickNode 2 = .ok (.iload_n 1, 1) := by decide +kernel
theorem dX12_tickNode_3 : decode cX12_tickNode 3 = .ok (.ifCond .le 7, 3) := by decide +kernel
theorem dX12_tickNode_6 : decode cX12_tickNode 6 = .ok (.iconst 0, 1) := by decide +kernel
theorem dX12_tickNode_7 : decode cX12_tickNode 7 = .ok (.goto 4, 3) := by decide +kernel
theorem dX12_tickNode_10 : decode cX12_tickNode 10 = .ok (.iconst 1, 1) := by decide +kernel
theorem dX12_tickNode_11 : decode cX12_tickNode 11 = .ok (.iconst 0, 1) := by decide +kernel
theorem dX12_tickNode_12 : decode cX12_tickNode 12 = .ok (.invokevirtual 672, 3) := by decide +kernel
theorem dX12_tickNode_15 : decode cX12_tickNode 15 = .ok (.istore_n 2, 1) := by decide +kernel
theorem dX12_tickNode_16 : decode cX12_tickNode 16 = .ok (.aload_n 0, 1) := by decide +kernel
theorem dX12_tickNode_17 : decode cX12_tickNode 17 = .ok (.getfield 292, 3) := by decide +kernel
theorem dX12_tickNode_20 : decode cX12_tickNode 20 = .ok (.iload_n 2, 1) := by decide +kernel
theorem dX12_tickNode_21 : decode cX12_tickNode 21 = .ok (.aload_n 0, 1) := by decide +kernel
theorem dX12_tickNode_22 : decode cX12_tickNode 22 = .ok (.getfield 548, 3) := by decide +kernel
theorem dX12_tickNode_25 : decode cX12_tickNode 25 = .ok (.i2l, 1) := by decide +kernel
theorem dX12_tickNode_26 : decode cX12_tickNode 26 = .ok (.iload_n 1, 1) := by decide +kernel
theorem dX12_tickNode_27 : decode cX12_tickNode 27 = .ok (.i2l, 1) := by decide +kernel
theorem dX12_tickNode_28 : decode cX12_tickNode 28 = .ok (.ladd, 1) := by decide +kernel
theorem dX12_tickNode_29 : decode cX12_tickNode 29 = .ok (.lastore, 1) := by decide +kernel
theorem dX12_tickNode_30 : decode cX12_tickNode 30 = .ok (.return_, 1) := by decide +kernel
theorem dX12_worksWait_0 : decode cX12_worksWait 0 = .ok (.iload_n 1, 1) := by decide +kernel
theorem dX12_worksWait_1 : decode cX12_worksWait 1 = .ok (.tableswitch 167 24 31 #[93, 99, 108, 118, 125, 162, 167, 47], 47) := by decide +kernel
theorem dX12_worksWait_48 : decode cX12_worksWait 48 = .ok (.aload_n 0, 1) := by decide +kernel
theorem dX12_worksWait_49 : decode cX12_worksWait 49 = .ok (.iconst 1, 1) := by decide +kernel
theorem dX12_worksWait_50 : decode cX12_worksWait 50 = .ok (.putfield 606, 3) := by decide +kernel
theorem dX12_worksWait_53 : decode cX12_worksWait 53 = .ok (.aload_n 0, 1) := by decide +kernel
theorem dX12_worksWait_54 : decode cX12_worksWait 54 = .ok (.aload_n 0, 1) := by decide +kernel
theorem dX12_worksWait_55 : decode cX12_worksWait 55 = .ok (.getfield 560, 3) := by decide +kernel
theorem dX12_worksWait_58 : decode cX12_worksWait 58 = .ok (.putfield 657, 3) := by decide +kernel
theorem dX12_worksWait_61 : decode cX12_worksWait 61 = .ok (.aload_n 0, 1) := by decide +kernel
theorem dX12_worksWait_62 : decode cX12_worksWait 62 = .ok (.iconst (-1), 1) := by decide +kernel
theorem dX12_worksWait_63 : decode cX12_worksWait 63 = .ok (.putfield 669, 3) := by decide +kernel
theorem dX12_worksWait_66 : decode cX12_worksWait 66 = .ok (.aload_n 0, 1) := by decide +kernel
theorem dX12_worksWait_67 : decode cX12_worksWait 67 = .ok (.iload_n 2, 1) := by decide +kernel
theorem dX12_worksWait_68 : decode cX12_worksWait 68 = .ok (.putfield 660, 3) := by decide +kernel
theorem dX12_worksWait_71 : decode cX12_worksWait 71 = .ok (.aload_n 0, 1) := by decide +kernel
theorem dX12_worksWait_72 : decode cX12_worksWait 72 = .ok (.getfield 219, 3) := by decide +kernel
theorem dX12_worksWait_75 : decode cX12_worksWait 75 = .ok (.aload_n 0, 1) := by decide +kernel
theorem dX12_worksWait_76 : decode cX12_worksWait 76 = .ok (.getfield 600, 3) := by decide +kernel
theorem dX12_worksWait_79 : decode cX12_worksWait 79 = .ok (.iconst 0, 1) := by decide +kernel
theorem dX12_worksWait_80 : decode cX12_worksWait 80 = .ok (.iastore, 1) := by decide +kernel
theorem dX12_worksWait_81 : decode cX12_worksWait 81 = .ok (.aload_n 0, 1) := by decide +kernel
theorem dX12_worksWait_82 : decode cX12_worksWait 82 = .ok (.getfield 210, 3) := by decide +kernel
theorem dX12_worksWait_85 : decode cX12_worksWait 85 = .ok (.aload_n 0, 1) := by decide +kernel
theorem dX12_worksWait_86 : decode cX12_worksWait 86 = .ok (.getfield 600, 3) := by decide +kernel
theorem dX12_worksWait_89 : decode cX12_worksWait 89 = .ok (.iload_n 3, 1) := by decide +kernel
theorem dX12_worksWait_90 : decode cX12_worksWait 90 = .ok (.iconst 1, 1) := by decide +kernel
theorem dX12_worksWait_91 : decode cX12_worksWait 91 = .ok (.iadd, 1) := by decide +kernel
theorem dX12_worksWait_92 : decode cX12_worksWait 92 = .ok (.iastore, 1) := by decide +kernel
theorem dX12_worksWait_93 : decode cX12_worksWait 93 = .ok (.return_, 1) := by decide +kernel
theorem dX12_worksWait_94 : decode cX12_worksWait 94 = .ok (.aload_n 0, 1) := by decide +kernel
theorem dX12_worksWait_95 : decode cX12_worksWait 95 = .ok (.iload_n 2, 1) := by decide +kernel
theorem dX12_worksWait_96 : decode cX12_worksWait 96 = .ok (.invokevirtual 675, 3) := by decide +kernel
theorem dX12_worksWait_99 : decode cX12_worksWait 99 = .ok (.return_, 1) := by decide +kernel
theorem dX12_worksWait_100 : decode cX12_worksWait 100 = .ok (.aload_n 0, 1) := by decide +kernel
theorem dX12_worksWait_101 : decode cX12_worksWait 101 = .ok (.aload_n 0, 1) := by decide +kernel
theorem dX12_worksWait_102 : decode cX12_worksWait 102 = .ok (.invokevirtual 627, 3) := by decide +kernel
theorem dX12_worksWait_105 : decode cX12_worksWait 105 = .ok (.invokevirtual 678, 3) := by decide +kernel
theorem dX12_worksWait_108 : decode cX12_worksWait 108 = .ok (.return_, 1) := by decide +kernel
theorem dX12_worksWait_109 : decode cX12_worksWait 109 = .ok (.aload_n 0, 1) := by decide +kernel
theorem dX12_worksWait_110 : decode cX12_worksWait 110 = .ok (.iconst 5, 1) := by decide +kernel
theorem dX12_worksWait_111 : decode cX12_worksWait 111 = .ok (.iconst 1, 1) := by decide +kernel
theorem dX12_worksWait_112 : decode cX12_worksWait 112 = .ok (.iconst 0, 1) := by decide +kernel
theorem dX12_worksWait_113 : decode cX12_worksWait 113 = .ok (.invokevirtual 672, 3) := by decide +kernel
theorem dX12_worksWait_116 : decode cX12_worksWait 116 = .ok (.istore 4, 2) := by decide +kernel
theorem dX12_worksWait_118 : decode cX12_worksWait 118 = .ok (.return_, 1) := by decide +kernel
theorem dX12_worksWait_119 : decode cX12_worksWait 119 = .ok (.aload_n 0, 1) := by decide +kernel
theorem dX12_worksWait_120 : decode cX12_worksWait 120 = .ok (.iload_n 2, 1) := by decide +kernel
theorem dX12_worksWait_121 : decode cX12_worksWait 121 = .ok (.iload_n 3, 1) := by decide +kernel
theorem dX12_worksWait_122 : decode cX12_worksWait 122 = .ok (.invokevirtual 681, 3) := by decide +kernel
theorem dX12_worksWait_125 : decode cX12_worksWait 125 = .ok (.return_, 1) := by decide +kernel
theorem dX12_worksWait_126 : decode cX12_worksWait 126 = .ok (.aload_n 0, 1) := by decide +kernel
theorem dX12_worksWait_127 : decode cX12_worksWait 127 = .ok (.iload_n 2, 1) := by decide +kernel
theorem dX12_worksWait_128 : decode cX12_worksWait 128 = .ok (.iconst 0, 1) := by decide +kernel
theorem dX12_worksWait_129 : decode cX12_worksWait 129 = .ok (.iconst 0, 1) := by decide +kernel
theorem dX12_worksWait_130 : decode cX12_worksWait 130 = .ok (.invokevirtual 672, 3) := by decide +kernel
theorem dX12_worksWait_133 : decode cX12_worksWait 133 = .ok (.istore 5, 2) := by decide +kernel
theorem dX12_worksWait_135 : decode cX12_worksWait 135 = .ok (.aload_n 0, 1) := by decide +kernel
theorem dX12_worksWait_136 : decode cX12_worksWait 136 = .ok (.getfield 292, 3) := by decide +kernel
theorem dX12_worksWait_139 : decode cX12_worksWait 139 = .ok (.iload 5, 2) := by decide +kernel
theorem dX12_worksWait_141 : decode cX12_worksWait 141 = .ok (.iload_n 2, 1) := by decide +kernel
theorem dX12_worksWait_142 : decode cX12_worksWait 142 = .ok (.iconst 2, 1) := by decide +kernel
theorem dX12_worksWait_143 : decode cX12_worksWait 143 = .ok (.if_icmp .ne 11, 3) := by decide +kernel
theorem dX12_worksWait_146 : decode cX12_worksWait 146 = .ok (.aload_n 0, 1) := by decide +kernel
theorem dX12_worksWait_147 : decode cX12_worksWait 147 = .ok (.invokevirtual 627, 3) := by decide +kernel
theorem dX12_worksWait_150 : decode cX12_worksWait 150 = .ok (.i2l, 1) := by decide +kernel
theorem dX12_worksWait_151 : decode cX12_worksWait 151 = .ok (.goto 4, 3) := by decide +kernel
theorem dX12_worksWait_154 : decode cX12_worksWait 154 = .ok (.lconst 0, 1) := by decide +kernel
theorem dX12_worksWait_155 : decode cX12_worksWait 155 = .ok (.lastore, 1) := by decide +kernel
theorem dX12_worksWait_156 : decode cX12_worksWait 156 = .ok (.aload_n 0, 1) := by decide +kernel
theorem dX12_worksWait_157 : decode cX12_worksWait 157 = .ok (.iload 5, 2) := by decide +kernel
theorem dX12_worksWait_159 : decode cX12_worksWait 159 = .ok (.putfield 669, 3) := by decide +kernel
theorem dX12_worksWait_162 : decode cX12_worksWait 162 = .ok (.return_, 1) := by decide +kernel
theorem dX12_worksWait_163 : decode cX12_worksWait 163 = .ok (.aload_n 0, 1) := by decide +kernel
theorem dX12_worksWait_164 : decode cX12_worksWait 164 = .ok (.invokevirtual 684, 3) := by decide +kernel
theorem dX12_worksWait_167 : decode cX12_worksWait 167 = .ok (.return_, 1) := by decide +kernel
theorem dX12_worksWait_168 : decode cX12_worksWait 168 = .ok (.aload_n 0, 1) := by decide +kernel
theorem dX12_worksWait_169 : decode cX12_worksWait 169 = .ok (.getfield 225, 3) := by decide +kernel
theorem dX12_worksWait_172 : decode cX12_worksWait 172 = .ok (.aload_n 0, 1) := by decide +kernel
theorem dX12_worksWait_173 : decode cX12_worksWait 173 = .ok (.getfield 600, 3) := by decide +kernel
theorem dX12_worksWait_176 : decode cX12_worksWait 176 = .ok (.iload_n 2, 1) := by decide +kernel
theorem dX12_worksWait_177 : decode cX12_worksWait 177 = .ok (.iastore, 1) := by decide +kernel
theorem dX12_worksWait_178 : decode cX12_worksWait 178 = .ok (.aload_n 0, 1) := by decide +kernel
theorem dX12_worksWait_179 : decode cX12_worksWait 179 = .ok (.aload_n 0, 1) := by decide +kernel
theorem dX12_worksWait_180 : decode cX12_worksWait 180 = .ok (.getfield 657, 3) := by decide +kernel
theorem dX12_worksWait_183 : decode cX12_worksWait 183 = .ok (.invokevirtual 663, 3) := by decide +kernel
theorem dX12_worksWait_186 : decode cX12_worksWait 186 = .ok (.return_, 1) := by decide +kernel
def wp_reckons_205 (K : mS → Prop) (y1 : Int32) (S : mS) : Prop := wp_push y1 S (fun (S25 : mS) => K S25)
def wp_reckons_108 (K : mS → Prop) (x1 : Int32) (x3 : Int32) (x4 : Int32) (S : mS) : Prop := ((¬ x1 = 6 → ((¬ x1 = 7 → ((¬ x1 = 8 → ((¬ x1 = 9 → ((¬ x1 = 10 → ((¬ x1 = 11 → ((¬ x4 = x3 → wp_reckons_205 K 0 S) ∧ (x4 = x3 → wp_reckons_205 K 1 S))) ∧ (x1 = 11 → ((x3 ≤ x4 → wp_reckons_205 K 0 S) ∧ (¬ x3 ≤ x4 → wp_reckons_205 K 1 S))))) ∧ (x1 = 10 → ∀ z20 : Int32, z20 = x4 - x3 → wp_reckons_205 K z20 S))) ∧ (x1 = 9 → ∀ z21 : Int32, z21 = x4 + x3 → wp_reckons_205 K z21 S))) ∧ (x1 = 8 → ¬ x3 = 0 ∧ ∀ z22 : Int32, z22 = x4 - x4 / x3 * x3 → wp_reckons_205 K z22 S))) ∧ (x1 = 7 → ¬ x3 = 0 ∧ ∀ z23 : Int32, z23 = x4 / x3 → wp_reckons_205 K z23 S))) ∧ (x1 = 6 → ∀ z24 : Int32, z24 = x4 * x3 → wp_reckons_205 K z24 S))
def wp_reckons_97 (K : mS → Prop) (x1 : Int32) (x3 : Int32) (x4 : Int32) (S : mS) : Prop := ((¬ x3 = 0 → wp_reckons_108 K x1 x3 x4 S) ∧ (x3 = 0 → wp_failure 11 S (fun (S27 : mS) => K S27)))
def wp_reckons_51 (K : mS → Prop) (y1 : Int32) (S : mS) : Prop := wp_push y1 S (fun (S33 : mS) => K S33)
def wp_reckons_15 (K : mS → Prop) (x1 : Int32) (x2 : Int32) (S : mS) : Prop := ((¬ x1 = 2 → ((¬ x1 = 3 → wp_reckons_51 K (S.1 24) S) ∧ (x1 = 3 → ∀ z30 : Int32, z30 = 12 * (S.1 33) → ∀ z31 : Int32, z31 = z30 + x2 → inR z31 2400 ∧ ∀ z32 : Int32, z32 = S.2.1 58 (ix z31) → wp_reckons_51 K z32 S))) ∧ (x1 = 2 → wp_reckons_51 K x2 S))
def wp_reckons (a0 : Int32) (a1 : Int32) (S : mS) (K : mS → Prop) : Prop := ((a0 = 2 → wp_reckons_15 K a0 a1 S) ∧ (¬ a0 = 2 → ((a0 = 3 → wp_reckons_15 K a0 a1 S) ∧ (¬ a0 = 3 → ((¬ a0 = 4 → ((¬ a0 = 5 → wp_pop S (fun (S5 : mS) (r5 : Int32) => wp_pop S5 (fun (S6 : mS) (r6 : Int32) => ((a0 = 7 → wp_reckons_97 K a0 r5 r6 S6) ∧ (¬ a0 = 7 → ((¬ a0 = 8 → wp_reckons_108 K a0 r5 r6 S6) ∧ (a0 = 8 → wp_reckons_97 K a0 r5 r6 S6))))))) ∧ (a0 = 5 → wp_pop S (fun (S9 : mS) (r9 : Int32) => ∀ z10 : Int32, z10 = -r9 → wp_push z10 S9 (fun (S11 : mS) => K S11))))) ∧ (a0 = 4 → wp_reckons_15 K a0 a1 S))))))
theorem cw_X12_pop {R : Room} {s : State} {args : Array Value} {fr lo : Nat} (hts : ∀ w ∈ tb, w.before args s = true) (h1 : fr + 1 ≤ R.frames) (h2 : 8 + (1 + 11) + lo ≤ R.locals) : CallW R s args RX12 RX12 627 yX12_pop cX12_pop 1 (some .int) (.code yX12_pop cX12_pop 1 (some .int) :: tb) (mRm fr lo) 0 0 0 := cwV 0 hts (gd_V wd_2079 wd_2081 sl_X12_pop wd_15 wd_2082) rfl rfl rfl (by decide +kernel) ⟨h1, h2⟩
theorem cw_X12_push {R : Room} {s : State} {args : Array Value} {fr lo : Nat} (hts : ∀ w ∈ tb, w.before args s = true) (h1 : fr + 1 ≤ R.frames) (h2 : 8 + (2 + 11) + lo ≤ R.locals) : CallW R s args RX12 RX12 651 yX12_push cX12_push 2 none (.code yX12_push cX12_push 2 none :: tb) (mRm fr lo) 0 0 1 := cwV 1 hts (gd_V wd_2139 wd_2141 sl_X12_push wd_15 wd_2142) rfl rfl rfl (by decide +kernel) ⟨h1, h2⟩
set_option maxHeartbeats 4000000 in
set_option maxRecDepth 100000 in
theorem ct_reckons (l : Launch) (S : mS) (a0 : Int32) (a1 : Int32) (K : mS → Prop) (h : wp_reckons a0 a1 S K) : mMv l yX12_reckons cX12_reckons 5 none 698 16747 (fun E => [.int a0, .int a1]) S K := by
  refine mv_ofv (by decide) rfl (fun _ => Nat.le_of_ble_eq_true rfl) ?_
  intro E p e R s m args below meth c A ls Q hRf hRl hX hC hl hret
  have hx := hX.1.1
  have hb := hX.1.2.1
  have hown := hX.1.2.2.2.1
  have hts := hX.1.2.2.2.2
  have cut205 : ∀ (y1 : Int32) (S : mS) (H : Heap) (locs : List Loc) (ls : Array Slot), wp_reckons_205 K y1 S → mC E A s.heap S H locs → lv_has ls 5 [(0, .ref E.2.1)] → W p l e R s m args below meth c H locs 0 0 Q (F0 m 205 ls [.int y1, .ref E.2.1]) := by
    intro y1 S H locs ls h hC hl
    unfold wp_reckons_205 at h
    refine mv_callv [.int y1] (rest := []) hX hC (ct_push l S y1 _ h E _) (cw_X12_push hts (by omega) (by omega)) rfl hl.1 (Nat.le_of_ble_eq_true rfl) ⟨Nat.zero_le _, Nat.zero_le _⟩ dX12_reckons_205 (fun S25 H locs hC h => ?_)
    exact hret _ _ _ _ _ hC h dX12_reckons_208
  have cut108 : ∀ (x1 : Int32) (x3 : Int32) (x4 : Int32) (S : mS) (H : Heap) (locs : List Loc) (ls : Array Slot), wp_reckons_108 K x1 x3 x4 S → mC E A s.heap S H locs → lv_has ls 5 [(0, .ref E.2.1), (1, .int x1), (3, .int x3), (4, .int x4)] → W p l e R s m args below meth c H locs 0 0 Q (F0 m 108 ls []) := by
    intro x1 x3 x4 S H locs ls h hC hl
    unfold wp_reckons_108 at h
    refine lv_aload_n hx hb dX12_reckons_108 rfl (lv_at hl 0 rfl) ?_
    refine lv_iload_n hx hb dX12_reckons_109 rfl (lv_at hl 1 rfl) ?_
    refine lv_bipush (v := 6) hx hb dX12_reckons_110 (by decide) ?_
    refine lv_icmp_ne (tgt := 122) hx hb dX12_reckons_112 (by decide) (fun c12 => ?_) (fun c12 => ?_)
    · have h := h.1 c12
      refine lv_iload_n hx hb dX12_reckons_122 rfl (lv_at hl 1 rfl) ?_
      refine lv_bipush (v := 7) hx hb dX12_reckons_123 (by decide) ?_
      refine lv_icmp_ne (tgt := 135) hx hb dX12_reckons_125 (by decide) (fun c13 => ?_) (fun c13 => ?_)
      · have h := h.1 c13
        refine lv_iload_n hx hb dX12_reckons_135 rfl (lv_at hl 1 rfl) ?_
        refine lv_bipush (v := 8) hx hb dX12_reckons_136 (by decide) ?_
        refine lv_icmp_ne (tgt := 148) hx hb dX12_reckons_138 (by decide) (fun c14 => ?_) (fun c14 => ?_)
        · have h := h.1 c14
          refine lv_iload_n hx hb dX12_reckons_148 rfl (lv_at hl 1 rfl) ?_
          refine lv_bipush (v := 9) hx hb dX12_reckons_149 (by decide) ?_
          refine lv_icmp_ne (tgt := 161) hx hb dX12_reckons_151 (by decide) (fun c15 => ?_) (fun c15 => ?_)
          · have h := h.1 c15
            refine lv_iload_n hx hb dX12_reckons_161 rfl (lv_at hl 1 rfl) ?_
            refine lv_bipush (v := 10) hx hb dX12_reckons_162 (by decide) ?_
            refine lv_icmp_ne (tgt := 174) hx hb dX12_reckons_164 (by decide) (fun c16 => ?_) (fun c16 => ?_)
            · have h := h.1 c16
              refine lv_iload_n hx hb dX12_reckons_174 rfl (lv_at hl 1 rfl) ?_
              refine lv_bipush (v := 11) hx hb dX12_reckons_175 (by decide) ?_
              refine lv_icmp_ne (tgt := 194) hx hb dX12_reckons_177 (by decide) (fun c17 => ?_) (fun c17 => ?_)
              · have h := h.1 c17
                refine lv_iload hx hb dX12_reckons_194 (lv_at hl 3 rfl) ?_
                refine lv_iload_n hx hb dX12_reckons_196 rfl (lv_at hl 2 rfl) ?_
                refine lv_icmp_ne (tgt := 204) hx hb dX12_reckons_197 (by decide) (fun c18 => ?_) (fun c18 => ?_)
                · have h := h.1 c18
                  refine lv_iconst (v := 0) hx hb dX12_reckons_204 (by decide) ?_
                  exact cut205 0 S _ _ _ h hC (lv_sub hl [0] rfl)
                · have h := h.2 c18
                  refine lv_iconst (v := 1) hx hb dX12_reckons_200 (by decide) ?_
                  refine lv_goto (tgt := 205) hx hb dX12_reckons_201 (by decide) ?_
                  exact cut205 1 S _ _ _ h hC (lv_sub hl [0] rfl)
              · have h := h.2 c17
                refine lv_iload hx hb dX12_reckons_180 (lv_at hl 3 rfl) ?_
                refine lv_iload_n hx hb dX12_reckons_182 rfl (lv_at hl 2 rfl) ?_
                refine lv_icmp_ge (tgt := 190) hx hb dX12_reckons_183 (by decide) (fun c19 => ?_) (fun c19 => ?_)
                · have h := h.1 c19
                  refine lv_iconst (v := 0) hx hb dX12_reckons_190 (by decide) ?_
                  refine lv_goto (tgt := 205) hx hb dX12_reckons_191 (by decide) ?_
                  exact cut205 0 S _ _ _ h hC (lv_sub hl [0] rfl)
                · have h := h.2 c19
                  refine lv_iconst (v := 1) hx hb dX12_reckons_186 (by decide) ?_
                  refine lv_goto (tgt := 205) hx hb dX12_reckons_187 (by decide) ?_
                  exact cut205 1 S _ _ _ h hC (lv_sub hl [0] rfl)
            · have h := h.2 c16
              refine lv_iload hx hb dX12_reckons_167 (lv_at hl 3 rfl) ?_
              refine lv_iload_n hx hb dX12_reckons_169 rfl (lv_at hl 2 rfl) ?_
              refine lq_isub hx hb dX12_reckons_170 h (fun z20 h => ?_)
              refine lv_goto (tgt := 205) hx hb dX12_reckons_171 (by decide) ?_
              exact cut205 z20 S _ _ _ h hC (lv_sub hl [0] rfl)
          · have h := h.2 c15
            refine lv_iload hx hb dX12_reckons_154 (lv_at hl 3 rfl) ?_
            refine lv_iload_n hx hb dX12_reckons_156 rfl (lv_at hl 2 rfl) ?_
            refine lq_iadd hx hb dX12_reckons_157 h (fun z21 h => ?_)
            refine lv_goto (tgt := 205) hx hb dX12_reckons_158 (by decide) ?_
            exact cut205 z21 S _ _ _ h hC (lv_sub hl [0] rfl)
        · have h := h.2 c14
          refine lv_iload hx hb dX12_reckons_141 (lv_at hl 3 rfl) ?_
          refine lv_iload_n hx hb dX12_reckons_143 rfl (lv_at hl 2 rfl) ?_
          refine lq_irem hx hb dX12_reckons_144 h (fun z22 h => ?_)
          refine lv_goto (tgt := 205) hx hb dX12_reckons_145 (by decide) ?_
          exact cut205 z22 S _ _ _ h hC (lv_sub hl [0] rfl)
      · have h := h.2 c13
        refine lv_iload hx hb dX12_reckons_128 (lv_at hl 3 rfl) ?_
        refine lv_iload_n hx hb dX12_reckons_130 rfl (lv_at hl 2 rfl) ?_
        refine lq_idiv hx hb dX12_reckons_131 h (fun z23 h => ?_)
        refine lv_goto (tgt := 205) hx hb dX12_reckons_132 (by decide) ?_
        exact cut205 z23 S _ _ _ h hC (lv_sub hl [0] rfl)
    · have h := h.2 c12
      refine lv_iload hx hb dX12_reckons_115 (lv_at hl 3 rfl) ?_
      refine lv_iload_n hx hb dX12_reckons_117 rfl (lv_at hl 2 rfl) ?_
      refine lq_imul hx hb dX12_reckons_118 h (fun z24 h => ?_)
      refine lv_goto (tgt := 205) hx hb dX12_reckons_119 (by decide) ?_
      exact cut205 z24 S _ _ _ h hC (lv_sub hl [0] rfl)
  have cut97 : ∀ (x1 : Int32) (x3 : Int32) (x4 : Int32) (S : mS) (H : Heap) (locs : List Loc) (ls : Array Slot), wp_reckons_97 K x1 x3 x4 S → mC E A s.heap S H locs → lv_has ls 5 [(0, .ref E.2.1), (1, .int x1), (3, .int x3), (4, .int x4)] → W p l e R s m args below meth c H locs 0 0 Q (F0 m 97 ls []) := by
    intro x1 x3 x4 S H locs ls h hC hl
    unfold wp_reckons_97 at h
    refine lv_iload_n hx hb dX12_reckons_97 rfl (lv_at hl 2 rfl) ?_
    refine lv_if_ne (tgt := 108) hx hb dX12_reckons_98 (by decide) (fun c26 => ?_) (fun c26 => ?_)
    · have h := h.1 c26
      exact cut108 x1 x3 x4 S _ _ _ h hC (lv_sub hl [0, 1, 2, 3] rfl)
    · have h := h.2 c26
      refine lv_aload_n hx hb dX12_reckons_101 rfl (lv_at hl 0 rfl) ?_
      refine lv_bipush (v := 11) hx hb dX12_reckons_102 (by decide) ?_
      refine mv_callv [.int 11] (rest := []) hX hC (ct_failure l S 11 _ h E _) (cw_X12_failure hts (by omega) (by omega)) rfl hl.1 (Nat.le_of_ble_eq_true rfl) ⟨Nat.zero_le _, Nat.zero_le _⟩ dX12_reckons_104 (fun S27 H locs hC h => ?_)
      exact hret _ _ _ _ _ hC h dX12_reckons_107
  have cut51 : ∀ (y1 : Int32) (S : mS) (H : Heap) (locs : List Loc) (ls : Array Slot), wp_reckons_51 K y1 S → mC E A s.heap S H locs → lv_has ls 5 [(0, .ref E.2.1)] → W p l e R s m args below meth c H locs 0 0 Q (F0 m 51 ls [.int y1, .ref E.2.1]) := by
    intro y1 S H locs ls h hC hl
    unfold wp_reckons_51 at h
    refine mv_callv [.int y1] (rest := []) hX hC (ct_push l S y1 _ h E _) (cw_X12_push hts (by omega) (by omega)) rfl hl.1 (Nat.le_of_ble_eq_true rfl) ⟨Nat.zero_le _, Nat.zero_le _⟩ dX12_reckons_51 (fun S33 H locs hC h => ?_)
    refine lv_goto (tgt := 208) hx hb dX12_reckons_54 (by decide) ?_
    exact hret _ _ _ _ _ hC h dX12_reckons_208
  have cut15 : ∀ (x1 : Int32) (x2 : Int32) (S : mS) (H : Heap) (locs : List Loc) (ls : Array Slot), wp_reckons_15 K x1 x2 S → mC E A s.heap S H locs → lv_has ls 5 [(0, .ref E.2.1), (1, .int x1), (2, .int x2)] → W p l e R s m args below meth c H locs 0 0 Q (F0 m 15 ls []) := by
    intro x1 x2 S H locs ls h hC hl
    unfold wp_reckons_15 at h
    refine lv_aload_n hx hb dX12_reckons_15 rfl (lv_at hl 0 rfl) ?_
    refine lv_iload_n hx hb dX12_reckons_16 rfl (lv_at hl 1 rfl) ?_
    refine lv_iconst (v := 2) hx hb dX12_reckons_17 (by decide) ?_
    refine lv_icmp_ne (tgt := 25) hx hb dX12_reckons_18 (by decide) (fun c28 => ?_) (fun c28 => ?_)
    · have h := h.1 c28
      refine lv_iload_n hx hb dX12_reckons_25 rfl (lv_at hl 1 rfl) ?_
      refine lv_iconst (v := 3) hx hb dX12_reckons_26 (by decide) ?_
      refine lv_icmp_ne (tgt := 47) hx hb dX12_reckons_27 (by decide) (fun c29 => ?_) (fun c29 => ?_)
      · have h := h.1 c29
        refine lv_aload_n hx hb dX12_reckons_47 rfl (lv_at hl 0 rfl) ?_
        refine mv_get (v := .int (S.1 24)) hX hC 99 (Nat.le_of_ble_eq_true rfl) wd_1499 rfl dX12_reckons_48 ?_
        exact cut51 (S.1 24) S _ _ _ h hC (lv_sub hl [0] rfl)
      · have h := h.2 c29
        refine lv_aload_n hx hb dX12_reckons_30 rfl (lv_at hl 0 rfl) ?_
        refine mv_get (v := .ref (E.2.2.1 58)) hX hC 82 (Nat.le_of_ble_eq_true rfl) wd_1482 rfl dX12_reckons_31 ?_
        refine lv_bipush (v := 12) hx hb dX12_reckons_34 (by decide) ?_
        refine lv_aload_n hx hb dX12_reckons_36 rfl (lv_at hl 0 rfl) ?_
        refine mv_get (v := .int (S.1 33)) hX hC 123 (Nat.le_of_ble_eq_true rfl) wd_1523 rfl dX12_reckons_37 ?_
        refine lq_imul hx hb dX12_reckons_40 h (fun z30 h => ?_)
        refine lv_iload_n hx hb dX12_reckons_41 rfl (lv_at hl 2 rfl) ?_
        refine lq_iadd hx hb dX12_reckons_42 h (fun z31 h => ?_)
        refine mq_ild (n := 2400) hX hC 58 rfl rfl dX12_reckons_43 h (fun z32 h => ?_)
        refine lv_goto (tgt := 51) hx hb dX12_reckons_44 (by decide) ?_
        exact cut51 z32 S _ _ _ h hC (lv_sub hl [0] rfl)
    · have h := h.2 c28
      refine lv_iload_n hx hb dX12_reckons_21 rfl (lv_at hl 2 rfl) ?_
      refine lv_goto (tgt := 51) hx hb dX12_reckons_22 (by decide) ?_
      exact cut51 x2 S _ _ _ h hC (lv_sub hl [0] rfl)
  have hl : lv_has ls 5 [(0, .ref E.2.1), (1, .int a0), (2, .int a1)] := hl
  unfold wp_reckons at h
  refine lv_iload_n hx hb dX12_reckons_0 rfl (lv_at hl 1 rfl) ?_
  refine lv_iconst (v := 2) hx hb dX12_reckons_1 (by decide) ?_
  refine lv_icmp_eq (tgt := 15) hx hb dX12_reckons_2 (by decide) (fun c1 => ?_) (fun c1 => ?_)
  · have h := h.1 c1
    exact cut15 a0 a1 S _ _ _ h hC (lv_sub hl [0, 1, 2] rfl)
  · have h := h.2 c1
    refine lv_iload_n hx hb dX12_reckons_5 rfl (lv_at hl 1 rfl) ?_
    refine lv_iconst (v := 3) hx hb dX12_reckons_6 (by decide) ?_
    refine lv_icmp_eq (tgt := 15) hx hb dX12_reckons_7 (by decide) (fun c2 => ?_) (fun c2 => ?_)
    · have h := h.1 c2
      exact cut15 a0 a1 S _ _ _ h hC (lv_sub hl [0, 1, 2] rfl)
    · have h := h.2 c2
      refine lv_iload_n hx hb dX12_reckons_10 rfl (lv_at hl 1 rfl) ?_
      refine lv_iconst (v := 4) hx hb dX12_reckons_11 (by decide) ?_
      refine lv_icmp_ne (tgt := 57) hx hb dX12_reckons_12 (by decide) (fun c3 => ?_) (fun c3 => ?_)
      · have h := h.1 c3
        refine lv_iload_n hx hb dX12_reckons_57 rfl (lv_at hl 1 rfl) ?_
        refine lv_iconst (v := 5) hx hb dX12_reckons_58 (by decide) ?_
        refine lv_icmp_ne (tgt := 74) hx hb dX12_reckons_59 (by decide) (fun c4 => ?_) (fun c4 => ?_)
        · have h := h.1 c4
          refine lv_aload_n hx hb dX12_reckons_74 rfl (lv_at hl 0 rfl) ?_
          refine mv_calli [] (rest := []) hX hC (ct_pop l S _ h E _) (cw_X12_pop hts (by omega) (by omega)) rfl hl.1 (Nat.le_of_ble_eq_true rfl) ⟨Nat.zero_le _, Nat.zero_le _⟩ dX12_reckons_75 (fun r5 S5 H locs hC h => ?_)
          refine lv_istore_n (lv' := [(3, .int r5), (0, .ref E.2.1), (1, .int a0), (2, .int a1)]) hx hb dX12_reckons_78 rfl hl (by decide) rfl (fun ls hl => ?_)
          refine lv_aload_n hx hb dX12_reckons_79 rfl (lv_at hl 1 rfl) ?_
          refine mv_calli [] (rest := []) hX hC (ct_pop l S5 _ h E _) (cw_X12_pop hts (by omega) (by omega)) rfl hl.1 (Nat.le_of_ble_eq_true rfl) ⟨Nat.zero_le _, Nat.zero_le _⟩ dX12_reckons_80 (fun r6 S6 H locs hC h => ?_)
          refine lv_istore (lv' := [(4, .int r6), (3, .int r5), (0, .ref E.2.1), (1, .int a0), (2, .int a1)]) hx hb dX12_reckons_83 hl (by decide) rfl (fun ls hl => ?_)
          refine lv_iload_n hx hb dX12_reckons_85 rfl (lv_at hl 3 rfl) ?_
          refine lv_bipush (v := 7) hx hb dX12_reckons_86 (by decide) ?_
          refine lv_icmp_eq (tgt := 97) hx hb dX12_reckons_88 (by decide) (fun c7 => ?_) (fun c7 => ?_)
          · have h := h.1 c7
            exact cut97 a0 r5 r6 S6 _ _ _ h hC (lv_sub hl [2, 3, 1, 0] rfl)
          · have h := h.2 c7
            refine lv_iload_n hx hb dX12_reckons_91 rfl (lv_at hl 3 rfl) ?_
            refine lv_bipush (v := 8) hx hb dX12_reckons_92 (by decide) ?_
            refine lv_icmp_ne (tgt := 108) hx hb dX12_reckons_94 (by decide) (fun c8 => ?_) (fun c8 => ?_)
            · have h := h.1 c8
              exact cut108 a0 r5 r6 S6 _ _ _ h hC (lv_sub hl [2, 3, 1, 0] rfl)
            · have h := h.2 c8
              exact cut97 a0 r5 r6 S6 _ _ _ h hC (lv_sub hl [2, 3, 1, 0] rfl)
        · have h := h.2 c4
          refine lv_aload_n hx hb dX12_reckons_62 rfl (lv_at hl 0 rfl) ?_
          refine lv_aload_n hx hb dX12_reckons_63 rfl (lv_at hl 0 rfl) ?_
          refine mv_calli [] (rest := [.ref E.2.1]) hX hC (ct_pop l S _ h E _) (cw_X12_pop hts (by omega) (by omega)) rfl hl.1 (Nat.le_of_ble_eq_true rfl) ⟨Nat.zero_le _, Nat.zero_le _⟩ dX12_reckons_64 (fun r9 S9 H locs hC h => ?_)
          refine lq_ineg hx hb dX12_reckons_67 h (fun z10 h => ?_)
          refine mv_callv [.int z10] (rest := []) hX hC (ct_push l S9 z10 _ h E _) (cw_X12_push hts (by omega) (by omega)) rfl hl.1 (Nat.le_of_ble_eq_true rfl) ⟨Nat.zero_le _, Nat.zero_le _⟩ dX12_reckons_68 (fun S11 H locs hC h => ?_)
          refine lv_goto (tgt := 208) hx hb dX12_reckons_71 (by decide) ?_
          exact hret _ _ _ _ _ hC h dX12_reckons_208
      · have h := h.2 c3
        exact cut15 a0 a1 S _ _ _ h hC (lv_sub hl [0, 1, 2] rfl)
def wp_spent_19 (K : mS → Prop) (S : mS) : Prop := wq_ends (S.1 33) 24 0 S (fun (S3 : mS) => K S3)
def wp_spent (S : mS) (K : mS → Prop) : Prop := (((S.1 34) = 0 → wp_spent_19 K S) ∧ (¬ (S.1 34) = 0 → wq_letGo (S.1 35) (S.1 29) S (fun (S2 : mS) => wp_spent_19 K S2)))
set_option maxHeartbeats 4000000 in
set_option maxRecDepth 100000 in
theorem ct_spent (l : Launch) (S : mS) (K : mS → Prop) (h : wp_spent S K) : mMv l yX12_spent cX12_spent 1 none 695 16682 (fun E => []) S K := by
  refine mv_ofv (by decide) rfl (fun _ => Nat.le_of_ble_eq_true rfl) ?_
  intro E p e R s m args below meth c A ls Q hRf hRl hX hC hl hret
  have hx := hX.1.1
  have hb := hX.1.2.1
  have hown := hX.1.2.2.2.1
  have hts := hX.1.2.2.2.2
  have cut19 : ∀ (S : mS) (H : Heap) (locs : List Loc) (ls : Array Slot), wp_spent_19 K S → mC E A s.heap S H locs → lv_has ls 1 [(0, .ref E.2.1)] → W p l e R s m args below meth c H locs 0 0 Q (F0 m 19 ls []) := by
    intro S H locs ls h hC hl
    unfold wp_spent_19 at h
    refine lv_aload_n hx hb dX12_spent_19 rfl (lv_at hl 0 rfl) ?_
    refine lv_aload_n hx hb dX12_spent_20 rfl (lv_at hl 0 rfl) ?_
    refine mv_get (v := .int (S.1 33)) hX hC 123 (Nat.le_of_ble_eq_true rfl) wd_1523 rfl dX12_spent_21 ?_
    refine lv_bipush (v := 24) hx hb dX12_spent_24 (by decide) ?_
    refine lv_iconst (v := 0) hx hb dX12_spent_26 (by decide) ?_
    refine mv_callv [.int (S.1 33), .int 24, .int 0] (rest := []) hX hC (ct_ends l S (S.1 33) 24 0 _ h E _) (cw_X12_ends hts (by omega) (by omega)) rfl hl.1 (Nat.le_of_ble_eq_true rfl) ⟨Nat.zero_le _, Nat.zero_le _⟩ dX12_spent_27 (fun S3 H locs hC h => ?_)
    exact hret _ _ _ _ _ hC h dX12_spent_30
  have hl : lv_has ls 1 [(0, .ref E.2.1)] := hl
  unfold wp_spent at h
  refine lv_aload_n hx hb dX12_spent_0 rfl (lv_at hl 0 rfl) ?_
  refine mv_get (v := .int (S.1 34)) hX hC 124 (Nat.le_of_ble_eq_true rfl) wd_1524 rfl dX12_spent_1 ?_
  refine lv_if_eq (tgt := 19) hx hb dX12_spent_4 (by decide) (fun c1 => ?_) (fun c1 => ?_)
  · have h := h.1 c1
    exact cut19 S _ _ _ h hC (lv_sub hl [0] rfl)
  · have h := h.2 c1
    refine lv_aload_n hx hb dX12_spent_7 rfl (lv_at hl 0 rfl) ?_
    refine lv_aload_n hx hb dX12_spent_8 rfl (lv_at hl 0 rfl) ?_
    refine mv_get (v := .int (S.1 35)) hX hC 125 (Nat.le_of_ble_eq_true rfl) wd_1525 rfl dX12_spent_9 ?_
    refine lv_aload_n hx hb dX12_spent_12 rfl (lv_at hl 0 rfl) ?_
    refine mv_get (v := .int (S.1 29)) hX hC 110 (Nat.le_of_ble_eq_true rfl) wd_1510 rfl dX12_spent_13 ?_
    refine mv_callv [.int (S.1 35), .int (S.1 29)] (rest := []) hX hC (ct_letGo l S (S.1 35) (S.1 29) _ h E _) (cw_X12_letGo hts (by omega) (by omega)) rfl hl.1 (Nat.le_of_ble_eq_true rfl) ⟨Nat.zero_le _, Nat.zero_le _⟩ dX12_spent_16 (fun S2 H locs hC h => ?_)
    exact cut19 S2 _ _ _ h hC (lv_sub hl [0] rfl)
def wp_step (S : mS) (K : mS → Int32 → Prop) : Prop := (((S.1 26) = 3000 → K S 0) ∧ (¬ (S.1 26) = 3000 → ((¬ (S.1 25) = 100000 → ∀ z3 : Int32, z3 = (S.1 26) + 1 → ∀ S4 : mS, S4 = sZ S 26 z3 → ∀ z5 : Int32, z5 = (S4.1 25) + 1 → ∀ S6 : mS, S6 = sZ S4 25 z5 → K S6 1) ∧ ((S.1 25) = 100000 → K S 0))))
set_option maxHeartbeats 4000000 in
set_option maxRecDepth 100000 in
theorem ct_step (l : Launch) (S : mS) (K : mS → Int32 → Prop) (h : wp_step S K) : mMi l yX12_step cX12_step 1 (some .boolean) 0 0 (fun E => []) S K := by
  refine mv_ofz (by decide) rfl (fun _ => Nat.le_of_ble_eq_true rfl) ?_
  intro E p e R s m args below meth c A ls Q hRf hRl hX hC hl hret
  have hx := hX.1.1
  have hb := hX.1.2.1
  have hown := hX.1.2.2.2.1
  have hts := hX.1.2.2.2.2
  have hl : lv_has ls 1 [(0, .ref E.2.1)] := hl
  unfold wp_step at h
  refine lv_aload_n hx hb dX12_step_0 rfl (lv_at hl 0 rfl) ?_
  refine mv_get (v := .int (S.1 26)) hX hC 101 (Nat.le_of_ble_eq_true rfl) wd_1501 rfl dX12_step_1 ?_
  refine lv_sipush (v := 3000) hx hb dX12_step_4 (by decide) ?_
  refine lv_icmp_eq (tgt := 20) hx hb dX12_step_7 (by decide) (fun c1 => ?_) (fun c1 => ?_)
  · have h := h.1 c1
    refine lv_iconst (v := 0) hx hb dX12_step_20 (by decide) ?_
    exact hret _ _ _ _ _ _ hC (Or.inl rfl) h dX12_step_21
  · have h := h.2 c1
    refine lv_aload_n hx hb dX12_step_10 rfl (lv_at hl 0 rfl) ?_
    refine mv_get (v := .int (S.1 25)) hX hC 100 (Nat.le_of_ble_eq_true rfl) wd_1500 rfl dX12_step_11 ?_
    refine lv_ldcw (v := 100000) hx hb hown (hts _ wd_2074) dX12_step_14 ?_
    refine lv_icmp_ne (tgt := 22) hx hb dX12_step_17 (by decide) (fun c2 => ?_) (fun c2 => ?_)
    · have h := h.1 c2
      refine lv_aload_n hx hb dX12_step_22 rfl (lv_at hl 0 rfl) ?_
      refine lv_dup hx hb dX12_step_23 rfl ?_
      refine mv_get (v := .int (S.1 26)) hX hC 101 (Nat.le_of_ble_eq_true rfl) wd_1501 rfl dX12_step_24 ?_
      refine lv_iconst (v := 1) hx hb dX12_step_27 (by decide) ?_
      refine lq_iadd hx hb dX12_step_28 h (fun z3 h => ?_)
      refine mq_put (v := z3) hX hC 101 26 (Nat.le_of_ble_eq_true rfl) wd_1501 rfl rfl rfl mz_26 dX12_step_29 h (fun S4 H locs hC h => ?_)
      refine lv_aload_n hx hb dX12_step_32 rfl (lv_at hl 0 rfl) ?_
      refine lv_dup hx hb dX12_step_33 rfl ?_
      refine mv_get (v := .int (S4.1 25)) hX hC 100 (Nat.le_of_ble_eq_true rfl) wd_1500 rfl dX12_step_34 ?_
      refine lv_iconst (v := 1) hx hb dX12_step_37 (by decide) ?_
      refine lq_iadd hx hb dX12_step_38 h (fun z5 h => ?_)
      refine mq_put (v := z5) hX hC 100 25 (Nat.le_of_ble_eq_true rfl) wd_1500 rfl rfl rfl mz_25 dX12_step_39 h (fun S6 H locs hC h => ?_)
      refine lv_iconst (v := 1) hx hb dX12_step_42 (by decide) ?_
      exact hret _ _ _ _ _ _ hC (Or.inr rfl) h dX12_step_43
    · have h := h.2 c2
      refine lv_iconst (v := 0) hx hb dX12_step_20 (by decide) ?_
      exact hret _ _ _ _ _ _ hC (Or.inl rfl) h dX12_step_21
def wp_tickNode_11 (K : mS → Prop) (x1 : Int32) (y1 : Int32) (y2 : Int32) (S : mS) : Prop := wp_newNode y1 y2 0 S (fun (S2 : mS) (r2 : Int32) => ∀ z3 : Int64, z3 = Int32.toInt64 (S2.1 24) → ∀ z4 : Int64, z4 = Int32.toInt64 x1 → ∀ z5 : Int64, z5 = z3 + z4 → inR r2 100300 ∧ ∀ S6 : mS, S6 = sG S2 86 (ix r2) z5 → K S6)
def wp_tickNode (a0 : Int32) (S : mS) (K : mS → Prop) : Prop := ((a0 ≤ 0 → wp_tickNode_11 K a0 4 1 S) ∧ (¬ a0 ≤ 0 → wp_tickNode_11 K a0 4 0 S))
set_option maxHeartbeats 4000000 in
set_option maxRecDepth 100000 in
theorem ct_tickNode (l : Launch) (S : mS) (a0 : Int32) (K : mS → Prop) (h : wp_tickNode a0 S K) : mMv l yX12_tickNode cX12_tickNode 3 none 1 24 (fun E => [.int a0]) S K := by
  refine mv_ofv (by decide) rfl (fun _ => Nat.le_of_ble_eq_true rfl) ?_
  intro E p e R s m args below meth c A ls Q hRf hRl hX hC hl hret
  have hx := hX.1.1
  have hb := hX.1.2.1
  have hown := hX.1.2.2.2.1
  have hts := hX.1.2.2.2.2
  have cut11 : ∀ (x1 : Int32) (y1 : Int32) (y2 : Int32) (S : mS) (H : Heap) (locs : List Loc) (ls : Array Slot), wp_tickNode_11 K x1 y1 y2 S → mC E A s.heap S H locs → lv_has ls 3 [(0, .ref E.2.1), (1, .int x1)] → W p l e R s m args below meth c H locs 0 0 Q (F0 m 11 ls [.int y2, .int y1, .ref E.2.1]) := by
    intro x1 y1 y2 S H locs ls h hC hl
    unfold wp_tickNode_11 at h
    refine lv_iconst (v := 0) hx hb dX12_tickNode_11 (by decide) ?_
    refine mv_calli [.int y1, .int y2, .int 0] (rest := []) hX hC (ct_newNode l S y1 y2 0 _ h E _) (cw_X12_newNode hts (by omega) (by omega)) rfl hl.1 (Nat.le_of_ble_eq_true rfl) ⟨Nat.zero_le _, Nat.zero_le _⟩ dX12_tickNode_12 (fun r2 S2 H locs hC h => ?_)
    refine lv_istore_n (lv' := [(2, .int r2), (0, .ref E.2.1), (1, .int x1)]) hx hb dX12_tickNode_15 rfl hl (by decide) rfl (fun ls hl => ?_)
    refine lv_aload_n hx hb dX12_tickNode_16 rfl (lv_at hl 1 rfl) ?_
    refine mv_get (v := .ref (E.2.2.1 86)) hX hC 117 (Nat.le_of_ble_eq_true rfl) wd_1517 rfl dX12_tickNode_17 ?_
    refine lv_iload_n hx hb dX12_tickNode_20 rfl (lv_at hl 0 rfl) ?_
    refine lv_aload_n hx hb dX12_tickNode_21 rfl (lv_at hl 1 rfl) ?_
    refine mv_get (v := .int (S2.1 24)) hX hC 99 (Nat.le_of_ble_eq_true rfl) wd_1499 rfl dX12_tickNode_22 ?_
    refine lq_i2l hx hb dX12_tickNode_25 h (fun z3 h => ?_)
    refine lv_iload_n hx hb dX12_tickNode_26 rfl (lv_at hl 2 rfl) ?_
    refine lq_i2l hx hb dX12_tickNode_27 h (fun z4 h => ?_)
    refine lq_ladd hx hb dX12_tickNode_28 h (fun z5 h => ?_)
    refine mq_lst (n := 100300) (v := z5) hX hC 86 rfl rfl mf_86 dX12_tickNode_29 h.1 h.2 (fun S6 H locs hC h => ?_)
    exact hret _ _ _ _ _ hC h dX12_tickNode_30
  have hl : lv_has ls 3 [(0, .ref E.2.1), (1, .int a0)] := hl
  unfold wp_tickNode at h
  refine lv_aload_n hx hb dX12_tickNode_0 rfl (lv_at hl 0 rfl) ?_
  refine lv_iconst (v := 4) hx hb dX12_tickNode_1 (by decide) ?_
  refine lv_iload_n hx hb dX12_tickNode_2 rfl (lv_at hl 1 rfl) ?_
  refine lv_if_le (tgt := 10) hx hb dX12_tickNode_3 (by decide) (fun c1 => ?_) (fun c1 => ?_)
  · have h := h.1 c1
    refine lv_iconst (v := 1) hx hb dX12_tickNode_10 (by decide) ?_
    exact cut11 a0 4 1 S _ _ _ h hC (lv_sub hl [0, 1] rfl)
  · have h := h.2 c1
    refine lv_iconst (v := 0) hx hb dX12_tickNode_6 (by decide) ?_
    refine lv_goto (tgt := 11) hx hb dX12_tickNode_7 (by decide) ?_
    exact cut11 a0 4 0 S _ _ _ h hC (lv_sub hl [0, 1] rfl)
def wp_shuts_26 (K : mS → Prop) (x1 : Int32) (S : mS) : Prop := inR x1 100300 ∧ ∀ S6 : mS, S6 = sF S 82 (ix x1) (S.1 29) → inR x1 100300 ∧ ∀ z7 : Int32, z7 = S6.2.1 81 (ix x1) → ∀ S8 : mS, S8 = sZ S6 36 z7 → wq_weighs x1 S8 (fun (S9 : mS) => K S9)
def wp_shuts (S : mS) (K : mS → Prop) : Prop := inR (S.1 36) 100300 ∧ ∀ z1 : Int32, z1 = S.2.1 80 (ix (S.1 36)) → ((¬ z1 = 2 → wp_shuts_26 K (S.1 36) S) ∧ (z1 = 2 → inR (S.1 36) 100300 ∧ ∀ z3 : Int64, z3 = S.2.2 86 (ix (S.1 36)) → ∀ z4 : Int32, z4 = Int64.toInt32 z3 → wp_tickNode z4 S (fun (S5 : mS) => wp_shuts_26 K (S.1 36) S5)))
theorem cw_X12_tickNode {R : Room} {s : State} {args : Array Value} {fr lo : Nat} (hts : ∀ w ∈ tb, w.before args s = true) (h1 : fr + 1 ≤ R.frames) (h2 : 8 + (3 + 11) + lo ≤ R.locals) : CallW R s args RX12 RX12 678 yX12_tickNode cX12_tickNode 3 none (.code yX12_tickNode cX12_tickNode 3 none :: tb) (mRm fr lo) 0 0 1 := cwV 1 hts (gd_V wd_2115 wd_2117 sl_X12_tickNode wd_15 wd_2118) rfl rfl rfl (by decide +kernel) ⟨h1, h2⟩
set_option maxHeartbeats 4000000 in
set_option maxRecDepth 100000 in
theorem ct_shuts (l : Launch) (S : mS) (K : mS → Prop) (h : wp_shuts S K) : mMv l yX12_shuts cX12_shuts 2 none 696 16705 (fun E => []) S K := by
  refine mv_ofv (by decide) rfl (fun _ => Nat.le_of_ble_eq_true rfl) ?_
  intro E p e R s m args below meth c A ls Q hRf hRl hX hC hl hret
  have hx := hX.1.1
  have hb := hX.1.2.1
  have hown := hX.1.2.2.2.1
  have hts := hX.1.2.2.2.2
  have cut26 : ∀ (x1 : Int32) (S : mS) (H : Heap) (locs : List Loc) (ls : Array Slot), wp_shuts_26 K x1 S → mC E A s.heap S H locs → lv_has ls 2 [(0, .ref E.2.1), (1, .int x1)] → W p l e R s m args below meth c H locs 0 0 Q (F0 m 26 ls []) := by
    intro x1 S H locs ls h hC hl
    unfold wp_shuts_26 at h
    refine lv_aload_n hx hb dX12_shuts_26 rfl (lv_at hl 0 rfl) ?_
    refine mv_get (v := .ref (E.2.2.1 82)) hX hC 113 (Nat.le_of_ble_eq_true rfl) wd_1513 rfl dX12_shuts_27 ?_
    refine lv_iload_n hx hb dX12_shuts_30 rfl (lv_at hl 1 rfl) ?_
    refine lv_aload_n hx hb dX12_shuts_31 rfl (lv_at hl 0 rfl) ?_
    refine mv_get (v := .int (S.1 29)) hX hC 110 (Nat.le_of_ble_eq_true rfl) wd_1510 rfl dX12_shuts_32 ?_
    refine mq_ist (n := 100300) (v := S.1 29) hX hC 82 rfl rfl mf_82 dX12_shuts_35 h.1 h.2 (fun S6 H locs hC h => ?_)
    refine lv_aload_n hx hb dX12_shuts_36 rfl (lv_at hl 0 rfl) ?_
    refine lv_aload_n hx hb dX12_shuts_37 rfl (lv_at hl 0 rfl) ?_
    refine mv_get (v := .ref (E.2.2.1 81)) hX hC 112 (Nat.le_of_ble_eq_true rfl) wd_1512 rfl dX12_shuts_38 ?_
    refine lv_iload_n hx hb dX12_shuts_41 rfl (lv_at hl 1 rfl) ?_
    refine mq_ild (n := 100300) hX hC 81 rfl rfl dX12_shuts_42 h (fun z7 h => ?_)
    refine mq_put (v := z7) hX hC 126 36 (Nat.le_of_ble_eq_true rfl) wd_1526 rfl rfl rfl mz_36 dX12_shuts_43 h (fun S8 H locs hC h => ?_)
    refine lv_aload_n hx hb dX12_shuts_46 rfl (lv_at hl 0 rfl) ?_
    refine lv_iload_n hx hb dX12_shuts_47 rfl (lv_at hl 1 rfl) ?_
    refine mv_callv [.int x1] (rest := []) hX hC (ct_weighs l S8 x1 _ h E _) (cw_X12_weighs hts (by omega) (by omega)) rfl hl.1 (Nat.le_of_ble_eq_true rfl) ⟨Nat.zero_le _, Nat.zero_le _⟩ dX12_shuts_48 (fun S9 H locs hC h => ?_)
    exact hret _ _ _ _ _ hC h dX12_shuts_51
  have hl : lv_has ls 2 [(0, .ref E.2.1)] := hl
  unfold wp_shuts at h
  refine lv_aload_n hx hb dX12_shuts_0 rfl (lv_at hl 0 rfl) ?_
  refine mv_get (v := .int (S.1 36)) hX hC 126 (Nat.le_of_ble_eq_true rfl) wd_1526 rfl dX12_shuts_1 ?_
  refine lv_istore_n (lv' := [(1, .int (S.1 36)), (0, .ref E.2.1)]) hx hb dX12_shuts_4 rfl hl (by decide) rfl (fun ls hl => ?_)
  refine lv_aload_n hx hb dX12_shuts_5 rfl (lv_at hl 1 rfl) ?_
  refine mv_get (v := .ref (E.2.2.1 80)) hX hC 111 (Nat.le_of_ble_eq_true rfl) wd_1511 rfl dX12_shuts_6 ?_
  refine lv_iload_n hx hb dX12_shuts_9 rfl (lv_at hl 0 rfl) ?_
  refine mq_ild (n := 100300) hX hC 80 rfl rfl dX12_shuts_10 h (fun z1 h => ?_)
  refine lv_iconst (v := 2) hx hb dX12_shuts_11 (by decide) ?_
  refine lv_icmp_ne (tgt := 26) hx hb dX12_shuts_12 (by decide) (fun c2 => ?_) (fun c2 => ?_)
  · have h := h.1 c2
    exact cut26 (S.1 36) S _ _ _ h hC (lv_sub hl [1, 0] rfl)
  · have h := h.2 c2
    refine lv_aload_n hx hb dX12_shuts_15 rfl (lv_at hl 1 rfl) ?_
    refine lv_aload_n hx hb dX12_shuts_16 rfl (lv_at hl 1 rfl) ?_
    refine mv_get (v := .ref (E.2.2.1 86)) hX hC 117 (Nat.le_of_ble_eq_true rfl) wd_1517 rfl dX12_shuts_17 ?_
    refine lv_iload_n hx hb dX12_shuts_20 rfl (lv_at hl 0 rfl) ?_
    refine mq_lld (n := 100300) hX hC 86 rfl rfl dX12_shuts_21 h (fun z3 h => ?_)
    refine lq_l2i hx hb dX12_shuts_22 h (fun z4 h => ?_)
    refine mv_callv [.int z4] (rest := []) hX hC (ct_tickNode l S z4 _ h E _) (cw_X12_tickNode hts (by omega) (by omega)) rfl hl.1 (Nat.le_of_ble_eq_true rfl) ⟨Nat.zero_le _, Nat.zero_le _⟩ dX12_shuts_23 (fun S5 H locs hC h => ?_)
    exact cut26 (S.1 36) S5 _ _ _ h hC (lv_sub hl [1, 0] rfl)
def wp_worksWait (a0 : Int32) (a1 : Int32) (a2 : Int32) (S : mS) (K : mS → Prop) : Prop := ((a0 = 24 → wp_letterNode a1 S (fun (S2 : mS) => K S2)) ∧ (¬ a0 = 24 → ((a0 = 25 → wp_pop S (fun (S4 : mS) (r4 : Int32) => wp_tickNode r4 S4 (fun (S5 : mS) => K S5))) ∧ (¬ a0 = 25 → ((a0 = 26 → wp_newNode 5 1 0 S (fun (S7 : mS) (r7 : Int32) => K S7)) ∧ (¬ a0 = 26 → ((a0 = 27 → wp_childNode a1 a2 S (fun (S9 : mS) => K S9)) ∧ (¬ a0 = 27 → ((a0 = 28 → wp_newNode a1 0 0 S (fun (S11 : mS) (r11 : Int32) => ((¬ a1 = 2 → inR r11 100300 ∧ ∀ S13 : mS, S13 = sG S11 86 (ix r11) 0 → ∀ S14 : mS, S14 = sZ S13 36 r11 → K S14) ∧ (a1 = 2 → wp_pop S11 (fun (S15 : mS) (r15 : Int32) => ∀ z16 : Int64, z16 = Int32.toInt64 r15 → inR r11 100300 ∧ ∀ S17 : mS, S17 = sG S15 86 (ix r11) z16 → ∀ S18 : mS, S18 = sZ S17 36 r11 → K S18))))) ∧ (¬ a0 = 28 → ((a0 = 29 → wp_shuts S (fun (S20 : mS) => K S20)) ∧ (¬ a0 = 29 → ((a0 = 30 → inR (S.1 33) 200 ∧ ∀ S22 : mS, S22 = sF S 64 (ix (S.1 33)) a1 → wp_stops (S22.1 35) S22 (fun (S23 : mS) => K S23)) ∧ (¬ a0 = 30 → ((a0 = 31 → ∀ S25 : mS, S25 = sZ S 34 1 → ∀ S26 : mS, S26 = sZ S25 35 (S25.1 29) → ∀ S27 : mS, S27 = sZ S26 36 (-1) → ∀ S28 : mS, S28 = sZ S27 37 a1 → inR (S28.1 33) 200 ∧ ∀ S29 : mS, S29 = sF S28 62 (ix (S28.1 33)) 0 → ∀ z30 : Int32, z30 = a2 + 1 → inR (S29.1 33) 200 ∧ ∀ S31 : mS, S31 = sF S29 59 (ix (S29.1 33)) z30 → K S31) ∧ (¬ a0 = 31 → inR (S.1 33) 200 ∧ ∀ S32 : mS, S32 = sF S 64 (ix (S.1 33)) a1 → wp_stops (S32.1 35) S32 (fun (S33 : mS) => K S33)))))))))))))))))
theorem cw_X12_letterNode {R : Room} {s : State} {args : Array Value} {fr lo : Nat} (hts : ∀ w ∈ tb, w.before args s = true) (h1 : fr + 1 ≤ R.frames) (h2 : 8 + (4 + 11) + lo ≤ R.locals) : CallW R s args RX12 RX12 675 yX12_letterNode cX12_letterNode 4 none (.code yX12_letterNode cX12_letterNode 4 none :: tb) (mRm fr lo) 0 0 1 := cwV 1 hts (gd_V wd_2107 wd_2109 sl_X12_letterNode wd_15 wd_2110) rfl rfl rfl (by decide +kernel) ⟨h1, h2⟩
theorem cw_X12_childNode {R : Room} {s : State} {args : Array Value} {fr lo : Nat} (hts : ∀ w ∈ tb, w.before args s = true) (h1 : fr + 1 ≤ R.frames) (h2 : 8 + (6 + 11) + lo ≤ R.locals) : CallW R s args RX12 RX12 681 yX12_childNode cX12_childNode 6 none (.code yX12_childNode cX12_childNode 6 none :: tb) (mRm fr lo) 0 0 2 := cwV 2 hts (gd_V wd_2119 wd_2121 sl_X12_childNode wd_15 wd_2122) rfl rfl rfl (by decide +kernel) ⟨h1, h2⟩
theorem cw_X12_shuts {R : Room} {s : State} {args : Array Value} {fr lo : Nat} (hts : ∀ w ∈ tb, w.before args s = true) (h1 : fr + 1 ≤ R.frames) (h2 : 8 + (2 + 11) + lo ≤ R.locals) : CallW R s args RX12 RX12 684 yX12_shuts cX12_shuts 2 none (.code yX12_shuts cX12_shuts 2 none :: tb) (mRm fr lo) 0 0 0 := cwV 0 hts (gd_V wd_2131 wd_2133 sl_X12_shuts wd_15 wd_2134) rfl rfl rfl (by decide +kernel) ⟨h1, h2⟩
set_option maxHeartbeats 4000000 in
set_option maxRecDepth 100000 in
theorem ct_worksWait (l : Launch) (S : mS) (a0 : Int32) (a1 : Int32) (a2 : Int32) (K : mS → Prop) (h : wp_worksWait a0 a1 a2 S K) : mMv l yX12_worksWait cX12_worksWait 6 none 699 16772 (fun E => [.int a0, .int a1, .int a2]) S K := by
  refine mv_ofv (by decide) rfl (fun _ => Nat.le_of_ble_eq_true rfl) ?_
  intro E p e R s m args below meth c A ls Q hRf hRl hX hC hl hret
  have hx := hX.1.1
  have hb := hX.1.2.1
  have hown := hX.1.2.2.2.1
  have hts := hX.1.2.2.2.2
  have hl : lv_has ls 6 [(0, .ref E.2.1), (1, .int a0), (2, .int a1), (3, .int a2)] := hl
  unfold wp_worksWait at h
  refine lv_iload_n hx hb dX12_worksWait_0 rfl (lv_at hl 1 rfl) ?_
  rcases Decidable.em (a0 = 24) with c1 | c1
  · have h := h.1 c1
    refine lv_tableIn (tgt := 94) hx hb dX12_worksWait_1 (by rw [c1]; decide) (by rw [c1]; decide) (by rw [c1]; rfl) (by decide) ?_
    refine lv_aload_n hx hb dX12_worksWait_94 rfl (lv_at hl 0 rfl) ?_
    refine lv_iload_n hx hb dX12_worksWait_95 rfl (lv_at hl 2 rfl) ?_
    refine mv_callv [.int a1] (rest := []) hX hC (ct_letterNode l S a1 _ h E _) (cw_X12_letterNode hts (by omega) (by omega)) rfl hl.1 (Nat.le_of_ble_eq_true rfl) ⟨Nat.zero_le _, Nat.zero_le _⟩ dX12_worksWait_96 (fun S2 H locs hC h => ?_)
    exact hret _ _ _ _ _ hC h dX12_worksWait_99
  have h := h.2 c1
  rcases Decidable.em (a0 = 25) with c3 | c3
  · have h := h.1 c3
    refine lv_tableIn (tgt := 100) hx hb dX12_worksWait_1 (by rw [c3]; decide) (by rw [c3]; decide) (by rw [c3]; rfl) (by decide) ?_
    refine lv_aload_n hx hb dX12_worksWait_100 rfl (lv_at hl 0 rfl) ?_
    refine lv_aload_n hx hb dX12_worksWait_101 rfl (lv_at hl 0 rfl) ?_
    refine mv_calli [] (rest := [.ref E.2.1]) hX hC (ct_pop l S _ h E _) (cw_X12_pop hts (by omega) (by omega)) rfl hl.1 (Nat.le_of_ble_eq_true rfl) ⟨Nat.zero_le _, Nat.zero_le _⟩ dX12_worksWait_102 (fun r4 S4 H locs hC h => ?_)
    refine mv_callv [.int r4] (rest := []) hX hC (ct_tickNode l S4 r4 _ h E _) (cw_X12_tickNode hts (by omega) (by omega)) rfl hl.1 (Nat.le_of_ble_eq_true rfl) ⟨Nat.zero_le _, Nat.zero_le _⟩ dX12_worksWait_105 (fun S5 H locs hC h => ?_)
    exact hret _ _ _ _ _ hC h dX12_worksWait_108
  have h := h.2 c3
  rcases Decidable.em (a0 = 26) with c6 | c6
  · have h := h.1 c6
    refine lv_tableIn (tgt := 109) hx hb dX12_worksWait_1 (by rw [c6]; decide) (by rw [c6]; decide) (by rw [c6]; rfl) (by decide) ?_
    refine lv_aload_n hx hb dX12_worksWait_109 rfl (lv_at hl 0 rfl) ?_
    refine lv_iconst (v := 5) hx hb dX12_worksWait_110 (by decide) ?_
    refine lv_iconst (v := 1) hx hb dX12_worksWait_111 (by decide) ?_
    refine lv_iconst (v := 0) hx hb dX12_worksWait_112 (by decide) ?_
    refine mv_calli [.int 5, .int 1, .int 0] (rest := []) hX hC (ct_newNode l S 5 1 0 _ h E _) (cw_X12_newNode hts (by omega) (by omega)) rfl hl.1 (Nat.le_of_ble_eq_true rfl) ⟨Nat.zero_le _, Nat.zero_le _⟩ dX12_worksWait_113 (fun r7 S7 H locs hC h => ?_)
    refine lv_istore (lv' := [(4, .int r7), (0, .ref E.2.1), (1, .int a0), (2, .int a1), (3, .int a2)]) hx hb dX12_worksWait_116 hl (by decide) rfl (fun ls hl => ?_)
    exact hret _ _ _ _ _ hC h dX12_worksWait_118
  have h := h.2 c6
  rcases Decidable.em (a0 = 27) with c8 | c8
  · have h := h.1 c8
    refine lv_tableIn (tgt := 119) hx hb dX12_worksWait_1 (by rw [c8]; decide) (by rw [c8]; decide) (by rw [c8]; rfl) (by decide) ?_
    refine lv_aload_n hx hb dX12_worksWait_119 rfl (lv_at hl 0 rfl) ?_
    refine lv_iload_n hx hb dX12_worksWait_120 rfl (lv_at hl 2 rfl) ?_
    refine lv_iload_n hx hb dX12_worksWait_121 rfl (lv_at hl 3 rfl) ?_
    refine mv_callv [.int a1, .int a2] (rest := []) hX hC (ct_childNode l S a1 a2 _ h E _) (cw_X12_childNode hts (by omega) (by omega)) rfl hl.1 (Nat.le_of_ble_eq_true rfl) ⟨Nat.zero_le _, Nat.zero_le _⟩ dX12_worksWait_122 (fun S9 H locs hC h => ?_)
    exact hret _ _ _ _ _ hC h dX12_worksWait_125
  have h := h.2 c8
  rcases Decidable.em (a0 = 28) with c10 | c10
  · have h := h.1 c10
    refine lv_tableIn (tgt := 126) hx hb dX12_worksWait_1 (by rw [c10]; decide) (by rw [c10]; decide) (by rw [c10]; rfl) (by decide) ?_
    refine lv_aload_n hx hb dX12_worksWait_126 rfl (lv_at hl 0 rfl) ?_
    refine lv_iload_n hx hb dX12_worksWait_127 rfl (lv_at hl 2 rfl) ?_
    refine lv_iconst (v := 0) hx hb dX12_worksWait_128 (by decide) ?_
    refine lv_iconst (v := 0) hx hb dX12_worksWait_129 (by decide) ?_
    refine mv_calli [.int a1, .int 0, .int 0] (rest := []) hX hC (ct_newNode l S a1 0 0 _ h E _) (cw_X12_newNode hts (by omega) (by omega)) rfl hl.1 (Nat.le_of_ble_eq_true rfl) ⟨Nat.zero_le _, Nat.zero_le _⟩ dX12_worksWait_130 (fun r11 S11 H locs hC h => ?_)
    refine lv_istore (lv' := [(5, .int r11), (0, .ref E.2.1), (1, .int a0), (2, .int a1), (3, .int a2)]) hx hb dX12_worksWait_133 hl (by decide) rfl (fun ls hl => ?_)
    refine lv_aload_n hx hb dX12_worksWait_135 rfl (lv_at hl 1 rfl) ?_
    refine mv_get (v := .ref (E.2.2.1 86)) hX hC 117 (Nat.le_of_ble_eq_true rfl) wd_1517 rfl dX12_worksWait_136 ?_
    refine lv_iload hx hb dX12_worksWait_139 (lv_at hl 0 rfl) ?_
    refine lv_iload_n hx hb dX12_worksWait_141 rfl (lv_at hl 3 rfl) ?_
    refine lv_iconst (v := 2) hx hb dX12_worksWait_142 (by decide) ?_
    refine lv_icmp_ne (tgt := 154) hx hb dX12_worksWait_143 (by decide) (fun c12 => ?_) (fun c12 => ?_)
    · have h := h.1 c12
      refine lv_lconst (v := 0) hx hb dX12_worksWait_154 (by decide) ?_
      refine mq_lst (n := 100300) (v := 0) hX hC 86 rfl rfl mf_86 dX12_worksWait_155 h.1 h.2 (fun S13 H locs hC h => ?_)
      refine lv_aload_n hx hb dX12_worksWait_156 rfl (lv_at hl 1 rfl) ?_
      refine lv_iload hx hb dX12_worksWait_157 (lv_at hl 0 rfl) ?_
      refine mq_put (v := r11) hX hC 126 36 (Nat.le_of_ble_eq_true rfl) wd_1526 rfl rfl rfl mz_36 dX12_worksWait_159 h (fun S14 H locs hC h => ?_)
      exact hret _ _ _ _ _ hC h dX12_worksWait_162
    · have h := h.2 c12
      refine lv_aload_n hx hb dX12_worksWait_146 rfl (lv_at hl 1 rfl) ?_
      refine mv_calli [] (rest := [.int r11, .ref (E.2.2.1 86)]) hX hC (ct_pop l S11 _ h E _) (cw_X12_pop hts (by omega) (by omega)) rfl hl.1 (Nat.le_of_ble_eq_true rfl) ⟨Nat.zero_le _, Nat.zero_le _⟩ dX12_worksWait_147 (fun r15 S15 H locs hC h => ?_)
      refine lq_i2l hx hb dX12_worksWait_150 h (fun z16 h => ?_)
      refine lv_goto (tgt := 155) hx hb dX12_worksWait_151 (by decide) ?_
      refine mq_lst (n := 100300) (v := z16) hX hC 86 rfl rfl mf_86 dX12_worksWait_155 h.1 h.2 (fun S17 H locs hC h => ?_)
      refine lv_aload_n hx hb dX12_worksWait_156 rfl (lv_at hl 1 rfl) ?_
      refine lv_iload hx hb dX12_worksWait_157 (lv_at hl 0 rfl) ?_
      refine mq_put (v := r11) hX hC 126 36 (Nat.le_of_ble_eq_true rfl) wd_1526 rfl rfl rfl mz_36 dX12_worksWait_159 h (fun S18 H locs hC h => ?_)
      exact hret _ _ _ _ _ hC h dX12_worksWait_162
  have h := h.2 c10
  rcases Decidable.em (a0 = 29) with c19 | c19
  · have h := h.1 c19
    refine lv_tableIn (tgt := 163) hx hb dX12_worksWait_1 (by rw [c19]; decide) (by rw [c19]; decide) (by rw [c19]; rfl) (by decide) ?_
    refine lv_aload_n hx hb dX12_worksWait_163 rfl (lv_at hl 0 rfl) ?_
    refine mv_callv [] (rest := []) hX hC (ct_shuts l S _ h E _) (cw_X12_shuts hts (by omega) (by omega)) rfl hl.1 (Nat.le_of_ble_eq_true rfl) ⟨Nat.zero_le _, Nat.zero_le _⟩ dX12_worksWait_164 (fun S20 H locs hC h => ?_)
    exact hret _ _ _ _ _ hC h dX12_worksWait_167
  have h := h.2 c19
  rcases Decidable.em (a0 = 30) with c21 | c21
  · have h := h.1 c21
    refine lv_tableIn (tgt := 168) hx hb dX12_worksWait_1 (by rw [c21]; decide) (by rw [c21]; decide) (by rw [c21]; rfl) (by decide) ?_
    refine lv_aload_n hx hb dX12_worksWait_168 rfl (lv_at hl 0 rfl) ?_
    refine mv_get (v := .ref (E.2.2.1 64)) hX hC 88 (Nat.le_of_ble_eq_true rfl) wd_1488 rfl dX12_worksWait_169 ?_
    refine lv_aload_n hx hb dX12_worksWait_172 rfl (lv_at hl 0 rfl) ?_
    refine mv_get (v := .int (S.1 33)) hX hC 123 (Nat.le_of_ble_eq_true rfl) wd_1523 rfl dX12_worksWait_173 ?_
    refine lv_iload_n hx hb dX12_worksWait_176 rfl (lv_at hl 2 rfl) ?_
    refine mq_ist (n := 200) (v := a1) hX hC 64 rfl rfl mf_64 dX12_worksWait_177 h.1 h.2 (fun S22 H locs hC h => ?_)
    refine lv_aload_n hx hb dX12_worksWait_178 rfl (lv_at hl 0 rfl) ?_
    refine lv_aload_n hx hb dX12_worksWait_179 rfl (lv_at hl 0 rfl) ?_
    refine mv_get (v := .int (S22.1 35)) hX hC 125 (Nat.le_of_ble_eq_true rfl) wd_1525 rfl dX12_worksWait_180 ?_
    refine mv_callv [.int (S22.1 35)] (rest := []) hX hC (ct_stops l S22 (S22.1 35) _ h E _) (cw_X12_stops hts (by omega) (by omega)) rfl hl.1 (Nat.le_of_ble_eq_true rfl) ⟨Nat.zero_le _, Nat.zero_le _⟩ dX12_worksWait_183 (fun S23 H locs hC h => ?_)
    exact hret _ _ _ _ _ hC h dX12_worksWait_186
  have h := h.2 c21
  rcases Decidable.em (a0 = 31) with c24 | c24
  · have h := h.1 c24
    refine lv_tableIn (tgt := 48) hx hb dX12_worksWait_1 (by rw [c24]; decide) (by rw [c24]; decide) (by rw [c24]; rfl) (by decide) ?_
    refine lv_aload_n hx hb dX12_worksWait_48 rfl (lv_at hl 0 rfl) ?_
    refine lv_iconst (v := 1) hx hb dX12_worksWait_49 (by decide) ?_
    refine mq_put (v := 1) hX hC 124 34 (Nat.le_of_ble_eq_true rfl) wd_1524 rfl rfl rfl mz_34 dX12_worksWait_50 h (fun S25 H locs hC h => ?_)
    refine lv_aload_n hx hb dX12_worksWait_53 rfl (lv_at hl 0 rfl) ?_
    refine lv_aload_n hx hb dX12_worksWait_54 rfl (lv_at hl 0 rfl) ?_
    refine mv_get (v := .int (S25.1 29)) hX hC 110 (Nat.le_of_ble_eq_true rfl) wd_1510 rfl dX12_worksWait_55 ?_
    refine mq_put (v := S25.1 29) hX hC 125 35 (Nat.le_of_ble_eq_true rfl) wd_1525 rfl rfl rfl mz_35 dX12_worksWait_58 h (fun S26 H locs hC h => ?_)
    refine lv_aload_n hx hb dX12_worksWait_61 rfl (lv_at hl 0 rfl) ?_
    refine lv_iconst (v := -1) hx hb dX12_worksWait_62 (by decide) ?_
    refine mq_put (v := -1) hX hC 126 36 (Nat.le_of_ble_eq_true rfl) wd_1526 rfl rfl rfl mz_36 dX12_worksWait_63 h (fun S27 H locs hC h => ?_)
    refine lv_aload_n hx hb dX12_worksWait_66 rfl (lv_at hl 0 rfl) ?_
    refine lv_iload_n hx hb dX12_worksWait_67 rfl (lv_at hl 2 rfl) ?_
    refine mq_put (v := a1) hX hC 127 37 (Nat.le_of_ble_eq_true rfl) wd_1527 rfl rfl rfl mz_37 dX12_worksWait_68 h (fun S28 H locs hC h => ?_)
    refine lv_aload_n hx hb dX12_worksWait_71 rfl (lv_at hl 0 rfl) ?_
    refine mv_get (v := .ref (E.2.2.1 62)) hX hC 86 (Nat.le_of_ble_eq_true rfl) wd_1486 rfl dX12_worksWait_72 ?_
    refine lv_aload_n hx hb dX12_worksWait_75 rfl (lv_at hl 0 rfl) ?_
    refine mv_get (v := .int (S28.1 33)) hX hC 123 (Nat.le_of_ble_eq_true rfl) wd_1523 rfl dX12_worksWait_76 ?_
    refine lv_iconst (v := 0) hx hb dX12_worksWait_79 (by decide) ?_
    refine mq_ist (n := 200) (v := 0) hX hC 62 rfl rfl mf_62 dX12_worksWait_80 h.1 h.2 (fun S29 H locs hC h => ?_)
    refine lv_aload_n hx hb dX12_worksWait_81 rfl (lv_at hl 0 rfl) ?_
    refine mv_get (v := .ref (E.2.2.1 59)) hX hC 83 (Nat.le_of_ble_eq_true rfl) wd_1483 rfl dX12_worksWait_82 ?_
    refine lv_aload_n hx hb dX12_worksWait_85 rfl (lv_at hl 0 rfl) ?_
    refine mv_get (v := .int (S29.1 33)) hX hC 123 (Nat.le_of_ble_eq_true rfl) wd_1523 rfl dX12_worksWait_86 ?_
    refine lv_iload_n hx hb dX12_worksWait_89 rfl (lv_at hl 3 rfl) ?_
    refine lv_iconst (v := 1) hx hb dX12_worksWait_90 (by decide) ?_
    refine lq_iadd hx hb dX12_worksWait_91 h (fun z30 h => ?_)
    refine mq_ist (n := 200) (v := z30) hX hC 59 rfl rfl mf_59 dX12_worksWait_92 h.1 h.2 (fun S31 H locs hC h => ?_)
    exact hret _ _ _ _ _ hC h dX12_worksWait_93
  have h := h.2 c24
  refine lv_tableOut (tgt := 168) hx hb dX12_worksWait_1 (by have nc1 := lv_neT c1 (show (24 : Int32).toInt = 24 by decide); have nc3 := lv_neT c3 (show (25 : Int32).toInt = 25 by decide); have nc6 := lv_neT c6 (show (26 : Int32).toInt = 26 by decide); have nc8 := lv_neT c8 (show (27 : Int32).toInt = 27 by decide); have nc10 := lv_neT c10 (show (28 : Int32).toInt = 28 by decide); have nc19 := lv_neT c19 (show (29 : Int32).toInt = 29 by decide); have nc21 := lv_neT c21 (show (30 : Int32).toInt = 30 by decide); have nc24 := lv_neT c24 (show (31 : Int32).toInt = 31 by decide); omega) (by decide) ?_
  refine lv_aload_n hx hb dX12_worksWait_168 rfl (lv_at hl 0 rfl) ?_
  refine mv_get (v := .ref (E.2.2.1 64)) hX hC 88 (Nat.le_of_ble_eq_true rfl) wd_1488 rfl dX12_worksWait_169 ?_
  refine lv_aload_n hx hb dX12_worksWait_172 rfl (lv_at hl 0 rfl) ?_
  refine mv_get (v := .int (S.1 33)) hX hC 123 (Nat.le_of_ble_eq_true rfl) wd_1523 rfl dX12_worksWait_173 ?_
  refine lv_iload_n hx hb dX12_worksWait_176 rfl (lv_at hl 2 rfl) ?_
  refine mq_ist (n := 200) (v := a1) hX hC 64 rfl rfl mf_64 dX12_worksWait_177 h.1 h.2 (fun S32 H locs hC h => ?_)
  refine lv_aload_n hx hb dX12_worksWait_178 rfl (lv_at hl 0 rfl) ?_
  refine lv_aload_n hx hb dX12_worksWait_179 rfl (lv_at hl 0 rfl) ?_
  refine mv_get (v := .int (S32.1 35)) hX hC 125 (Nat.le_of_ble_eq_true rfl) wd_1525 rfl dX12_worksWait_180 ?_
  refine mv_callv [.int (S32.1 35)] (rest := []) hX hC (ct_stops l S32 (S32.1 35) _ h E _) (cw_X12_stops hts (by omega) (by omega)) rfl hl.1 (Nat.le_of_ble_eq_true rfl) ⟨Nat.zero_le _, Nat.zero_le _⟩ dX12_worksWait_183 (fun S33 H locs hC h => ?_)
  exact hret _ _ _ _ _ hC h dX12_worksWait_186
