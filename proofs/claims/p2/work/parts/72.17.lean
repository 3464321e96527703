theorem wd_2066 : (Jvm.Cond.methodLink "SleepersModel" (618 : Nat) ({ cls := "SleepersModel", name := "works", desc := "(III)V" } : Jvm.MethodName)) ∈ tb := tb_at 2066 (by decide +kernel) (by decide +kernel)
theorem wd_2068 : (Jvm.Cond.instanceMethod ({ cls := "SleepersModel", name := "works", desc := "(III)V" } : Jvm.MethodName)) ∈ tb := tb_at 2068 (by decide +kernel) (by decide +kernel)
theorem wd_2069 : (Jvm.Cond.code ({ cls := "SleepersModel", name := "works", desc := "(III)V" } : Jvm.MethodName) prog_14_method_76_code (4 : Nat) (Option.none : Option Jvm.ClassFile.FieldType)) ∈ tb := tb_at 2069 (by decide +kernel) (by decide +kernel)
theorem wd_2070 : (Jvm.Cond.methodLink "SleepersModel" (621 : Nat) ({ cls := "SleepersModel", name := "step", desc := "()Z" } : Jvm.MethodName)) ∈ tb := tb_at 2070 (by decide +kernel) (by decide +kernel)
theorem wd_2072 : (Jvm.Cond.instanceMethod ({ cls := "SleepersModel", name := "step", desc := "()Z" } : Jvm.MethodName)) ∈ tb := tb_at 2072 (by decide +kernel) (by decide +kernel)
theorem wd_2073 : (Jvm.Cond.code ({ cls := "SleepersModel", name := "step", desc := "()Z" } : Jvm.MethodName) prog_14_method_72_code (1 : Nat) (Option.some Jvm.ClassFile.FieldType.boolean)) ∈ tb := tb_at 2073 (by decide +kernel) (by decide +kernel)
theorem wd_2075 : (Jvm.Cond.methodLink "SleepersModel" (624 : Nat) ({ cls := "SleepersModel", name := "spent", desc := "()V" } : Jvm.MethodName)) ∈ tb := tb_at 2075 (by decide +kernel) (by decide +kernel)
theorem wd_2077 : (Jvm.Cond.instanceMethod ({ cls := "SleepersModel", name := "spent", desc := "()V" } : Jvm.MethodName)) ∈ tb := tb_at 2077 (by decide +kernel) (by decide +kernel)
theorem wd_2078 : (Jvm.Cond.code ({ cls := "SleepersModel", name := "spent", desc := "()V" } : Jvm.MethodName) prog_14_method_80_code (1 : Nat) (Option.none : Option Jvm.ClassFile.FieldType)) ∈ tb := tb_at 2078 (by decide +kernel) (by decide +kernel)
theorem wd_2083 : (Jvm.Cond.methodLink "SleepersModel" (630 : Nat) ({ cls := "SleepersModel", name := "notePut", desc := "(I)V" } : Jvm.MethodName)) ∈ tb := tb_at 2083 (by decide +kernel) (by decide +kernel)
theorem wd_2085 : (Jvm.Cond.instanceMethod ({ cls := "SleepersModel", name := "notePut", desc := "(I)V" } : Jvm.MethodName)) ∈ tb := tb_at 2085 (by decide +kernel) (by decide +kernel)
theorem wd_2086 : (Jvm.Cond.code ({ cls := "SleepersModel", name := "notePut", desc := "(I)V" } : Jvm.MethodName) prog_14_method_77_code (2 : Nat) (Option.none : Option Jvm.ClassFile.FieldType)) ∈ tb := tb_at 2086 (by decide +kernel) (by decide +kernel)
theorem wd_2091 : (Jvm.Cond.methodLink "SleepersModel" (636 : Nat) ({ cls := "SleepersModel", name := "enter", desc := "(I)V" } : Jvm.MethodName)) ∈ tb := tb_at 2091 (by decide +kernel) (by decide +kernel)
theorem wd_2093 : (Jvm.Cond.instanceMethod ({ cls := "SleepersModel", name := "enter", desc := "(I)V" } : Jvm.MethodName)) ∈ tb := tb_at 2093 (by decide +kernel) (by decide +kernel)
theorem wd_2094 : (Jvm.Cond.code ({ cls := "SleepersModel", name := "enter", desc := "(I)V" } : Jvm.MethodName) prog_14_method_81_code (3 : Nat) (Option.none : Option Jvm.ClassFile.FieldType)) ∈ tb := tb_at 2094 (by decide +kernel) (by decide +kernel)
theorem wd_2095 : (Jvm.Cond.methodLink "SleepersModel" (639 : Nat) ({ cls := "SleepersModel", name := "leavePart", desc := "(I)V" } : Jvm.MethodName)) ∈ tb := tb_at 2095 (by decide +kernel) (by decide +kernel)
theorem wd_2097 : (Jvm.Cond.instanceMethod ({ cls := "SleepersModel", name := "leavePart", desc := "(I)V" } : Jvm.MethodName)) ∈ tb := tb_at 2097 (by decide +kernel) (by decide +kernel)
theorem wd_2098 : (Jvm.Cond.code ({ cls := "SleepersModel", name := "leavePart", desc := "(I)V" } : Jvm.MethodName) prog_14_method_83_code (3 : Nat) (Option.none : Option Jvm.ClassFile.FieldType)) ∈ tb := tb_at 2098 (by decide +kernel) (by decide +kernel)
theorem wd_2099 : (Jvm.Cond.methodLink "SleepersModel" (642 : Nat) ({ cls := "SleepersModel", name := "finished", desc := "(I)V" } : Jvm.MethodName)) ∈ tb := tb_at 2099 (by decide +kernel) (by decide +kernel)
theorem wd_2101 : (Jvm.Cond.instanceMethod ({ cls := "SleepersModel", name := "finished", desc := "(I)V" } : Jvm.MethodName)) ∈ tb := tb_at 2101 (by decide +kernel) (by decide +kernel)
theorem wd_2102 : (Jvm.Cond.code ({ cls := "SleepersModel", name := "finished", desc := "(I)V" } : Jvm.MethodName) prog_14_method_84_code (5 : Nat) (Option.none : Option Jvm.ClassFile.FieldType)) ∈ tb := tb_at 2102 (by decide +kernel) (by decide +kernel)
theorem wd_2103 : (Jvm.Cond.methodLink "SleepersModel" (645 : Nat) ({ cls := "SleepersModel", name := "worksWait", desc := "(III)V" } : Jvm.MethodName)) ∈ tb := tb_at 2103 (by decide +kernel) (by decide +kernel)
theorem wd_2105 : (Jvm.Cond.instanceMethod ({ cls := "SleepersModel", name := "worksWait", desc := "(III)V" } : Jvm.MethodName)) ∈ tb := tb_at 2105 (by decide +kernel) (by decide +kernel)
theorem wd_2106 : (Jvm.Cond.code ({ cls := "SleepersModel", name := "worksWait", desc := "(III)V" } : Jvm.MethodName) prog_14_method_90_code (6 : Nat) (Option.none : Option Jvm.ClassFile.FieldType)) ∈ tb := tb_at 2106 (by decide +kernel) (by decide +kernel)
theorem wd_2135 : (Jvm.Cond.methodLink "SleepersModel" (648 : Nat) ({ cls := "SleepersModel", name := "reckons", desc := "(II)V" } : Jvm.MethodName)) ∈ tb := tb_at 2135 (by decide +kernel) (by decide +kernel)
theorem wd_2137 : (Jvm.Cond.instanceMethod ({ cls := "SleepersModel", name := "reckons", desc := "(II)V" } : Jvm.MethodName)) ∈ tb := tb_at 2137 (by decide +kernel) (by decide +kernel)
theorem wd_2138 : (Jvm.Cond.code ({ cls := "SleepersModel", name := "reckons", desc := "(II)V" } : Jvm.MethodName) prog_14_method_78_code (5 : Nat) (Option.none : Option Jvm.ClassFile.FieldType)) ∈ tb := tb_at 2138 (by decide +kernel) (by decide +kernel)
theorem sl_X12_enter : Cond.selects RX12 yX12_enter yX12_enter ∈ tb := sl_of (y := ⟨"SleepersModel", "enter", "(I)V"⟩) (n := 128) (by decide +kernel) (by decide +kernel)
theorem sl_X12_finished : Cond.selects RX12 yX12_finished yX12_finished ∈ tb := sl_of (y := ⟨"SleepersModel", "finished", "(I)V"⟩) (n := 128) (by decide +kernel) (by decide +kernel)
theorem sl_X12_leavePart : Cond.selects RX12 yX12_leavePart yX12_leavePart ∈ tb := sl_of (y := ⟨"SleepersModel", "leavePart", "(I)V"⟩) (n := 128) (by decide +kernel) (by decide +kernel)
theorem sl_X12_notePut : Cond.selects RX12 yX12_notePut yX12_notePut ∈ tb := sl_of (y := ⟨"SleepersModel", "notePut", "(I)V"⟩) (n := 128) (by decide +kernel) (by decide +kernel)
theorem sl_X12_reckons : Cond.selects RX12 yX12_reckons yX12_reckons ∈ tb := sl_of (y := ⟨"SleepersModel", "reckons", "(II)V"⟩) (n := 128) (by decide +kernel) (by decide +kernel)
theorem sl_X12_spent : Cond.selects RX12 yX12_spent yX12_spent ∈ tb := sl_of (y := ⟨"SleepersModel", "spent", "()V"⟩) (n := 128) (by decide +kernel) (by decide +kernel)
theorem sl_X12_step : Cond.selects RX12 yX12_step yX12_step ∈ tb := sl_of (y := ⟨"SleepersModel", "step", "()Z"⟩) (n := 128) (by decide +kernel) (by decide +kernel)
theorem sl_X12_works : Cond.selects RX12 yX12_works yX12_works ∈ tb := sl_of (y := ⟨"SleepersModel", "works", "(III)V"⟩) (n := 128) (by decide +kernel) (by decide +kernel)
theorem sl_X12_worksWait : Cond.selects RX12 yX12_worksWait yX12_worksWait ∈ tb := sl_of (y := ⟨"SleepersModel", "worksWait", "(III)V"⟩) (n := 128) (by decide +kernel) (by decide +kernel)
theorem dX12_runs_0 : decode cX12_runs 0 = .ok (.aload_n 0, 1) := by decide +kernel
theorem dX12_runs_1 : decode cX12_runs 1 = .ok (.iload_n 1, 1) := by decide +kernel
theorem dX12_runs_2 : decode cX12_runs 2 = .ok (.putfield 600, 3) := by decide +kernel
theorem dX12_runs_5 : decode cX12_runs 5 = .ok (.aload_n 0, 1) := by decide +kernel
theorem dX12_runs_6 : decode cX12_runs 6 = .ok (.iconst 0, 1) := by decide +kernel
theorem dX12_runs_7 : decode cX12_runs 7 = .ok (.putfield 551, 3) := by decide +kernel
theorem dX12_runs_10 : decode cX12_runs 10 = .ok (.aload_n 0, 1) := by decide +kernel
theorem dX12_runs_11 : decode cX12_runs 11 = .ok (.iconst 0, 1) := by decide +kernel
theorem dX12_runs_12 : decode cX12_runs 12 = .ok (.putfield 603, 3) := by decide +kernel
theorem dX12_runs_15 : decode cX12_runs 15 = .ok (.aload_n 0, 1) := by decide +kernel
theorem dX12_runs_16 : decode cX12_runs 16 = .ok (.iconst 0, 1) := by decide +kernel
theorem dX12_runs_17 : decode cX12_runs 17 = .ok (.putfield 606, 3) := by decide +kernel
theorem dX12_runs_20 : decode cX12_runs 20 = .ok (.aload_n 0, 1) := by decide +kernel
theorem dX12_runs_21 : decode cX12_runs 21 = .ok (.getfield 213, 3) := by decide +kernel
theorem dX12_runs_24 : decode cX12_runs 24 = .ok (.aload_n 0, 1) := by decide +kernel
theorem dX12_runs_25 : decode cX12_runs 25 = .ok (.getfield 600, 3) := by decide +kernel
theorem dX12_runs_28 : decode cX12_runs 28 = .ok (.iaload, 1) := by decide +kernel
theorem dX12_runs_29 : decode cX12_runs 29 = .ok (.ifCond .le 7, 3) := by decide +kernel
theorem dX12_runs_32 : decode cX12_runs 32 = .ok (.iconst 1, 1) := by decide +kernel
theorem dX12_runs_33 : decode cX12_runs 33 = .ok (.goto 4, 3) := by decide +kernel
theorem dX12_runs_36 : decode cX12_runs 36 = .ok (.iconst 0, 1) := by decide +kernel
theorem dX12_runs_37 : decode cX12_runs 37 = .ok (.istore_n 2, 1) := by decide +kernel
theorem dX12_runs_38 : decode cX12_runs 38 = .ok (.aload_n 0, 1) := by decide +kernel
theorem dX12_runs_39 : decode cX12_runs 39 = .ok (.getfield 213, 3) := by decide +kernel
theorem dX12_runs_42 : decode cX12_runs 42 = .ok (.aload_n 0, 1) := by decide +kernel
theorem dX12_runs_43 : decode cX12_runs 43 = .ok (.getfield 600, 3) := by decide +kernel
theorem dX12_runs_46 : decode cX12_runs 46 = .ok (.dup2, 1) := by decide +kernel
theorem dX12_runs_47 : decode cX12_runs 47 = .ok (.iaload, 1) := by decide +kernel
theorem dX12_runs_48 : decode cX12_runs 48 = .ok (.iconst 1, 1) := by decide +kernel
theorem dX12_runs_49 : decode cX12_runs 49 = .ok (.iadd, 1) := by decide +kernel
theorem dX12_runs_50 : decode cX12_runs 50 = .ok (.iastore, 1) := by decide +kernel
theorem dX12_runs_51 : decode cX12_runs 51 = .ok (.aload_n 0, 1) := by decide +kernel
theorem dX12_runs_52 : decode cX12_runs 52 = .ok (.getfield 195, 3) := by decide +kernel
theorem dX12_runs_55 : decode cX12_runs 55 = .ok (.aload_n 0, 1) := by decide +kernel
theorem dX12_runs_56 : decode cX12_runs 56 = .ok (.getfield 600, 3) := by decide +kernel
theorem dX12_runs_59 : decode cX12_runs 59 = .ok (.iconst 4, 1) := by decide +kernel
theorem dX12_runs_60 : decode cX12_runs 60 = .ok (.iastore, 1) := by decide +kernel
theorem dX12_runs_61 : decode cX12_runs 61 = .ok (.aload_n 0, 1) := by decide +kernel
theorem dX12_runs_62 : decode cX12_runs 62 = .ok (.aload_n 0, 1) := by decide +kernel
theorem dX12_runs_63 : decode cX12_runs 63 = .ok (.getfield 204, 3) := by decide +kernel
theorem dX12_runs_66 : decode cX12_runs 66 = .ok (.aload_n 0, 1) := by decide +kernel
theorem dX12_runs_67 : decode cX12_runs 67 = .ok (.getfield 600, 3) := by decide +kernel
theorem dX12_runs_70 : decode cX12_runs 70 = .ok (.iaload, 1) := by decide +kernel
theorem dX12_runs_71 : decode cX12_runs 71 = .ok (.putfield 609, 3) := by decide +kernel
theorem dX12_runs_74 : decode cX12_runs 74 = .ok (.iload_n 2, 1) := by decide +kernel
theorem dX12_runs_75 : decode cX12_runs 75 = .ok (.ifCond .eq 104, 3) := by decide +kernel
theorem dX12_runs_78 : decode cX12_runs 78 = .ok (.aload_n 0, 1) := by decide +kernel
theorem dX12_runs_79 : decode cX12_runs 79 = .ok (.getfield 219, 3) := by decide +kernel
theorem dX12_runs_82 : decode cX12_runs 82 = .ok (.aload_n 0, 1) := by decide +kernel
theorem dX12_runs_83 : decode cX12_runs 83 = .ok (.getfield 600, 3) := by decide +kernel
theorem dX12_runs_86 : decode cX12_runs 86 = .ok (.iaload, 1) := by decide +kernel
theorem dX12_runs_87 : decode cX12_runs 87 = .ok (.istore_n 3, 1) := by decide +kernel
theorem dX12_runs_88 : decode cX12_runs 88 = .ok (.aload_n 0, 1) := by decide +kernel
theorem dX12_runs_89 : decode cX12_runs 89 = .ok (.getfield 219, 3) := by decide +kernel
theorem dX12_runs_92 : decode cX12_runs 92 = .ok (.aload_n 0, 1) := by decide +kernel
theorem dX12_runs_93 : decode cX12_runs 93 = .ok (.getfield 600, 3) := by decide +kernel
theorem dX12_runs_96 : decode cX12_runs 96 = .ok (.iconst 0, 1) := by decide +kernel
theorem dX12_runs_97 : decode cX12_runs 97 = .ok (.iastore, 1) := by decide +kernel
theorem dX12_runs_98 : decode cX12_runs 98 = .ok (.iload_n 3, 1) := by decide +kernel
theorem dX12_runs_99 : decode cX12_runs 99 = .ok (.iconst 1, 1) := by decide +kernel
theorem dX12_runs_100 : decode cX12_runs 100 = .ok (.if_icmp .ne 49, 3) := by decide +kernel
theorem dX12_runs_103 : decode cX12_runs 103 = .ok (.aload_n 0, 1) := by decide +kernel
theorem dX12_runs_104 : decode cX12_runs 104 = .ok (.getfield 225, 3) := by decide +kernel
theorem dX12_runs_107 : decode cX12_runs 107 = .ok (.aload_n 0, 1) := by decide +kernel
theorem dX12_runs_108 : decode cX12_runs 108 = .ok (.getfield 600, 3) := by decide +kernel
theorem dX12_runs_111 : decode cX12_runs 111 = .ok (.iaload, 1) := by decide +kernel
theorem dX12_runs_112 : decode cX12_runs 112 = .ok (.ifCond .lt 37, 3) := by decide +kernel
theorem dX12_runs_115 : decode cX12_runs 115 = .ok (.aload_n 0, 1) := by decide +kernel
theorem dX12_runs_116 : decode cX12_runs 116 = .ok (.getfield 207, 3) := by decide +kernel
theorem dX12_runs_119 : decode cX12_runs 119 = .ok (.bipush 12, 2) := by decide +kernel
theorem dX12_runs_121 : decode cX12_runs 121 = .ok (.aload_n 0, 1) := by decide +kernel
theorem dX12_runs_122 : decode cX12_runs 122 = .ok (.getfield 600, 3) := by decide +kernel
theorem dX12_runs_125 : decode cX12_runs 125 = .ok (.imul, 1) := by decide +kernel
theorem dX12_runs_126 : decode cX12_runs 126 = .ok (.aload_n 0, 1) := by decide +kernel
theorem dX12_runs_127 : decode cX12_runs 127 = .ok (.getfield 225, 3) := by decide +kernel
theorem dX12_runs_130 : decode cX12_runs 130 = .ok (.aload_n 0, 1) := by decide +kernel
theorem dX12_runs_131 : decode cX12_runs 131 = .ok (.getfield 600, 3) := by decide +kernel
theorem dX12_runs_134 : decode cX12_runs 134 = .ok (.iaload, 1) := by decide +kernel
theorem dX12_runs_135 : decode cX12_runs 135 = .ok (.iadd, 1) := by decide +kernel
theorem dX12_runs_136 : decode cX12_runs 136 = .ok (.aload_n 0, 1) := by decide +kernel
theorem dX12_runs_137 : decode cX12_runs 137 = .ok (.getfield 222, 3) := by decide +kernel
theorem dX12_runs_140 : decode cX12_runs 140 = .ok (.aload_n 0, 1) := by decide +kernel
theorem dX12_runs_141 : decode cX12_runs 141 = .ok (.getfield 600, 3) := by decide +kernel
theorem dX12_runs_144 : decode cX12_runs 144 = .ok (.iaload, 1) := by decide +kernel
theorem dX12_runs_145 : decode cX12_runs 145 = .ok (.iastore, 1) := by decide +kernel
theorem dX12_runs_146 : decode cX12_runs 146 = .ok (.goto 33, 3) := by decide +kernel
theorem dX12_runs_149 : decode cX12_runs 149 = .ok (.iload_n 3, 1) := by decide +kernel
theorem dX12_runs_150 : decode cX12_runs 150 = .ok (.iconst 2, 1) := by decide +kernel
theorem dX12_runs_151 : decode cX12_runs 151 = .ok (.if_icmp .ne 19, 3) := by decide +kernel
theorem dX12_runs_154 : decode cX12_runs 154 = .ok (.aload_n 0, 1) := by decide +kernel
theorem dX12_runs_155 : decode cX12_runs 155 = .ok (.aload_n 0, 1) := by decide +kernel
theorem dX12_runs_156 : decode cX12_runs 156 = .ok (.getfield 222, 3) := by decide +kernel
theorem dX12_runs_159 : decode cX12_runs 159 = .ok (.aload_n 0, 1) := by decide +kernel
theorem dX12_runs_160 : decode cX12_runs 160 = .ok (.getfield 600, 3) := by decide +kernel
theorem dX12_runs_163 : decode cX12_runs 163 = .ok (.iaload, 1) := by decide +kernel
theorem dX12_runs_164 : decode cX12_runs 164 = .ok (.invokevirtual 612, 3) := by decide +kernel
theorem dX12_runs_167 : decode cX12_runs 167 = .ok (.goto 12, 3) := by decide +kernel
theorem dX12_runs_170 : decode cX12_runs 170 = .ok (.iload_n 3, 1) := by decide +kernel
theorem dX12_runs_171 : decode cX12_runs 171 = .ok (.iconst 3, 1) := by decide +kernel
theorem dX12_runs_172 : decode cX12_runs 172 = .ok (.if_icmp .ne 7, 3) := by decide +kernel
theorem dX12_runs_175 : decode cX12_runs 175 = .ok (.aload_n 0, 1) := by decide +kernel
theorem dX12_runs_176 : decode cX12_runs 176 = .ok (.invokevirtual 615, 3) := by decide +kernel
theorem dX12_runs_179 : decode cX12_runs 179 = .ok (.aload_n 0, 1) := by decide +kernel
theorem dX12_runs_180 : decode cX12_runs 180 = .ok (.getfield 195, 3) := by decide +kernel
theorem dX12_runs_183 : decode cX12_runs 183 = .ok (.aload_n 0, 1) := by decide +kernel
theorem dX12_runs_184 : decode cX12_runs 184 = .ok (.getfield 600, 3) := by decide +kernel
theorem dX12_runs_187 : decode cX12_runs 187 = .ok (.iaload, 1) := by decide +kernel
theorem dX12_runs_188 : decode cX12_runs 188 = .ok (.iconst 4, 1) := by decide +kernel
theorem dX12_runs_189 : decode cX12_runs 189 = .ok (.if_icmp .ne 43, 3) := by decide +kernel
theorem dX12_runs_192 : decode cX12_runs 192 = .ok (.aload_n 0, 1) := by decide +kernel
theorem dX12_runs_193 : decode cX12_runs 193 = .ok (.getfield 609, 3) := by decide +kernel
theorem dX12_runs_196 : decode cX12_runs 196 = .ok (.istore_n 3, 1) := by decide +kernel
theorem dX12_runs_197 : decode cX12_runs 197 = .ok (.aload_n 0, 1) := by decide +kernel
theorem dX12_runs_198 : decode cX12_runs 198 = .ok (.dup, 1) := by decide +kernel
theorem dX12_runs_199 : decode cX12_runs 199 = .ok (.getfield 609, 3) := by decide +kernel
theorem dX12_runs_202 : decode cX12_runs 202 = .ok (.iconst 1, 1) := by decide +kernel
theorem dX12_runs_203 : decode cX12_runs 203 = .ok (.iadd, 1) := by decide +kernel
theorem dX12_runs_204 : decode cX12_runs 204 = .ok (.putfield 609, 3) := by decide +kernel
theorem dX12_runs_207 : decode cX12_runs 207 = .ok (.aload_n 0, 1) := by decide +kernel
theorem dX12_runs_208 : decode cX12_runs 208 = .ok (.aload_n 0, 1) := by decide +kernel
theorem dX12_runs_209 : decode cX12_runs 209 = .ok (.getfield 64, 3) := by decide +kernel
theorem dX12_runs_212 : decode cX12_runs 212 = .ok (.iload_n 3, 1) := by decide +kernel
theorem dX12_runs_213 : decode cX12_runs 213 = .ok (.iaload, 1) := by decide +kernel
theorem dX12_runs_214 : decode cX12_runs 214 = .ok (.aload_n 0, 1) := by decide +kernel
theorem dX12_runs_215 : decode cX12_runs 215 = .ok (.getfield 67, 3) := by decide +kernel
theorem dX12_runs_218 : decode cX12_runs 218 = .ok (.iload_n 3, 1) := by decide +kernel
theorem dX12_runs_219 : decode cX12_runs 219 = .ok (.iaload, 1) := by decide +kernel
theorem dX12_runs_220 : decode cX12_runs 220 = .ok (.aload_n 0, 1) := by decide +kernel
theorem dX12_runs_221 : decode cX12_runs 221 = .ok (.getfield 70, 3) := by decide +kernel
theorem dX12_runs_224 : decode cX12_runs 224 = .ok (.iload_n 3, 1) := by decide +kernel
theorem dX12_runs_225 : decode cX12_runs 225 = .ok (.iaload, 1) := by decide +kernel
theorem dX12_runs_226 : decode cX12_runs 226 = .ok (.invokevirtual 618, 3) := by decide +kernel
theorem dX12_runs_229 : decode cX12_runs 229 = .ok (.goto (-50), 3) := by decide +kernel
theorem dX12_runs_232 : decode cX12_runs 232 = .ok (.return_, 1) := by decide +kernel
theorem dX12_works_0 : decode cX12_works 0 = .ok (.iload_n 1, 1) := by decide +kernel
theorem dX12_works_1 : decode cX12_works 1 = .ok (.tableswitch 236 0 23 #[111, 122, 236, 236, 236, 236, 236, 236, 236, 236, 236, 236, 236, 134, 153, 162, 182, 188, 194, 204, 211, 218, 224, 230], 111) := by decide +kernel
theorem dX12_works_112 : decode cX12_works 112 = .ok (.aload_n 0, 1) := by decide +kernel
theorem dX12_works_113 : decode cX12_works 113 = .ok (.aload_n 0, 1) := by decide +kernel
theorem dX12_works_114 : decode cX12_works 114 = .ok (.getfield 600, 3) := by decide +kernel
theorem dX12_works_117 : decode cX12_works 117 = .ok (.iconst 0, 1) := by decide +kernel
theorem dX12_works_118 : decode cX12_works 118 = .ok (.iconst 0, 1) := by decide +kernel
theorem dX12_works_119 : decode cX12_works 119 = .ok (.invokevirtual 593, 3) := by decide +kernel
theorem dX12_works_122 : decode cX12_works 122 = .ok (.return_, 1) := by decide +kernel
theorem dX12_works_123 : decode cX12_works 123 = .ok (.aload_n 0, 1) := by decide +kernel
theorem dX12_works_124 : decode cX12_works 124 = .ok (.invokevirtual 621, 3) := by decide +kernel
theorem dX12_works_127 : decode cX12_works 127 = .ok (.ifCond .ne 7, 3) := by decide +kernel
theorem dX12_works_130 : decode cX12_works 130 = .ok (.aload_n 0, 1) := by decide +kernel
theorem dX12_works_131 : decode cX12_works 131 = .ok (.invokevirtual 624, 3) := by decide +kernel
theorem dX12_works_134 : decode cX12_works 134 = .ok (.return_, 1) := by decide +kernel
theorem dX12_works_135 : decode cX12_works 135 = .ok (.aload_n 0, 1) := by decide +kernel
theorem dX12_works_136 : decode cX12_works 136 = .ok (.getfield 207, 3) := by decide +kernel
theorem dX12_works_139 : decode cX12_works 139 = .ok (.bipush 12, 2) := by decide +kernel
theorem dX12_works_141 : decode cX12_works 141 = .ok (.aload_n 0, 1) := by decide +kernel
theorem dX12_works_142 : decode cX12_works 142 = .ok (.getfield 600, 3) := by decide +kernel
theorem dX12_works_145 : decode cX12_works 145 = .ok (.imul, 1) := by decide +kernel
theorem dX12_works_146 : decode cX12_works 146 = .ok (.iload_n 2, 1) := by decide +kernel
theorem dX12_works_147 : decode cX12_works 147 = .ok (.iadd, 1) := by decide +kernel
theorem dX12_works_148 : decode cX12_works 148 = .ok (.aload_n 0, 1) := by decide +kernel
theorem dX12_works_149 : decode cX12_works 149 = .ok (.invokevirtual 627, 3) := by decide +kernel
theorem dX12_works_152 : decode cX12_works 152 = .ok (.iastore, 1) := by decide +kernel
theorem dX12_works_153 : decode cX12_works 153 = .ok (.return_, 1) := by decide +kernel
theorem dX12_works_154 : decode cX12_works 154 = .ok (.aload_n 0, 1) := by decide +kernel
theorem dX12_works_155 : decode cX12_works 155 = .ok (.aload_n 0, 1) := by decide +kernel
theorem dX12_works_156 : decode cX12_works 156 = .ok (.invokevirtual 627, 3) := by decide +kernel
theorem dX12_works_159 : decode cX12_works 159 = .ok (.invokevirtual 630, 3) := by decide +kernel
theorem dX12_works_162 : decode cX12_works 162 = .ok (.return_, 1) := by decide +kernel
theorem dX12_works_163 : decode cX12_works 163 = .ok (.aload_n 0, 1) := by decide +kernel
theorem dX12_works_164 : decode cX12_works 164 = .ok (.aload_n 0, 1) := by decide +kernel
theorem dX12_works_165 : decode cX12_works 165 = .ok (.invokevirtual 627, 3) := by decide +kernel
theorem dX12_works_168 : decode cX12_works 168 = .ok (.ifCond .ne 7, 3) := by decide +kernel
theorem dX12_works_171 : decode cX12_works 171 = .ok (.iload_n 2, 1) := by decide +kernel
theorem dX12_works_172 : decode cX12_works 172 = .ok (.goto 7, 3) := by decide +kernel
theorem dX12_works_175 : decode cX12_works 175 = .ok (.aload_n 0, 1) := by decide +kernel
theorem dX12_works_176 : decode cX12_works 176 = .ok (.getfield 609, 3) := by decide +kernel
theorem dX12_works_179 : decode cX12_works 179 = .ok (.putfield 609, 3) := by decide +kernel
theorem dX12_works_182 : decode cX12_works 182 = .ok (.return_, 1) := by decide +kernel
theorem dX12_works_183 : decode cX12_works 183 = .ok (.aload_n 0, 1) := by decide +kernel
theorem dX12_works_184 : decode cX12_works 184 = .ok (.iload_n 2, 1) := by decide +kernel
theorem dX12_works_185 : decode cX12_works 185 = .ok (.putfield 609, 3) := by decide +kernel
theorem dX12_works_188 : decode cX12_works 188 = .ok (.return_, 1) := by decide +kernel
theorem dX12_works_189 : decode cX12_works 189 = .ok (.aload_n 0, 1) := by decide +kernel
theorem dX12_works_190 : decode cX12_works 190 = .ok (.iload_n 2, 1) := by decide +kernel
theorem dX12_works_191 : decode cX12_works 191 = .ok (.invokevirtual 612, 3) := by decide +kernel
theorem dX12_works_194 : decode cX12_works 194 = .ok (.return_, 1) := by decide +kernel
theorem dX12_works_195 : decode cX12_works 195 = .ok (.aload_n 0, 1) := by decide +kernel
theorem dX12_works_196 : decode cX12_works 196 = .ok (.iconst 5, 1) := by decide +kernel
theorem dX12_works_197 : decode cX12_works 197 = .ok (.aload_n 0, 1) := by decide +kernel
theorem dX12_works_198 : decode cX12_works 198 = .ok (.invokevirtual 627, 3) := by decide +kernel
theorem dX12_works_201 : decode cX12_works 201 = .ok (.invokevirtual 633, 3) := by decide +kernel
theorem dX12_works_204 : decode cX12_works 204 = .ok (.return_, 1) := by decide +kernel
theorem dX12_works_205 : decode cX12_works 205 = .ok (.aload_n 0, 1) := by decide +kernel
theorem dX12_works_206 : decode cX12_works 206 = .ok (.iconst 3, 1) := by decide +kernel
theorem dX12_works_207 : decode cX12_works 207 = .ok (.iload_n 2, 1) := by decide +kernel
theorem dX12_works_208 : decode cX12_works 208 = .ok (.invokevirtual 633, 3) := by decide +kernel
theorem dX12_works_211 : decode cX12_works 211 = .ok (.return_, 1) := by decide +kernel
theorem dX12_works_212 : decode cX12_works 212 = .ok (.aload_n 0, 1) := by decide +kernel
theorem dX12_works_213 : decode cX12_works 213 = .ok (.iconst 4, 1) := by decide +kernel
theorem dX12_works_214 : decode cX12_works 214 = .ok (.iload_n 2, 1) := by decide +kernel
theorem dX12_works_215 : decode cX12_works 215 = .ok (.invokevirtual 633, 3) := by decide +kernel
theorem dX12_works_218 : decode cX12_works 218 = .ok (.return_, 1) := by decide +kernel
theorem dX12_works_219 : decode cX12_works 219 = .ok (.aload_n 0, 1) := by decide +kernel
theorem dX12_works_220 : decode cX12_works 220 = .ok (.iload_n 2, 1) := by decide +kernel
theorem dX12_works_221 : decode cX12_works 221 = .ok (.invokevirtual 636, 3) := by decide +kernel
theorem dX12_works_224 : decode cX12_works 224 = .ok (.return_, 1) := by decide +kernel
theorem dX12_works_225 : decode cX12_works 225 = .ok (.aload_n 0, 1) := by decide +kernel
theorem dX12_works_226 : decode cX12_works 226 = .ok (.iload_n 2, 1) := by decide +kernel
theorem dX12_works_227 : decode cX12_works 227 = .ok (.invokevirtual 639, 3) := by decide +kernel
theorem dX12_works_230 : decode cX12_works 230 = .ok (.return_, 1) := by decide +kernel
theorem dX12_works_231 : decode cX12_works 231 = .ok (.aload_n 0, 1) := by decide +kernel
theorem dX12_works_232 : decode cX12_works 232 = .ok (.iload_n 2, 1) := by decide +kernel
theorem dX12_works_233 : decode cX12_works 233 = .ok (.invokevirtual 642, 3) := by decide +kernel
theorem dX12_works_236 : decode cX12_works 236 = .ok (.return_, 1) := by decide +kernel
theorem dX12_works_237 : decode cX12_works 237 = .ok (.iload_n 1, 1) := by decide +kernel
theorem dX12_works_238 : decode cX12_works 238 = .ok (.bipush 24, 2) := by decide +kernel
theorem dX12_works_240 : decode cX12_works 240 = .ok (.if_icmp .lt 13, 3) := by decide +kernel
theorem dX12_works_243 : decode cX12_works 243 = .ok (.aload_n 0, 1) := by decide +kernel
theorem dX12_works_244 : decode cX12_works 244 = .ok (.iload_n 1, 1) := by decide +kernel
theorem dX12_works_245 : decode cX12_works 245 = .ok (.iload_n 2, 1) := by decide +kernel
theorem dX12_works_246 : decode cX12_works 246 = .ok (.iload_n 3, 1) := by decide +kernel
theorem dX12_works_247 : decode cX12_works 247 = .ok (.invokevirtual 645, 3) := by decide +kernel
theorem dX12_works_250 : decode cX12_works 250 = .ok (.goto 9, 3) := by decide +kernel
theorem dX12_works_253 : decode cX12_works 253 = .ok (.aload_n 0, 1) := by decide +kernel
theorem dX12_works_254 : decode cX12_works 254 = .ok (.iload_n 1, 1) := by decide +kernel
theorem dX12_works_255 : decode cX12_works 255 = .ok (.iload_n 2, 1) := by decide +kernel
theorem dX12_works_256 : decode cX12_works 256 = .ok (.invokevirtual 648, 3) := by decide +kernel
theorem dX12_works_259 : decode cX12_works 259 = .ok (.return_, 1) := by decide +kernel
def wp_works (a0 : Int32) (a1 : Int32) (a2 : Int32) (S : mS) (K : mS → Prop) : Prop := ((a0 = 0 → wq_ends (S.1 33) 0 0 S (fun (S2 : mS) => K S2)) ∧ (¬ a0 = 0 → ((a0 = 1 → wp_step S (fun (S4 : mS) (r4 : Int32) => ((¬ r4 = 0 → K S4) ∧ (r4 = 0 → wp_spent S4 (fun (S6 : mS) => K S6))))) ∧ (¬ a0 = 1 → ((a0 = 2 → ((a0 < 24 → wp_reckons a0 a1 S (fun (S9 : mS) => K S9)) ∧ (¬ a0 < 24 → wp_worksWait a0 a1 a2 S (fun (S10 : mS) => K S10)))) ∧ (¬ a0 = 2 → ((a0 = 3 → ((a0 < 24 → wp_reckons a0 a1 S (fun (S13 : mS) => K S13)) ∧ (¬ a0 < 24 → wp_worksWait a0 a1 a2 S (fun (S14 : mS) => K S14)))) ∧ (¬ a0 = 3 → ((a0 = 4 → ((a0 < 24 → wp_reckons a0 a1 S (fun (S17 : mS) => K S17)) ∧ (¬ a0 < 24 → wp_worksWait a0 a1 a2 S (fun (S18 : mS) => K S18)))) ∧ (¬ a0 = 4 → ((a0 = 5 → ((a0 < 24 → wp_reckons a0 a1 S (fun (S21 : mS) => K S21)) ∧ (¬ a0 < 24 → wp_worksWait a0 a1 a2 S (fun (S22 : mS) => K S22)))) ∧ (¬ a0 = 5 → ((a0 = 6 → ((a0 < 24 → wp_reckons a0 a1 S (fun (S25 : mS) => K S25)) ∧ (¬ a0 < 24 → wp_worksWait a0 a1 a2 S (fun (S26 : mS) => K S26)))) ∧ (¬ a0 = 6 → ((a0 = 7 → ((a0 < 24 → wp_reckons a0 a1 S (fun (S29 : mS) => K S29)) ∧ (¬ a0 < 24 → wp_worksWait a0 a1 a2 S (fun (S30 : mS) => K S30)))) ∧ (¬ a0 = 7 → ((a0 = 8 → ((a0 < 24 → wp_reckons a0 a1 S (fun (S33 : mS) => K S33)) ∧ (¬ a0 < 24 → wp_worksWait a0 a1 a2 S (fun (S34 : mS) => K S34)))) ∧ (¬ a0 = 8 → ((a0 = 9 → ((a0 < 24 → wp_reckons a0 a1 S (fun (S37 : mS) => K S37)) ∧ (¬ a0 < 24 → wp_worksWait a0 a1 a2 S (fun (S38 : mS) => K S38)))) ∧ (¬ a0 = 9 → ((a0 = 10 → ((a0 < 24 → wp_reckons a0 a1 S (fun (S41 : mS) => K S41)) ∧ (¬ a0 < 24 → wp_worksWait a0 a1 a2 S (fun (S42 : mS) => K S42)))) ∧ (¬ a0 = 10 → ((a0 = 11 → ((a0 < 24 → wp_reckons a0 a1 S (fun (S45 : mS) => K S45)) ∧ (¬ a0 < 24 → wp_worksWait a0 a1 a2 S (fun (S46 : mS) => K S46)))) ∧ (¬ a0 = 11 → ((a0 = 12 → ((a0 < 24 → wp_reckons a0 a1 S (fun (S49 : mS) => K S49)) ∧ (¬ a0 < 24 → wp_worksWait a0 a1 a2 S (fun (S50 : mS) => K S50)))) ∧ (¬ a0 = 12 → ((a0 = 13 → ∀ z52 : Int32, z52 = 12 * (S.1 33) → ∀ z53 : Int32, z53 = z52 + a1 → wp_pop S (fun (S54 : mS) (r54 : Int32) => inR z53 2400 ∧ ∀ S55 : mS, S55 = sF S54 58 (ix z53) r54 → K S55)) ∧ (¬ a0 = 13 → ((a0 = 14 → wp_pop S (fun (S57 : mS) (r57 : Int32) => wp_notePut r57 S57 (fun (S58 : mS) => K S58))) ∧ (¬ a0 = 14 → ((a0 = 15 → wp_pop S (fun (S60 : mS) (r60 : Int32) => ((¬ r60 = 0 → ∀ S62 : mS, S62 = sZ S60 32 (S60.1 32) → K S62) ∧ (r60 = 0 → ∀ S63 : mS, S63 = sZ S60 32 a1 → K S63)))) ∧ (¬ a0 = 15 → ((a0 = 16 → ∀ S65 : mS, S65 = sZ S 32 a1 → K S65) ∧ (¬ a0 = 16 → ((a0 = 17 → wp_raise a1 S (fun (S67 : mS) => K S67)) ∧ (¬ a0 = 17 → ((a0 = 18 → wp_pop S (fun (S69 : mS) (r69 : Int32) => wp_leave 5 r69 S69 (fun (S70 : mS) => K S70))) ∧ (¬ a0 = 18 → ((a0 = 19 → wp_leave 3 a1 S (fun (S72 : mS) => K S72)) ∧ (¬ a0 = 19 → ((a0 = 20 → wp_leave 4 a1 S (fun (S74 : mS) => K S74)) ∧ (¬ a0 = 20 → ((a0 = 21 → wp_enter a1 S (fun (S76 : mS) => K S76)) ∧ (¬ a0 = 21 → ((a0 = 22 → wp_leavePart a1 S (fun (S78 : mS) => K S78)) ∧ (¬ a0 = 22 → ((a0 = 23 → wp_finished a1 S (fun (S80 : mS) => K S80)) ∧ (¬ a0 = 23 → ((a0 < 24 → wp_reckons a0 a1 S (fun (S82 : mS) => K S82)) ∧ (¬ a0 < 24 → wp_worksWait a0 a1 a2 S (fun (S83 : mS) => K S83)))))))))))))))))))))))))))))))))))))))))))))))))))
theorem cw_X12_step {R : Room} {s : State} {args : Array Value} {fr lo : Nat} (hts : ∀ w ∈ tb, w.before args s = true) (h1 : fr + 1 ≤ R.frames) (h2 : 8 + (1 + 11) + lo ≤ R.locals) : CallW R s args RX12 RX12 621 yX12_step cX12_step 1 (some .boolean) (.code yX12_step cX12_step 1 (some .boolean) :: tb) (mRm fr lo) 0 0 0 := cwV 0 hts (gd_V wd_2070 wd_2072 sl_X12_step wd_15 wd_2073) rfl rfl rfl (by decide +kernel) ⟨h1, h2⟩
theorem cw_X12_spent {R : Room} {s : State} {args : Array Value} {fr lo : Nat} (hts : ∀ w ∈ tb, w.before args s = true) (h1 : fr + 1 ≤ R.frames) (h2 : 8 + (1 + 11) + lo ≤ R.locals) : CallW R s args RX12 RX12 624 yX12_spent cX12_spent 1 none (.code yX12_spent cX12_spent 1 none :: tb) (mRm fr lo) 0 0 0 := cwV 0 hts (gd_V wd_2075 wd_2077 sl_X12_spent wd_15 wd_2078) rfl rfl rfl (by decide +kernel) ⟨h1, h2⟩
theorem cw_X12_reckons {R : Room} {s : State} {args : Array Value} {fr lo : Nat} (hts : ∀ w ∈ tb, w.before args s = true) (h1 : fr + 1 ≤ R.frames) (h2 : 8 + (5 + 11) + lo ≤ R.locals) : CallW R s args RX12 RX12 648 yX12_reckons cX12_reckons 5 none (.code yX12_reckons cX12_reckons 5 none :: tb) (mRm fr lo) 0 0 2 := cwV 2 hts (gd_V wd_2135 wd_2137 sl_X12_reckons wd_15 wd_2138) rfl rfl rfl (by decide +kernel) ⟨h1, h2⟩
theorem cw_X12_worksWait {R : Room} {s : State} {args : Array Value} {fr lo : Nat} (hts : ∀ w ∈ tb, w.before args s = true) (h1 : fr + 1 ≤ R.frames) (h2 : 8 + (6 + 11) + lo ≤ R.locals) : CallW R s args RX12 RX12 645 yX12_worksWait cX12_worksWait 6 none (.code yX12_worksWait cX12_worksWait 6 none :: tb) (mRm fr lo) 0 0 3 := cwV 3 hts (gd_V wd_2103 wd_2105 sl_X12_worksWait wd_15 wd_2106) rfl rfl rfl (by decide +kernel) ⟨h1, h2⟩
theorem cw_X12_notePut {R : Room} {s : State} {args : Array Value} {fr lo : Nat} (hts : ∀ w ∈ tb, w.before args s = true) (h1 : fr + 1 ≤ R.frames) (h2 : 8 + (2 + 11) + lo ≤ R.locals) : CallW R s args RX12 RX12 630 yX12_notePut cX12_notePut 2 none (.code yX12_notePut cX12_notePut 2 none :: tb) (mRm fr lo) 0 0 1 := cwV 1 hts (gd_V wd_2083 wd_2085 sl_X12_notePut wd_15 wd_2086) rfl rfl rfl (by decide +kernel) ⟨h1, h2⟩
theorem cw_X12_enter {R : Room} {s : State} {args : Array Value} {fr lo : Nat} (hts : ∀ w ∈ tb, w.before args s = true) (h1 : fr + 1 ≤ R.frames) (h2 : 8 + (3 + 11) + lo ≤ R.locals) : CallW R s args RX12 RX12 636 yX12_enter cX12_enter 3 none (.code yX12_enter cX12_enter 3 none :: tb) (mRm fr lo) 0 0 1 := cwV 1 hts (gd_V wd_2091 wd_2093 sl_X12_enter wd_15 wd_2094) rfl rfl rfl (by decide +kernel) ⟨h1, h2⟩
theorem cw_X12_leavePart {R : Room} {s : State} {args : Array Value} {fr lo : Nat} (hts : ∀ w ∈ tb, w.before args s = true) (h1 : fr + 1 ≤ R.frames) (h2 : 8 + (3 + 11) + lo ≤ R.locals) : CallW R s args RX12 RX12 639 yX12_leavePart cX12_leavePart 3 none (.code yX12_leavePart cX12_leavePart 3 none :: tb) (mRm fr lo) 0 0 1 := cwV 1 hts (gd_V wd_2095 wd_2097 sl_X12_leavePart wd_15 wd_2098) rfl rfl rfl (by decide +kernel) ⟨h1, h2⟩
theorem cw_X12_finished {R : Room} {s : State} {args : Array Value} {fr lo : Nat} (hts : ∀ w ∈ tb, w.before args s = true) (h1 : fr + 1 ≤ R.frames) (h2 : 8 + (5 + 11) + lo ≤ R.locals) : CallW R s args RX12 RX12 642 yX12_finished cX12_finished 5 none (.code yX12_finished cX12_finished 5 none :: tb) (mRm fr lo) 0 0 1 := cwV 1 hts (gd_V wd_2099 wd_2101 sl_X12_finished wd_15 wd_2102) rfl rfl rfl (by decide +kernel) ⟨h1, h2⟩
set_option maxHeartbeats 4000000 in
set_option maxRecDepth 100000 in
theorem ct_works (l : Launch) (S : mS) (a0 : Int32) (a1 : Int32) (a2 : Int32) (K : mS → Prop) (h : wp_works a0 a1 a2 S K) : mMv l yX12_works cX12_works 4 none 700 16797 (fun E => [.int a0, .int a1, .int a2]) S K := by
  refine mv_ofv (by decide) rfl (fun _ => Nat.le_of_ble_eq_true rfl) ?_
  intro E p e R s m args below meth c A ls Q hRf hRl hX hC hl hret
  have hx := hX.1.1
  have hb := hX.1.2.1
  have hown := hX.1.2.2.2.1
  have hts := hX.1.2.2.2.2
  have hl : lv_has ls 4 [(0, .ref E.2.1), (1, .int a0), (2, .int a1), (3, .int a2)] := hl
  unfold wp_works at h
  refine lv_iload_n hx hb dX12_works_0 rfl (lv_at hl 1 rfl) ?_
  rcases Decidable.em (a0 = 0) with c1 | c1
  · have h := h.1 c1
    refine lv_tableIn (tgt := 112) hx hb dX12_works_1 (by rw [c1]; decide) (by rw [c1]; decide) (by rw [c1]; rfl) (by decide) ?_
    refine lv_aload_n hx hb dX12_works_112 rfl (lv_at hl 0 rfl) ?_
    refine lv_aload_n hx hb dX12_works_113 rfl (lv_at hl 0 rfl) ?_
    refine mv_get (v := .int (S.1 33)) hX hC 123 (Nat.le_of_ble_eq_true rfl) wd_1523 rfl dX12_works_114 ?_
    refine lv_iconst (v := 0) hx hb dX12_works_117 (by decide) ?_
    refine lv_iconst (v := 0) hx hb dX12_works_118 (by decide) ?_
    refine mv_callv [.int (S.1 33), .int 0, .int 0] (rest := []) hX hC (ct_ends l S (S.1 33) 0 0 _ h E _) (cw_X12_ends hts (by omega) (by omega)) rfl hl.1 (Nat.le_of_ble_eq_true rfl) ⟨Nat.zero_le _, Nat.zero_le _⟩ dX12_works_119 (fun S2 H locs hC h => ?_)
    exact hret _ _ _ _ _ hC h dX12_works_122
  have h := h.2 c1
  rcases Decidable.em (a0 = 1) with c3 | c3
  · have h := h.1 c3
    refine lv_tableIn (tgt := 123) hx hb dX12_works_1 (by rw [c3]; decide) (by rw [c3]; decide) (by rw [c3]; rfl) (by decide) ?_
    refine lv_aload_n hx hb dX12_works_123 rfl (lv_at hl 0 rfl) ?_
    refine mv_calli [] (rest := []) hX hC (ct_step l S _ h E _) (cw_X12_step hts (by omega) (by omega)) rfl hl.1 (Nat.le_of_ble_eq_true rfl) ⟨Nat.zero_le _, Nat.zero_le _⟩ dX12_works_124 (fun r4 S4 H locs hC h => ?_)
    refine lv_if_ne (tgt := 134) hx hb dX12_works_127 (by decide) (fun c5 => ?_) (fun c5 => ?_)
    · have h := h.1 c5
      exact hret _ _ _ _ _ hC h dX12_works_134
    · have h := h.2 c5
      refine lv_aload_n hx hb dX12_works_130 rfl (lv_at hl 0 rfl) ?_
      refine mv_callv [] (rest := []) hX hC (ct_spent l S4 _ h E _) (cw_X12_spent hts (by omega) (by omega)) rfl hl.1 (Nat.le_of_ble_eq_true rfl) ⟨Nat.zero_le _, Nat.zero_le _⟩ dX12_works_131 (fun S6 H locs hC h => ?_)
      exact hret _ _ _ _ _ hC h dX12_works_134
  have h := h.2 c3
  rcases Decidable.em (a0 = 2) with c7 | c7
  · have h := h.1 c7
    refine lv_tableIn (tgt := 237) hx hb dX12_works_1 (by rw [c7]; decide) (by rw [c7]; decide) (by rw [c7]; rfl) (by decide) ?_
    refine lv_iload_n hx hb dX12_works_237 rfl (lv_at hl 1 rfl) ?_
    refine lv_bipush (v := 24) hx hb dX12_works_238 (by decide) ?_
    refine lv_icmp_lt (tgt := 253) hx hb dX12_works_240 (by decide) (fun c8 => ?_) (fun c8 => ?_)
    · have h := h.1 c8
      refine lv_aload_n hx hb dX12_works_253 rfl (lv_at hl 0 rfl) ?_
      refine lv_iload_n hx hb dX12_works_254 rfl (lv_at hl 1 rfl) ?_
      refine lv_iload_n hx hb dX12_works_255 rfl (lv_at hl 2 rfl) ?_
      refine mv_callv [.int a0, .int a1] (rest := []) hX hC (ct_reckons l S a0 a1 _ h E _) (cw_X12_reckons hts (by omega) (by omega)) rfl hl.1 (Nat.le_of_ble_eq_true rfl) ⟨Nat.zero_le _, Nat.zero_le _⟩ dX12_works_256 (fun S9 H locs hC h => ?_)
      exact hret _ _ _ _ _ hC h dX12_works_259
    · have h := h.2 c8
      refine lv_aload_n hx hb dX12_works_243 rfl (lv_at hl 0 rfl) ?_
      refine lv_iload_n hx hb dX12_works_244 rfl (lv_at hl 1 rfl) ?_
      refine lv_iload_n hx hb dX12_works_245 rfl (lv_at hl 2 rfl) ?_
      refine lv_iload_n hx hb dX12_works_246 rfl (lv_at hl 3 rfl) ?_
      refine mv_callv [.int a0, .int a1, .int a2] (rest := []) hX hC (ct_worksWait l S a0 a1 a2 _ h E _) (cw_X12_worksWait hts (by omega) (by omega)) rfl hl.1 (Nat.le_of_ble_eq_true rfl) ⟨Nat.zero_le _, Nat.zero_le _⟩ dX12_works_247 (fun S10 H locs hC h => ?_)
      refine lv_goto (tgt := 259) hx hb dX12_works_250 (by decide) ?_
      exact hret _ _ _ _ _ hC h dX12_works_259
  have h := h.2 c7
  rcases Decidable.em (a0 = 3) with c11 | c11
  · have h := h.1 c11
    refine lv_tableIn (tgt := 237) hx hb dX12_works_1 (by rw [c11]; decide) (by rw [c11]; decide) (by rw [c11]; rfl) (by decide) ?_
    refine lv_iload_n hx hb dX12_works_237 rfl (lv_at hl 1 rfl) ?_
    refine lv_bipush (v := 24) hx hb dX12_works_238 (by decide) ?_
    refine lv_icmp_lt (tgt := 253) hx hb dX12_works_240 (by decide) (fun c12 => ?_) (fun c12 => ?_)
    · have h := h.1 c12
      refine lv_aload_n hx hb dX12_works_253 rfl (lv_at hl 0 rfl) ?_
      refine lv_iload_n hx hb dX12_works_254 rfl (lv_at hl 1 rfl) ?_
      refine lv_iload_n hx hb dX12_works_255 rfl (lv_at hl 2 rfl) ?_
      refine mv_callv [.int a0, .int a1] (rest := []) hX hC (ct_reckons l S a0 a1 _ h E _) (cw_X12_reckons hts (by omega) (by omega)) rfl hl.1 (Nat.le_of_ble_eq_true rfl) ⟨Nat.zero_le _, Nat.zero_le _⟩ dX12_works_256 (fun S13 H locs hC h => ?_)
      exact hret _ _ _ _ _ hC h dX12_works_259
    · have h := h.2 c12
      refine lv_aload_n hx hb dX12_works_243 rfl (lv_at hl 0 rfl) ?_
      refine lv_iload_n hx hb dX12_works_244 rfl (lv_at hl 1 rfl) ?_
      refine lv_iload_n hx hb dX12_works_245 rfl (lv_at hl 2 rfl) ?_
      refine lv_iload_n hx hb dX12_works_246 rfl (lv_at hl 3 rfl) ?_
      refine mv_callv [.int a0, .int a1, .int a2] (rest := []) hX hC (ct_worksWait l S a0 a1 a2 _ h E _) (cw_X12_worksWait hts (by omega) (by omega)) rfl hl.1 (Nat.le_of_ble_eq_true rfl) ⟨Nat.zero_le _, Nat.zero_le _⟩ dX12_works_247 (fun S14 H locs hC h => ?_)
      refine lv_goto (tgt := 259) hx hb dX12_works_250 (by decide) ?_
      exact hret _ _ _ _ _ hC h dX12_works_259
  have h := h.2 c11
  rcases Decidable.em (a0 = 4) with c15 | c15
  · have h := h.1 c15
    refine lv_tableIn (tgt := 237) hx hb dX12_works_1 (by rw [c15]; decide) (by rw [c15]; decide) (by rw [c15]; rfl) (by decide) ?_
    refine lv_iload_n hx hb dX12_works_237 rfl (lv_at hl 1 rfl) ?_
    refine lv_bipush (v := 24) hx hb dX12_works_238 (by decide) ?_
    refine lv_icmp_lt (tgt := 253) hx hb dX12_works_240 (by decide) (fun c16 => ?_) (fun c16 => ?_)
    · have h := h.1 c16
      refine lv_aload_n hx hb dX12_works_253 rfl (lv_at hl 0 rfl) ?_
      refine lv_iload_n hx hb dX12_works_254 rfl (lv_at hl 1 rfl) ?_
      refine lv_iload_n hx hb dX12_works_255 rfl (lv_at hl 2 rfl) ?_
      refine mv_callv [.int a0, .int a1] (rest := []) hX hC (ct_reckons l S a0 a1 _ h E _) (cw_X12_reckons hts (by omega) (by omega)) rfl hl.1 (Nat.le_of_ble_eq_true rfl) ⟨Nat.zero_le _, Nat.zero_le _⟩ dX12_works_256 (fun S17 H locs hC h => ?_)
      exact hret _ _ _ _ _ hC h dX12_works_259
    · have h := h.2 c16
      refine lv_aload_n hx hb dX12_works_243 rfl (lv_at hl 0 rfl) ?_
      refine lv_iload_n hx hb dX12_works_244 rfl (lv_at hl 1 rfl) ?_
      refine lv_iload_n hx hb dX12_works_245 rfl (lv_at hl 2 rfl) ?_
      refine lv_iload_n hx hb dX12_works_246 rfl (lv_at hl 3 rfl) ?_
      refine mv_callv [.int a0, .int a1, .int a2] (rest := []) hX hC (ct_worksWait l S a0 a1 a2 _ h E _) (cw_X12_worksWait hts (by omega) (by omega)) rfl hl.1 (Nat.le_of_ble_eq_true rfl) ⟨Nat.zero_le _, Nat.zero_le _⟩ dX12_works_247 (fun S18 H locs hC h => ?_)
      refine lv_goto (tgt := 259) hx hb dX12_works_250 (by decide) ?_
      exact hret _ _ _ _ _ hC h dX12_works_259
  have h := h.2 c15
  rcases Decidable.em (a0 = 5) with c19 | c19
  · have h := h.1 c19
    refine lv_tableIn (tgt := 237) hx hb dX12_works_1 (by rw [c19]; decide) (by rw [c19]; decide) (by rw [c19]; rfl) (by decide) ?_
    refine lv_iload_n hx hb dX12_works_237 rfl (lv_at hl 1 rfl) ?_
    refine lv_bipush (v := 24) hx hb dX12_works_238 (by decide) ?_
    refine lv_icmp_lt (tgt := 253) hx hb dX12_works_240 (by decide) (fun c20 => ?_) (fun c20 => ?_)
    · have h := h.1 c20
      refine lv_aload_n hx hb dX12_works_253 rfl (lv_at hl 0 rfl) ?_
      refine lv_iload_n hx hb dX12_works_254 rfl (lv_at hl 1 rfl) ?_
      refine lv_iload_n hx hb dX12_works_255 rfl (lv_at hl 2 rfl) ?_
      refine mv_callv [.int a0, .int a1] (rest := []) hX hC (ct_reckons l S a0 a1 _ h E _) (cw_X12_reckons hts (by omega) (by omega)) rfl hl.1 (Nat.le_of_ble_eq_true rfl) ⟨Nat.zero_le _, Nat.zero_le _⟩ dX12_works_256 (fun S21 H locs hC h => ?_)
      exact hret _ _ _ _ _ hC h dX12_works_259
    · have h := h.2 c20
      refine lv_aload_n hx hb dX12_works_243 rfl (lv_at hl 0 rfl) ?_
      refine lv_iload_n hx hb dX12_works_244 rfl (lv_at hl 1 rfl) ?_
      refine lv_iload_n hx hb dX12_works_245 rfl (lv_at hl 2 rfl) ?_
      refine lv_iload_n hx hb dX12_works_246 rfl (lv_at hl 3 rfl) ?_
      refine mv_callv [.int a0, .int a1, .int a2] (rest := []) hX hC (ct_worksWait l S a0 a1 a2 _ h E _) (cw_X12_worksWait hts (by omega) (by omega)) rfl hl.1 (Nat.le_of_ble_eq_true rfl) ⟨Nat.zero_le _, Nat.zero_le _⟩ dX12_works_247 (fun S22 H locs hC h => ?_)
      refine lv_goto (tgt := 259) hx hb dX12_works_250 (by decide) ?_
      exact hret _ _ _ _ _ hC h dX12_works_259
  have h := h.2 c19
  rcases Decidable.em (a0 = 6) with c23 | c23
  · have h := h.1 c23
    refine lv_tableIn (tgt := 237) hx hb dX12_works_1 (by rw [c23]; decide) (by rw [c23]; decide) (by rw [c23]; rfl) (by decide) ?_
    refine lv_iload_n hx hb dX12_works_237 rfl (lv_at hl 1 rfl) ?_
    refine lv_bipush (v := 24) hx hb dX12_works_238 (by decide) ?_
    refine lv_icmp_lt (tgt := 253) hx hb dX12_works_240 (by decide) (fun c24 => ?_) (fun c24 => ?_)
    · have h := h.1 c24
      refine lv_aload_n hx hb dX12_works_253 rfl (lv_at hl 0 rfl) ?_
      refine lv_iload_n hx hb dX12_works_254 rfl (lv_at hl 1 rfl) ?_
      refine lv_iload_n hx hb dX12_works_255 rfl (lv_at hl 2 rfl) ?_
      refine mv_callv [.int a0, .int a1] (rest := []) hX hC (ct_reckons l S a0 a1 _ h E _) (cw_X12_reckons hts (by omega) (by omega)) rfl hl.1 (Nat.le_of_ble_eq_true rfl) ⟨Nat.zero_le _, Nat.zero_le _⟩ dX12_works_256 (fun S25 H locs hC h => ?_)
      exact hret _ _ _ _ _ hC h dX12_works_259
    · have h := h.2 c24
      refine lv_aload_n hx hb dX12_works_243 rfl (lv_at hl 0 rfl) ?_
      refine lv_iload_n hx hb dX12_works_244 rfl (lv_at hl 1 rfl) ?_
      refine lv_iload_n hx hb dX12_works_245 rfl (lv_at hl 2 rfl) ?_
      refine lv_iload_n hx hb dX12_works_246 rfl (lv_at hl 3 rfl) ?_
      refine mv_callv [.int a0, .int a1, .int a2] (rest := []) hX hC (ct_worksWait l S a0 a1 a2 _ h E _) (cw_X12_worksWait hts (by omega) (by omega)) rfl hl.1 (Nat.le_of_ble_eq_true rfl) ⟨Nat.zero_le _, Nat.zero_le _⟩ dX12_works_247 (fun S26 H locs hC h => ?_)
      refine lv_goto (tgt := 259) hx hb dX12_works_250 (by decide) ?_
      exact hret _ _ _ _ _ hC h dX12_works_259
  have h := h.2 c23
  rcases Decidable.em (a0 = 7) with c27 | c27
  · have h := h.1 c27
    refine lv_tableIn (tgt := 237) hx hb dX12_works_1 (by rw [c27]; decide) (by rw [c27]; decide) (by rw [c27]; rfl) (by decide) ?_
    refine lv_iload_n hx hb dX12_works_237 rfl (lv_at hl 1 rfl) ?_
    refine lv_bipush (v := 24) hx hb dX12_works_238 (by decide) ?_
    refine lv_icmp_lt (tgt := 253) hx hb dX12_works_240 (by decide) (fun c28 => ?_) (fun c28 => ?_)
    · have h := h.1 c28
      refine lv_aload_n hx hb dX12_works_253 rfl (lv_at hl 0 rfl) ?_
      refine lv_iload_n hx hb dX12_works_254 rfl (lv_at hl 1 rfl) ?_
      refine lv_iload_n hx hb dX12_works_255 rfl (lv_at hl 2 rfl) ?_
      refine mv_callv [.int a0, .int a1] (rest := []) hX hC (ct_reckons l S a0 a1 _ h E _) (cw_X12_reckons hts (by omega) (by omega)) rfl hl.1 (Nat.le_of_ble_eq_true rfl) ⟨Nat.zero_le _, Nat.zero_le _⟩ dX12_works_256 (fun S29 H locs hC h => ?_)
      exact hret _ _ _ _ _ hC h dX12_works_259
    · have h := h.2 c28
      refine lv_aload_n hx hb dX12_works_243 rfl (lv_at hl 0 rfl) ?_
      refine lv_iload_n hx hb dX12_works_244 rfl (lv_at hl 1 rfl) ?_
      refine lv_iload_n hx hb dX12_works_245 rfl (lv_at hl 2 rfl) ?_
      refine lv_iload_n hx hb dX12_works_246 rfl (lv_at hl 3 rfl) ?_
      refine mv_callv [.int a0, .int a1, .int a2] (rest := []) hX hC (ct_worksWait l S a0 a1 a2 _ h E _) (cw_X12_worksWait hts (by omega) (by omega)) rfl hl.1 (Nat.le_of_ble_eq_true rfl) ⟨Nat.zero_le _, Nat.zero_le _⟩ dX12_works_247 (fun S30 H locs hC h => ?_)
      refine lv_goto (tgt := 259) hx hb dX12_works_250 (by decide) ?_
      exact hret _ _ _ _ _ hC h dX12_works_259
  have h := h.2 c27
  rcases Decidable.em (a0 = 8) with c31 | c31
  · have h := h.1 c31
    refine lv_tableIn (tgt := 237) hx hb dX12_works_1 (by rw [c31]; decide) (by rw [c31]; decide) (by rw [c31]; rfl) (by decide) ?_
    refine lv_iload_n hx hb dX12_works_237 rfl (lv_at hl 1 rfl) ?_
    refine lv_bipush (v := 24) hx hb dX12_works_238 (by decide) ?_
    refine lv_icmp_lt (tgt := 253) hx hb dX12_works_240 (by decide) (fun c32 => ?_) (fun c32 => ?_)
    · have h := h.1 c32
      refine lv_aload_n hx hb dX12_works_253 rfl (lv_at hl 0 rfl) ?_
      refine lv_iload_n hx hb dX12_works_254 rfl (lv_at hl 1 rfl) ?_
      refine lv_iload_n hx hb dX12_works_255 rfl (lv_at hl 2 rfl) ?_
      refine mv_callv [.int a0, .int a1] (rest := []) hX hC (ct_reckons l S a0 a1 _ h E _) (cw_X12_reckons hts (by omega) (by omega)) rfl hl.1 (Nat.le_of_ble_eq_true rfl) ⟨Nat.zero_le _, Nat.zero_le _⟩ dX12_works_256 (fun S33 H locs hC h => ?_)
      exact hret _ _ _ _ _ hC h dX12_works_259
    · have h := h.2 c32
      refine lv_aload_n hx hb dX12_works_243 rfl (lv_at hl 0 rfl) ?_
      refine lv_iload_n hx hb dX12_works_244 rfl (lv_at hl 1 rfl) ?_
      refine lv_iload_n hx hb dX12_works_245 rfl (lv_at hl 2 rfl) ?_
      refine lv_iload_n hx hb dX12_works_246 rfl (lv_at hl 3 rfl) ?_
      refine mv_callv [.int a0, .int a1, .int a2] (rest := []) hX hC (ct_worksWait l S a0 a1 a2 _ h E _) (cw_X12_worksWait hts (by omega) (by omega)) rfl hl.1 (Nat.le_of_ble_eq_true rfl) ⟨Nat.zero_le _, Nat.zero_le _⟩ dX12_works_247 (fun S34 H locs hC h => ?_)
      refine lv_goto (tgt := 259) hx hb dX12_works_250 (by decide) ?_
      exact hret _ _ _ _ _ hC h dX12_works_259
  have h := h.2 c31
  rcases Decidable.em (a0 = 9) with c35 | c35
  · have h := h.1 c35
    refine lv_tableIn (tgt := 237) hx hb dX12_works_1 (by rw [c35]; decide) (by rw [c35]; decide) (by rw [c35]; rfl) (by decide) ?_
    refine lv_iload_n hx hb dX12_works_237 rfl (lv_at hl 1 rfl) ?_
    refine lv_bipush (v := 24) hx hb dX12_works_238 (by decide) ?_
    refine lv_icmp_lt (tgt := 253) hx hb dX12_works_240 (by decide) (fun c36 => ?_) (fun c36 => ?_)
    · have h := h.1 c36
      refine lv_aload_n hx hb dX12_works_253 rfl (lv_at hl 0 rfl) ?_
      refine lv_iload_n hx hb dX12_works_254 rfl (lv_at hl 1 rfl) ?_
      refine lv_iload_n hx hb dX12_works_255 rfl (lv_at hl 2 rfl) ?_
      refine mv_callv [.int a0, .int a1] (rest := []) hX hC (ct_reckons l S a0 a1 _ h E _) (cw_X12_reckons hts (by omega) (by omega)) rfl hl.1 (Nat.le_of_ble_eq_true rfl) ⟨Nat.zero_le _, Nat.zero_le _⟩ dX12_works_256 (fun S37 H locs hC h => ?_)
      exact hret _ _ _ _ _ hC h dX12_works_259
    · have h := h.2 c36
      refine lv_aload_n hx hb dX12_works_243 rfl (lv_at hl 0 rfl) ?_
      refine lv_iload_n hx hb dX12_works_244 rfl (lv_at hl 1 rfl) ?_
      refine lv_iload_n hx hb dX12_works_245 rfl (lv_at hl 2 rfl) ?_
      refine lv_iload_n hx hb dX12_works_246 rfl (lv_at hl 3 rfl) ?_
      refine mv_callv [.int a0, .int a1, .int a2] (rest := []) hX hC (ct_worksWait l S a0 a1 a2 _ h E _) (cw_X12_worksWait hts (by omega) (by omega)) rfl hl.1 (Nat.le_of_ble_eq_true rfl) ⟨Nat.zero_le _, Nat.zero_le _⟩ dX12_works_247 (fun S38 H locs hC h => ?_)
      refine lv_goto (tgt := 259) hx hb dX12_works_250 (by decide) ?_
      exact hret _ _ _ _ _ hC h dX12_works_259
  have h := h.2 c35
  rcases Decidable.em (a0 = 10) with c39 | c39
  · have h := h.1 c39
    refine lv_tableIn (tgt := 237) hx hb dX12_works_1 (by rw [c39]; decide) (by rw [c39]; decide) (by rw [c39]; rfl) (by decide) ?_
    refine lv_iload_n hx hb dX12_works_237 rfl (lv_at hl 1 rfl) ?_
    refine lv_bipush (v := 24) hx hb dX12_works_238 (by decide) ?_
    refine lv_icmp_lt (tgt := 253) hx hb dX12_works_240 (by decide) (fun c40 => ?_) (fun c40 => ?_)
    · have h := h.1 c40
      refine lv_aload_n hx hb dX12_works_253 rfl (lv_at hl 0 rfl) ?_
      refine lv_iload_n hx hb dX12_works_254 rfl (lv_at hl 1 rfl) ?_
      refine lv_iload_n hx hb dX12_works_255 rfl (lv_at hl 2 rfl) ?_
      refine mv_callv [.int a0, .int a1] (rest := []) hX hC (ct_reckons l S a0 a1 _ h E _) (cw_X12_reckons hts (by omega) (by omega)) rfl hl.1 (Nat.le_of_ble_eq_true rfl) ⟨Nat.zero_le _, Nat.zero_le _⟩ dX12_works_256 (fun S41 H locs hC h => ?_)
      exact hret _ _ _ _ _ hC h dX12_works_259
    · have h := h.2 c40
      refine lv_aload_n hx hb dX12_works_243 rfl (lv_at hl 0 rfl) ?_
      refine lv_iload_n hx hb dX12_works_244 rfl (lv_at hl 1 rfl) ?_
      refine lv_iload_n hx hb dX12_works_245 rfl (lv_at hl 2 rfl) ?_
      refine lv_iload_n hx hb dX12_works_246 rfl (lv_at hl 3 rfl) ?_
      refine mv_callv [.int a0, .int a1, .int a2] (rest := []) hX hC (ct_worksWait l S a0 a1 a2 _ h E _) (cw_X12_worksWait hts (by omega) (by omega)) rfl hl.1 (Nat.le_of_ble_eq_true rfl) ⟨Nat.zero_le _, Nat.zero_le _⟩ dX12_works_247 (fun S42 H locs hC h => ?_)
      refine lv_goto (tgt := 259) hx hb dX12_works_250 (by decide) ?_
      exact hret _ _ _ _ _ hC h dX12_works_259
  have h := h.2 c39
  rcases Decidable.em (a0 = 11) with c43 | c43
  · have h := h.1 c43
    refine lv_tableIn (tgt := 237) hx hb dX12_works_1 (by rw [c43]; decide) (by rw [c43]; decide) (by rw [c43]; rfl) (by decide) ?_
    refine lv_iload_n hx hb dX12_works_237 rfl (lv_at hl 1 rfl) ?_
    refine lv_bipush (v := 24) hx hb dX12_works_238 (by decide) ?_
    refine lv_icmp_lt (tgt := 253) hx hb dX12_works_240 (by decide) (fun c44 => ?_) (fun c44 => ?_)
    · have h := h.1 c44
      refine lv_aload_n hx hb dX12_works_253 rfl (lv_at hl 0 rfl) ?_
      refine lv_iload_n hx hb dX12_works_254 rfl (lv_at hl 1 rfl) ?_
      refine lv_iload_n hx hb dX12_works_255 rfl (lv_at hl 2 rfl) ?_
      refine mv_callv [.int a0, .int a1] (rest := []) hX hC (ct_reckons l S a0 a1 _ h E _) (cw_X12_reckons hts (by omega) (by omega)) rfl hl.1 (Nat.le_of_ble_eq_true rfl) ⟨Nat.zero_le _, Nat.zero_le _⟩ dX12_works_256 (fun S45 H locs hC h => ?_)
      exact hret _ _ _ _ _ hC h dX12_works_259
    · have h := h.2 c44
      refine lv_aload_n hx hb dX12_works_243 rfl (lv_at hl 0 rfl) ?_
      refine lv_iload_n hx hb dX12_works_244 rfl (lv_at hl 1 rfl) ?_
      refine lv_iload_n hx hb dX12_works_245 rfl (lv_at hl 2 rfl) ?_
      refine lv_iload_n hx hb dX12_works_246 rfl (lv_at hl 3 rfl) ?_
      refine mv_callv [.int a0, .int a1, .int a2] (rest := []) hX hC (ct_worksWait l S a0 a1 a2 _ h E _) (cw_X12_worksWait hts (by omega) (by omega)) rfl hl.1 (Nat.le_of_ble_eq_true rfl) ⟨Nat.zero_le _, Nat.zero_le _⟩ dX12_works_247 (fun S46 H locs hC h => ?_)
      refine lv_goto (tgt := 259) hx hb dX12_works_250 (by decide) ?_
      exact hret _ _ _ _ _ hC h dX12_works_259
  have h := h.2 c43
  rcases Decidable.em (a0 = 12) with c47 | c47
  · have h := h.1 c47
    refine lv_tableIn (tgt := 237) hx hb dX12_works_1 (by rw [c47]; decide) (by rw [c47]; decide) (by rw [c47]; rfl) (by decide) ?_
    refine lv_iload_n hx hb dX12_works_237 rfl (lv_at hl 1 rfl) ?_
    refine lv_bipush (v := 24) hx hb dX12_works_238 (by decide) ?_
    refine lv_icmp_lt (tgt := 253) hx hb dX12_works_240 (by decide) (fun c48 => ?_) (fun c48 => ?_)
    · have h := h.1 c48
      refine lv_aload_n hx hb dX12_works_253 rfl (lv_at hl 0 rfl) ?_
      refine lv_iload_n hx hb dX12_works_254 rfl (lv_at hl 1 rfl) ?_
      refine lv_iload_n hx hb dX12_works_255 rfl (lv_at hl 2 rfl) ?_
      refine mv_callv [.int a0, .int a1] (rest := []) hX hC (ct_reckons l S a0 a1 _ h E _) (cw_X12_reckons hts (by omega) (by omega)) rfl hl.1 (Nat.le_of_ble_eq_true rfl) ⟨Nat.zero_le _, Nat.zero_le _⟩ dX12_works_256 (fun S49 H locs hC h => ?_)
      exact hret _ _ _ _ _ hC h dX12_works_259
    · have h := h.2 c48
      refine lv_aload_n hx hb dX12_works_243 rfl (lv_at hl 0 rfl) ?_
      refine lv_iload_n hx hb dX12_works_244 rfl (lv_at hl 1 rfl) ?_
      refine lv_iload_n hx hb dX12_works_245 rfl (lv_at hl 2 rfl) ?_
      refine lv_iload_n hx hb dX12_works_246 rfl (lv_at hl 3 rfl) ?_
      refine mv_callv [.int a0, .int a1, .int a2] (rest := []) hX hC (ct_worksWait l S a0 a1 a2 _ h E _) (cw_X12_worksWait hts (by omega) (by omega)) rfl hl.1 (Nat.le_of_ble_eq_true rfl) ⟨Nat.zero_le _, Nat.zero_le _⟩ dX12_works_247 (fun S50 H locs hC h => ?_)
      refine lv_goto (tgt := 259) hx hb dX12_works_250 (by decide) ?_
      exact hret _ _ _ _ _ hC h dX12_works_259
  have h := h.2 c47
  rcases Decidable.em (a0 = 13) with c51 | c51
  · have h := h.1 c51
    refine lv_tableIn (tgt := 135) hx hb dX12_works_1 (by rw [c51]; decide) (by rw [c51]; decide) (by rw [c51]; rfl) (by decide) ?_
    refine lv_aload_n hx hb dX12_works_135 rfl (lv_at hl 0 rfl) ?_
    refine mv_get (v := .ref (E.2.2.1 58)) hX hC 82 (Nat.le_of_ble_eq_true rfl) wd_1482 rfl dX12_works_136 ?_
    refine lv_bipush (v := 12) hx hb dX12_works_139 (by decide) ?_
    refine lv_aload_n hx hb dX12_works_141 rfl (lv_at hl 0 rfl) ?_
    refine mv_get (v := .int (S.1 33)) hX hC 123 (Nat.le_of_ble_eq_true rfl) wd_1523 rfl dX12_works_142 ?_
    refine lq_imul hx hb dX12_works_145 h (fun z52 h => ?_)
    refine lv_iload_n hx hb dX12_works_146 rfl (lv_at hl 2 rfl) ?_
    refine lq_iadd hx hb dX12_works_147 h (fun z53 h => ?_)
    refine lv_aload_n hx hb dX12_works_148 rfl (lv_at hl 0 rfl) ?_
    refine mv_calli [] (rest := [.int z53, .ref (E.2.2.1 58)]) hX hC (ct_pop l S _ h E _) (cw_X12_pop hts (by omega) (by omega)) rfl hl.1 (Nat.le_of_ble_eq_true rfl) ⟨Nat.zero_le _, Nat.zero_le _⟩ dX12_works_149 (fun r54 S54 H locs hC h => ?_)
    refine mq_ist (n := 2400) (v := r54) hX hC 58 rfl rfl mf_58 dX12_works_152 h.1 h.2 (fun S55 H locs hC h => ?_)
    exact hret _ _ _ _ _ hC h dX12_works_153
  have h := h.2 c51
  rcases Decidable.em (a0 = 14) with c56 | c56
  · have h := h.1 c56
    refine lv_tableIn (tgt := 154) hx hb dX12_works_1 (by rw [c56]; decide) (by rw [c56]; decide) (by rw [c56]; rfl) (by decide) ?_
    refine lv_aload_n hx hb dX12_works_154 rfl (lv_at hl 0 rfl) ?_
    refine lv_aload_n hx hb dX12_works_155 rfl (lv_at hl 0 rfl) ?_
    refine mv_calli [] (rest := [.ref E.2.1]) hX hC (ct_pop l S _ h E _) (cw_X12_pop hts (by omega) (by omega)) rfl hl.1 (Nat.le_of_ble_eq_true rfl) ⟨Nat.zero_le _, Nat.zero_le _⟩ dX12_works_156 (fun r57 S57 H locs hC h => ?_)
    refine mv_callv [.int r57] (rest := []) hX hC (ct_notePut l S57 r57 _ h E _) (cw_X12_notePut hts (by omega) (by omega)) rfl hl.1 (Nat.le_of_ble_eq_true rfl) ⟨Nat.zero_le _, Nat.zero_le _⟩ dX12_works_159 (fun S58 H locs hC h => ?_)
    exact hret _ _ _ _ _ hC h dX12_works_162
  have h := h.2 c56
  rcases Decidable.em (a0 = 15) with c59 | c59
  · have h := h.1 c59
    refine lv_tableIn (tgt := 163) hx hb dX12_works_1 (by rw [c59]; decide) (by rw [c59]; decide) (by rw [c59]; rfl) (by decide) ?_
    refine lv_aload_n hx hb dX12_works_163 rfl (lv_at hl 0 rfl) ?_
    refine lv_aload_n hx hb dX12_works_164 rfl (lv_at hl 0 rfl) ?_
    refine mv_calli [] (rest := [.ref E.2.1]) hX hC (ct_pop l S _ h E _) (cw_X12_pop hts (by omega) (by omega)) rfl hl.1 (Nat.le_of_ble_eq_true rfl) ⟨Nat.zero_le _, Nat.zero_le _⟩ dX12_works_165 (fun r60 S60 H locs hC h => ?_)
    refine lv_if_ne (tgt := 175) hx hb dX12_works_168 (by decide) (fun c61 => ?_) (fun c61 => ?_)
    · have h := h.1 c61
      refine lv_aload_n hx hb dX12_works_175 rfl (lv_at hl 0 rfl) ?_
      refine mv_get (v := .int (S60.1 32)) hX hC 122 (Nat.le_of_ble_eq_true rfl) wd_1522 rfl dX12_works_176 ?_
      refine mq_put (v := S60.1 32) hX hC 122 32 (Nat.le_of_ble_eq_true rfl) wd_1522 rfl rfl rfl mz_32 dX12_works_179 h (fun S62 H locs hC h => ?_)
      exact hret _ _ _ _ _ hC h dX12_works_182
    · have h := h.2 c61
      refine lv_iload_n hx hb dX12_works_171 rfl (lv_at hl 2 rfl) ?_
      refine lv_goto (tgt := 179) hx hb dX12_works_172 (by decide) ?_
      refine mq_put (v := a1) hX hC 122 32 (Nat.le_of_ble_eq_true rfl) wd_1522 rfl rfl rfl mz_32 dX12_works_179 h (fun S63 H locs hC h => ?_)
      exact hret _ _ _ _ _ hC h dX12_works_182
  have h := h.2 c59
  rcases Decidable.em (a0 = 16) with c64 | c64
  · have h := h.1 c64
    refine lv_tableIn (tgt := 183) hx hb dX12_works_1 (by rw [c64]; decide) (by rw [c64]; decide) (by rw [c64]; rfl) (by decide) ?_
    refine lv_aload_n hx hb dX12_works_183 rfl (lv_at hl 0 rfl) ?_
    refine lv_iload_n hx hb dX12_works_184 rfl (lv_at hl 2 rfl) ?_
    refine mq_put (v := a1) hX hC 122 32 (Nat.le_of_ble_eq_true rfl) wd_1522 rfl rfl rfl mz_32 dX12_works_185 h (fun S65 H locs hC h => ?_)
    exact hret _ _ _ _ _ hC h dX12_works_188
  have h := h.2 c64
  rcases Decidable.em (a0 = 17) with c66 | c66
  · have h := h.1 c66
    refine lv_tableIn (tgt := 189) hx hb dX12_works_1 (by rw [c66]; decide) (by rw [c66]; decide) (by rw [c66]; rfl) (by decide) ?_
    refine lv_aload_n hx hb dX12_works_189 rfl (lv_at hl 0 rfl) ?_
    refine lv_iload_n hx hb dX12_works_190 rfl (lv_at hl 2 rfl) ?_
    refine mv_callv [.int a1] (rest := []) hX hC (ct_raise l S a1 _ h E _) (cw_X12_raise hts (by omega) (by omega)) rfl hl.1 (Nat.le_of_ble_eq_true rfl) ⟨Nat.zero_le _, Nat.zero_le _⟩ dX12_works_191 (fun S67 H locs hC h => ?_)
    exact hret _ _ _ _ _ hC h dX12_works_194
  have h := h.2 c66
  rcases Decidable.em (a0 = 18) with c68 | c68
  · have h := h.1 c68
    refine lv_tableIn (tgt := 195) hx hb dX12_works_1 (by rw [c68]; decide) (by rw [c68]; decide) (by rw [c68]; rfl) (by decide) ?_
    refine lv_aload_n hx hb dX12_works_195 rfl (lv_at hl 0 rfl) ?_
    refine lv_iconst (v := 5) hx hb dX12_works_196 (by decide) ?_
    refine lv_aload_n hx hb dX12_works_197 rfl (lv_at hl 0 rfl) ?_
    refine mv_calli [] (rest := [.int 5, .ref E.2.1]) hX hC (ct_pop l S _ h E _) (cw_X12_pop hts (by omega) (by omega)) rfl hl.1 (Nat.le_of_ble_eq_true rfl) ⟨Nat.zero_le _, Nat.zero_le _⟩ dX12_works_198 (fun r69 S69 H locs hC h => ?_)
    refine mv_callv [.int 5, .int r69] (rest := []) hX hC (ct_leave l S69 5 r69 _ h E _) (cw_X12_leave hts (by omega) (by omega)) rfl hl.1 (Nat.le_of_ble_eq_true rfl) ⟨Nat.zero_le _, Nat.zero_le _⟩ dX12_works_201 (fun S70 H locs hC h => ?_)
    exact hret _ _ _ _ _ hC h dX12_works_204
  have h := h.2 c68
  rcases Decidable.em (a0 = 19) with c71 | c71
  · have h := h.1 c71
    refine lv_tableIn (tgt := 205) hx hb dX12_works_1 (by rw [c71]; decide) (by rw [c71]; decide) (by rw [c71]; rfl) (by decide) ?_
    refine lv_aload_n hx hb dX12_works_205 rfl (lv_at hl 0 rfl) ?_
    refine lv_iconst (v := 3) hx hb dX12_works_206 (by decide) ?_
    refine lv_iload_n hx hb dX12_works_207 rfl (lv_at hl 2 rfl) ?_
    refine mv_callv [.int 3, .int a1] (rest := []) hX hC (ct_leave l S 3 a1 _ h E _) (cw_X12_leave hts (by omega) (by omega)) rfl hl.1 (Nat.le_of_ble_eq_true rfl) ⟨Nat.zero_le _, Nat.zero_le _⟩ dX12_works_208 (fun S72 H locs hC h => ?_)
    exact hret _ _ _ _ _ hC h dX12_works_211
  have h := h.2 c71
  rcases Decidable.em (a0 = 20) with c73 | c73
  · have h := h.1 c73
    refine lv_tableIn (tgt := 212) hx hb dX12_works_1 (by rw [c73]; decide) (by rw [c73]; decide) (by rw [c73]; rfl) (by decide) ?_
    refine lv_aload_n hx hb dX12_works_212 rfl (lv_at hl 0 rfl) ?_
    refine lv_iconst (v := 4) hx hb dX12_works_213 (by decide) ?_
    refine lv_iload_n hx hb dX12_works_214 rfl (lv_at hl 2 rfl) ?_
    refine mv_callv [.int 4, .int a1] (rest := []) hX hC (ct_leave l S 4 a1 _ h E _) (cw_X12_leave hts (by omega) (by omega)) rfl hl.1 (Nat.le_of_ble_eq_true rfl) ⟨Nat.zero_le _, Nat.zero_le _⟩ dX12_works_215 (fun S74 H locs hC h => ?_)
    exact hret _ _ _ _ _ hC h dX12_works_218
  have h := h.2 c73
  rcases Decidable.em (a0 = 21) with c75 | c75
  · have h := h.1 c75
    refine lv_tableIn (tgt := 219) hx hb dX12_works_1 (by rw [c75]; decide) (by rw [c75]; decide) (by rw [c75]; rfl) (by decide) ?_
    refine lv_aload_n hx hb dX12_works_219 rfl (lv_at hl 0 rfl) ?_
    refine lv_iload_n hx hb dX12_works_220 rfl (lv_at hl 2 rfl) ?_
    refine mv_callv [.int a1] (rest := []) hX hC (ct_enter l S a1 _ h E _) (cw_X12_enter hts (by omega) (by omega)) rfl hl.1 (Nat.le_of_ble_eq_true rfl) ⟨Nat.zero_le _, Nat.zero_le _⟩ dX12_works_221 (fun S76 H locs hC h => ?_)
    exact hret _ _ _ _ _ hC h dX12_works_224
  have h := h.2 c75
  rcases Decidable.em (a0 = 22) with c77 | c77
  · have h := h.1 c77
    refine lv_tableIn (tgt := 225) hx hb dX12_works_1 (by rw [c77]; decide) (by rw [c77]; decide) (by rw [c77]; rfl) (by decide) ?_
    refine lv_aload_n hx hb dX12_works_225 rfl (lv_at hl 0 rfl) ?_
    refine lv_iload_n hx hb dX12_works_226 rfl (lv_at hl 2 rfl) ?_
    refine mv_callv [.int a1] (rest := []) hX hC (ct_leavePart l S a1 _ h E _) (cw_X12_leavePart hts (by omega) (by omega)) rfl hl.1 (Nat.le_of_ble_eq_true rfl) ⟨Nat.zero_le _, Nat.zero_le _⟩ dX12_works_227 (fun S78 H locs hC h => ?_)
    exact hret _ _ _ _ _ hC h dX12_works_230
  have h := h.2 c77
  rcases Decidable.em (a0 = 23) with c79 | c79
  · have h := h.1 c79
    refine lv_tableIn (tgt := 231) hx hb dX12_works_1 (by rw [c79]; decide) (by rw [c79]; decide) (by rw [c79]; rfl) (by decide) ?_
    refine lv_aload_n hx hb dX12_works_231 rfl (lv_at hl 0 rfl) ?_
    refine lv_iload_n hx hb dX12_works_232 rfl (lv_at hl 2 rfl) ?_
    refine mv_callv [.int a1] (rest := []) hX hC (ct_finished l S a1 _ h E _) (cw_X12_finished hts (by omega) (by omega)) rfl hl.1 (Nat.le_of_ble_eq_true rfl) ⟨Nat.zero_le _, Nat.zero_le _⟩ dX12_works_233 (fun S80 H locs hC h => ?_)
    exact hret _ _ _ _ _ hC h dX12_works_236
  have h := h.2 c79
  refine lv_tableOut (tgt := 237) hx hb dX12_works_1 (by have nc1 := lv_neT c1 (show (0 : Int32).toInt = 0 by decide); have nc3 := lv_neT c3 (show (1 : Int32).toInt = 1 by decide); have nc7 := lv_neT c7 (show (2 : Int32).toInt = 2 by decide); have nc11 := lv_neT c11 (show (3 : Int32).toInt = 3 by decide); have nc15 := lv_neT c15 (show (4 : Int32).toInt = 4 by decide); have nc19 := lv_neT c19 (show (5 : Int32).toInt = 5 by decide); have nc23 := lv_neT c23 (show (6 : Int32).toInt = 6 by decide); have nc27 := lv_neT c27 (show (7 : Int32).toInt = 7 by decide); have nc31 := lv_neT c31 (show (8 : Int32).toInt = 8 by decide); have nc35 := lv_neT c35 (show (9 : Int32).toInt = 9 by decide); have nc39 := lv_neT c39 (show (10 : Int32).toInt = 10 by decide); have nc43 := lv_neT c43 (show (11 : Int32).toInt = 11 by decide); have nc47 := lv_neT c47 (show (12 : Int32).toInt = 12 by decide); have nc51 := lv_neT c51 (show (13 : Int32).toInt = 13 by decide); have nc56 := lv_neT c56 (show (14 : Int32).toInt = 14 by decide); have nc59 := lv_neT c59 (show (15 : Int32).toInt = 15 by decide); have nc64 := lv_neT c64 (show (16 : Int32).toInt = 16 by decide); have nc66 := lv_neT c66 (show (17 : Int32).toInt = 17 by decide); have nc68 := lv_neT c68 (show (18 : Int32).toInt = 18 by decide); have nc71 := lv_neT c71 (show (19 : Int32).toInt = 19 by decide); have nc73 := lv_neT c73 (show (20 : Int32).toInt = 20 by decide); have nc75 := lv_neT c75 (show (21 : Int32).toInt = 21 by decide); have nc77 := lv_neT c77 (show (22 : Int32).toInt = 22 by decide); have nc79 := lv_neT c79 (show (23 : Int32).toInt = 23 by decide); omega) (by decide) ?_
  refine lv_iload_n hx hb dX12_works_237 rfl (lv_at hl 1 rfl) ?_
  refine lv_bipush (v := 24) hx hb dX12_works_238 (by decide) ?_
  refine lv_icmp_lt (tgt := 253) hx hb dX12_works_240 (by decide) (fun c81 => ?_) (fun c81 => ?_)
  · have h := h.1 c81
    refine lv_aload_n hx hb dX12_works_253 rfl (lv_at hl 0 rfl) ?_
    refine lv_iload_n hx hb dX12_works_254 rfl (lv_at hl 1 rfl) ?_
    refine lv_iload_n hx hb dX12_works_255 rfl (lv_at hl 2 rfl) ?_
    refine mv_callv [.int a0, .int a1] (rest := []) hX hC (ct_reckons l S a0 a1 _ h E _) (cw_X12_reckons hts (by omega) (by omega)) rfl hl.1 (Nat.le_of_ble_eq_true rfl) ⟨Nat.zero_le _, Nat.zero_le _⟩ dX12_works_256 (fun S82 H locs hC h => ?_)
    exact hret _ _ _ _ _ hC h dX12_works_259
  · have h := h.2 c81
    refine lv_aload_n hx hb dX12_works_243 rfl (lv_at hl 0 rfl) ?_
    refine lv_iload_n hx hb dX12_works_244 rfl (lv_at hl 1 rfl) ?_
    refine lv_iload_n hx hb dX12_works_245 rfl (lv_at hl 2 rfl) ?_
    refine lv_iload_n hx hb dX12_works_246 rfl (lv_at hl 3 rfl) ?_
    refine mv_callv [.int a0, .int a1, .int a2] (rest := []) hX hC (ct_worksWait l S a0 a1 a2 _ h E _) (cw_X12_worksWait hts (by omega) (by omega)) rfl hl.1 (Nat.le_of_ble_eq_true rfl) ⟨Nat.zero_le _, Nat.zero_le _⟩ dX12_works_247 (fun S83 H locs hC h => ?_)
    refine lv_goto (tgt := 259) hx hb dX12_works_250 (by decide) ?_
    exact hret _ _ _ _ _ hC h dX12_works_259
def wp_runs_179 (K : mS → Prop) (k179 : mS → Prop) (S : mS) : Prop := inR (S.1 33) 200 ∧ ∀ z29 : Int32, z29 = S.2.1 54 (ix (S.1 33)) → ((¬ z29 = 4 → K S) ∧ (z29 = 4 → ∀ z31 : Int32, z31 = (S.1 32) + 1 → ∀ S32 : mS, S32 = sZ S 32 z31 → inR (S.1 32) 24000 ∧ ∀ z33 : Int32, z33 = S32.2.1 12 (ix (S.1 32)) → inR (S.1 32) 24000 ∧ ∀ z34 : Int32, z34 = S32.2.1 13 (ix (S.1 32)) → inR (S.1 32) 24000 ∧ ∀ z35 : Int32, z35 = S32.2.1 14 (ix (S.1 32)) → wp_works z33 z34 z35 S32 (fun (S36 : mS) => k179 S36)))
def ls_runs_179 (K : mS → Prop) (k179 : mS → Prop) (u : mS) : Prop := wp_runs_179 K k179 u
def wp_runs_149 (K : mS → Prop) (x3 : Int32) (S : mS) : Prop := ((¬ x3 = 2 → ((¬ x3 = 3 → (∃ n9, it (ls_runs_179 K) n9 S)) ∧ (x3 = 3 → wp_raiseCancel S (fun (S26 : mS) => (∃ n9, it (ls_runs_179 K) n9 S26))))) ∧ (x3 = 2 → inR (S.1 33) 200 ∧ ∀ z27 : Int32, z27 = S.2.1 63 (ix (S.1 33)) → wp_raise z27 S (fun (S28 : mS) => (∃ n9, it (ls_runs_179 K) n9 S28))))
def wp_runs_37 (K : mS → Prop) (y0 : Int32) (S : mS) : Prop := inR (S.1 33) 200 ∧ ∀ z7 : Int32, z7 = S.2.1 60 (ix (S.1 33)) → ∀ z8 : Int32, z8 = z7 + 1 → inR (S.1 33) 200 ∧ ∀ S9 : mS, S9 = sF S 60 (ix (S.1 33)) z8 → inR (S9.1 33) 200 ∧ ∀ S10 : mS, S10 = sF S9 54 (ix (S9.1 33)) 4 → inR (S10.1 33) 200 ∧ ∀ z11 : Int32, z11 = S10.2.1 57 (ix (S10.1 33)) → ∀ S12 : mS, S12 = sZ S10 32 z11 → ((y0 = 0 → (∃ n9, it (ls_runs_179 K) n9 S12)) ∧ (¬ y0 = 0 → inR (S12.1 33) 200 ∧ ∀ z14 : Int32, z14 = S12.2.1 62 (ix (S12.1 33)) → inR (S12.1 33) 200 ∧ ∀ S15 : mS, S15 = sF S12 62 (ix (S12.1 33)) 0 → ((¬ z14 = 1 → wp_runs_149 K z14 S15) ∧ (z14 = 1 → inR (S15.1 33) 200 ∧ ∀ z17 : Int32, z17 = S15.2.1 64 (ix (S15.1 33)) → ((z17 < 0 → wp_runs_149 K z14 S15) ∧ (¬ z17 < 0 → ∀ z19 : Int32, z19 = 12 * (S15.1 33) → inR (S15.1 33) 200 ∧ ∀ z20 : Int32, z20 = S15.2.1 64 (ix (S15.1 33)) → ∀ z21 : Int32, z21 = z19 + z20 → inR (S15.1 33) 200 ∧ ∀ z22 : Int32, z22 = S15.2.1 63 (ix (S15.1 33)) → inR z21 2400 ∧ ∀ S23 : mS, S23 = sF S15 58 (ix z21) z22 → (∃ n9, it (ls_runs_179 K) n9 S23)))))))
def wp_runs (a0 : Int32) (S : mS) (K : mS → Prop) : Prop := ∀ S1 : mS, S1 = sZ S 33 a0 → ∀ S2 : mS, S2 = sZ S1 26 0 → ∀ S3 : mS, S3 = sZ S2 31 0 → ∀ S4 : mS, S4 = sZ S3 34 0 → inR (S4.1 33) 200 ∧ ∀ z5 : Int32, z5 = S4.2.1 60 (ix (S4.1 33)) → ((z5 ≤ 0 → wp_runs_37 K 0 S4) ∧ (¬ z5 ≤ 0 → wp_runs_37 K 1 S4))
theorem cw_X12_works {R : Room} {s : State} {args : Array Value} {fr lo : Nat} (hts : ∀ w ∈ tb, w.before args s = true) (h1 : fr + 1 ≤ R.frames) (h2 : 8 + (4 + 11) + lo ≤ R.locals) : CallW R s args RX12 RX12 618 yX12_works cX12_works 4 none (.code yX12_works cX12_works 4 none :: tb) (mRm fr lo) 0 0 3 := cwV 3 hts (gd_V wd_2066 wd_2068 sl_X12_works wd_15 wd_2069) rfl rfl rfl (by decide +kernel) ⟨h1, h2⟩
set_option maxHeartbeats 4000000 in
set_option maxRecDepth 100000 in
theorem ct_runs (l : Launch) (S : mS) (a0 : Int32) (K : mS → Prop) (h : wp_runs a0 S K) : mMv l yX12_runs cX12_runs 4 none 701 16820 (fun E => [.int a0]) S K := by
  refine mv_ofv (by decide) rfl (fun _ => Nat.le_of_ble_eq_true rfl) ?_
  intro E p e R s m args below meth c A ls Q hRf hRl hX hC hl hret
  have hx := hX.1.1
  have hb := hX.1.2.1
  have hown := hX.1.2.2.2.1
  have hts := hX.1.2.2.2.2
  have cut179 : ∀ (n179 : Nat) (S : mS) (H : Heap) (locs : List Loc) (ls : Array Slot), it (ls_runs_179 K) n179 S → mC E A s.heap S H locs → lv_has ls 4 [(0, .ref E.2.1)] → W p l e R s m args below meth c H locs 0 0 Q (F0 m 179 ls []) := by
    intro n179
    induction n179 with
    | zero => intro S H locs ls h hC hl; exact h.elim
    | succ n179 ih179 =>
      intro S H locs ls h hC hl
      have h : wp_runs_179 K (it (ls_runs_179 K) n179) S := h
      unfold wp_runs_179 at h
      refine lv_aload_n hx hb dX12_runs_179 rfl (lv_at hl 0 rfl) ?_
      refine mv_get (v := .ref (E.2.2.1 54)) hX hC 78 (Nat.le_of_ble_eq_true rfl) wd_1478 rfl dX12_runs_180 ?_
      refine lv_aload_n hx hb dX12_runs_183 rfl (lv_at hl 0 rfl) ?_
      refine mv_get (v := .int (S.1 33)) hX hC 123 (Nat.le_of_ble_eq_true rfl) wd_1523 rfl dX12_runs_184 ?_
      refine mq_ild (n := 200) hX hC 54 rfl rfl dX12_runs_187 h (fun z29 h => ?_)
      refine lv_iconst (v := 4) hx hb dX12_runs_188 (by decide) ?_
      refine lv_icmp_ne (tgt := 232) hx hb dX12_runs_189 (by decide) (fun c30 => ?_) (fun c30 => ?_)
      · have h := h.1 c30
        exact hret _ _ _ _ _ hC h dX12_runs_232
      · have h := h.2 c30
        refine lv_aload_n hx hb dX12_runs_192 rfl (lv_at hl 0 rfl) ?_
        refine mv_get (v := .int (S.1 32)) hX hC 122 (Nat.le_of_ble_eq_true rfl) wd_1522 rfl dX12_runs_193 ?_
        refine lv_istore_n (lv' := [(3, .int (S.1 32)), (0, .ref E.2.1)]) hx hb dX12_runs_196 rfl hl (by decide) rfl (fun ls hl => ?_)
        refine lv_aload_n hx hb dX12_runs_197 rfl (lv_at hl 1 rfl) ?_
        refine lv_dup hx hb dX12_runs_198 rfl ?_
        refine mv_get (v := .int (S.1 32)) hX hC 122 (Nat.le_of_ble_eq_true rfl) wd_1522 rfl dX12_runs_199 ?_
        refine lv_iconst (v := 1) hx hb dX12_runs_202 (by decide) ?_
        refine lq_iadd hx hb dX12_runs_203 h (fun z31 h => ?_)
        refine mq_put (v := z31) hX hC 122 32 (Nat.le_of_ble_eq_true rfl) wd_1522 rfl rfl rfl mz_32 dX12_runs_204 h (fun S32 H locs hC h => ?_)
        refine lv_aload_n hx hb dX12_runs_207 rfl (lv_at hl 1 rfl) ?_
        refine lv_aload_n hx hb dX12_runs_208 rfl (lv_at hl 1 rfl) ?_
        refine mv_get (v := .ref (E.2.2.1 12)) hX hC 20 (Nat.le_of_ble_eq_true rfl) wd_1420 rfl dX12_runs_209 ?_
        refine lv_iload_n hx hb dX12_runs_212 rfl (lv_at hl 0 rfl) ?_
        refine mq_ild (n := 24000) hX hC 12 rfl rfl dX12_runs_213 h (fun z33 h => ?_)
        refine lv_aload_n hx hb dX12_runs_214 rfl (lv_at hl 1 rfl) ?_
        refine mv_get (v := .ref (E.2.2.1 13)) hX hC 21 (Nat.le_of_ble_eq_true rfl) wd_1421 rfl dX12_runs_215 ?_
        refine lv_iload_n hx hb dX12_runs_218 rfl (lv_at hl 0 rfl) ?_
        refine mq_ild (n := 24000) hX hC 13 rfl rfl dX12_runs_219 h (fun z34 h => ?_)
        refine lv_aload_n hx hb dX12_runs_220 rfl (lv_at hl 1 rfl) ?_
        refine mv_get (v := .ref (E.2.2.1 14)) hX hC 22 (Nat.le_of_ble_eq_true rfl) wd_1422 rfl dX12_runs_221 ?_
        refine lv_iload_n hx hb dX12_runs_224 rfl (lv_at hl 0 rfl) ?_
        refine mq_ild (n := 24000) hX hC 14 rfl rfl dX12_runs_225 h (fun z35 h => ?_)
        refine mv_callv [.int z33, .int z34, .int z35] (rest := []) hX hC (ct_works l S32 z33 z34 z35 _ h E _) (cw_X12_works hts (by omega) (by omega)) rfl hl.1 (Nat.le_of_ble_eq_true rfl) ⟨Nat.zero_le _, Nat.zero_le _⟩ dX12_runs_226 (fun S36 H locs hC h => ?_)
        refine lv_goto (tgt := 179) hx hb dX12_runs_229 (by decide) ?_
        exact ih179 S36 _ _ _ h hC (lv_sub hl [1] rfl)
  have cut149 : ∀ (x3 : Int32) (S : mS) (H : Heap) (locs : List Loc) (ls : Array Slot), wp_runs_149 K x3 S → mC E A s.heap S H locs → lv_has ls 4 [(0, .ref E.2.1), (3, .int x3)] → W p l e R s m args below meth c H locs 0 0 Q (F0 m 149 ls []) := by
    intro x3 S H locs ls h hC hl
    unfold wp_runs_149 at h
    refine lv_iload_n hx hb dX12_runs_149 rfl (lv_at hl 1 rfl) ?_
    refine lv_iconst (v := 2) hx hb dX12_runs_150 (by decide) ?_
    refine lv_icmp_ne (tgt := 170) hx hb dX12_runs_151 (by decide) (fun c24 => ?_) (fun c24 => ?_)
    · have h := h.1 c24
      refine lv_iload_n hx hb dX12_runs_170 rfl (lv_at hl 1 rfl) ?_
      refine lv_iconst (v := 3) hx hb dX12_runs_171 (by decide) ?_
      refine lv_icmp_ne (tgt := 179) hx hb dX12_runs_172 (by decide) (fun c25 => ?_) (fun c25 => ?_)
      · have h := h.1 c25
        obtain ⟨n9, h⟩ := h
        exact cut179 n9 S _ _ _ h hC (lv_sub hl [0] rfl)
      · have h := h.2 c25
        refine lv_aload_n hx hb dX12_runs_175 rfl (lv_at hl 0 rfl) ?_
        refine mv_callv [] (rest := []) hX hC (ct_raiseCancel l S _ h E _) (cw_X12_raiseCancel hts (by omega) (by omega)) rfl hl.1 (Nat.le_of_ble_eq_true rfl) ⟨Nat.zero_le _, Nat.zero_le _⟩ dX12_runs_176 (fun S26 H locs hC h => ?_)
        obtain ⟨n9, h⟩ := h
        exact cut179 n9 S26 _ _ _ h hC (lv_sub hl [0] rfl)
    · have h := h.2 c24
      refine lv_aload_n hx hb dX12_runs_154 rfl (lv_at hl 0 rfl) ?_
      refine lv_aload_n hx hb dX12_runs_155 rfl (lv_at hl 0 rfl) ?_
      refine mv_get (v := .ref (E.2.2.1 63)) hX hC 87 (Nat.le_of_ble_eq_true rfl) wd_1487 rfl dX12_runs_156 ?_
      refine lv_aload_n hx hb dX12_runs_159 rfl (lv_at hl 0 rfl) ?_
      refine mv_get (v := .int (S.1 33)) hX hC 123 (Nat.le_of_ble_eq_true rfl) wd_1523 rfl dX12_runs_160 ?_
      refine mq_ild (n := 200) hX hC 63 rfl rfl dX12_runs_163 h (fun z27 h => ?_)
      refine mv_callv [.int z27] (rest := []) hX hC (ct_raise l S z27 _ h E _) (cw_X12_raise hts (by omega) (by omega)) rfl hl.1 (Nat.le_of_ble_eq_true rfl) ⟨Nat.zero_le _, Nat.zero_le _⟩ dX12_runs_164 (fun S28 H locs hC h => ?_)
      refine lv_goto (tgt := 179) hx hb dX12_runs_167 (by decide) ?_
      obtain ⟨n9, h⟩ := h
      exact cut179 n9 S28 _ _ _ h hC (lv_sub hl [0] rfl)
  have cut37 : ∀ (y0 : Int32) (S : mS) (H : Heap) (locs : List Loc) (ls : Array Slot), wp_runs_37 K y0 S → mC E A s.heap S H locs → lv_has ls 4 [(0, .ref E.2.1)] → W p l e R s m args below meth c H locs 0 0 Q (F0 m 37 ls [.int y0]) := by
    intro y0 S H locs ls h hC hl
    unfold wp_runs_37 at h
    refine lv_istore_n (lv' := [(2, .int y0), (0, .ref E.2.1)]) hx hb dX12_runs_37 rfl hl (by decide) rfl (fun ls hl => ?_)
    refine lv_aload_n hx hb dX12_runs_38 rfl (lv_at hl 1 rfl) ?_
    refine mv_get (v := .ref (E.2.2.1 60)) hX hC 84 (Nat.le_of_ble_eq_true rfl) wd_1484 rfl dX12_runs_39 ?_
    refine lv_aload_n hx hb dX12_runs_42 rfl (lv_at hl 1 rfl) ?_
    refine mv_get (v := .int (S.1 33)) hX hC 123 (Nat.le_of_ble_eq_true rfl) wd_1523 rfl dX12_runs_43 ?_
    refine lv_dup2_11 hx hb dX12_runs_46 rfl rfl ?_
    refine mq_ild (n := 200) hX hC 60 rfl rfl dX12_runs_47 h (fun z7 h => ?_)
    refine lv_iconst (v := 1) hx hb dX12_runs_48 (by decide) ?_
    refine lq_iadd hx hb dX12_runs_49 h (fun z8 h => ?_)
    refine mq_ist (n := 200) (v := z8) hX hC 60 rfl rfl mf_60 dX12_runs_50 h.1 h.2 (fun S9 H locs hC h => ?_)
    refine lv_aload_n hx hb dX12_runs_51 rfl (lv_at hl 1 rfl) ?_
    refine mv_get (v := .ref (E.2.2.1 54)) hX hC 78 (Nat.le_of_ble_eq_true rfl) wd_1478 rfl dX12_runs_52 ?_
    refine lv_aload_n hx hb dX12_runs_55 rfl (lv_at hl 1 rfl) ?_
    refine mv_get (v := .int (S9.1 33)) hX hC 123 (Nat.le_of_ble_eq_true rfl) wd_1523 rfl dX12_runs_56 ?_
    refine lv_iconst (v := 4) hx hb dX12_runs_59 (by decide) ?_
    refine mq_ist (n := 200) (v := 4) hX hC 54 rfl rfl mf_54 dX12_runs_60 h.1 h.2 (fun S10 H locs hC h => ?_)
    refine lv_aload_n hx hb dX12_runs_61 rfl (lv_at hl 1 rfl) ?_
    refine lv_aload_n hx hb dX12_runs_62 rfl (lv_at hl 1 rfl) ?_
    refine mv_get (v := .ref (E.2.2.1 57)) hX hC 81 (Nat.le_of_ble_eq_true rfl) wd_1481 rfl dX12_runs_63 ?_
    refine lv_aload_n hx hb dX12_runs_66 rfl (lv_at hl 1 rfl) ?_
    refine mv_get (v := .int (S10.1 33)) hX hC 123 (Nat.le_of_ble_eq_true rfl) wd_1523 rfl dX12_runs_67 ?_
    refine mq_ild (n := 200) hX hC 57 rfl rfl dX12_runs_70 h (fun z11 h => ?_)
    refine mq_put (v := z11) hX hC 122 32 (Nat.le_of_ble_eq_true rfl) wd_1522 rfl rfl rfl mz_32 dX12_runs_71 h (fun S12 H locs hC h => ?_)
    refine lv_iload_n hx hb dX12_runs_74 rfl (lv_at hl 0 rfl) ?_
    refine lv_if_eq (tgt := 179) hx hb dX12_runs_75 (by decide) (fun c13 => ?_) (fun c13 => ?_)
    · have h := h.1 c13
      obtain ⟨n9, h⟩ := h
      exact cut179 n9 S12 _ _ _ h hC (lv_sub hl [1] rfl)
    · have h := h.2 c13
      refine lv_aload_n hx hb dX12_runs_78 rfl (lv_at hl 1 rfl) ?_
      refine mv_get (v := .ref (E.2.2.1 62)) hX hC 86 (Nat.le_of_ble_eq_true rfl) wd_1486 rfl dX12_runs_79 ?_
      refine lv_aload_n hx hb dX12_runs_82 rfl (lv_at hl 1 rfl) ?_
      refine mv_get (v := .int (S12.1 33)) hX hC 123 (Nat.le_of_ble_eq_true rfl) wd_1523 rfl dX12_runs_83 ?_
      refine mq_ild (n := 200) hX hC 62 rfl rfl dX12_runs_86 h (fun z14 h => ?_)
      refine lv_istore_n (lv' := [(3, .int z14), (2, .int y0), (0, .ref E.2.1)]) hx hb dX12_runs_87 rfl hl (by decide) rfl (fun ls hl => ?_)
      refine lv_aload_n hx hb dX12_runs_88 rfl (lv_at hl 2 rfl) ?_
      refine mv_get (v := .ref (E.2.2.1 62)) hX hC 86 (Nat.le_of_ble_eq_true rfl) wd_1486 rfl dX12_runs_89 ?_
      refine lv_aload_n hx hb dX12_runs_92 rfl (lv_at hl 2 rfl) ?_
      refine mv_get (v := .int (S12.1 33)) hX hC 123 (Nat.le_of_ble_eq_true rfl) wd_1523 rfl dX12_runs_93 ?_
      refine lv_iconst (v := 0) hx hb dX12_runs_96 (by decide) ?_
      refine mq_ist (n := 200) (v := 0) hX hC 62 rfl rfl mf_62 dX12_runs_97 h.1 h.2 (fun S15 H locs hC h => ?_)
      refine lv_iload_n hx hb dX12_runs_98 rfl (lv_at hl 0 rfl) ?_
      refine lv_iconst (v := 1) hx hb dX12_runs_99 (by decide) ?_
      refine lv_icmp_ne (tgt := 149) hx hb dX12_runs_100 (by decide) (fun c16 => ?_) (fun c16 => ?_)
      · have h := h.1 c16
        exact cut149 z14 S15 _ _ _ h hC (lv_sub hl [2, 0] rfl)
      · have h := h.2 c16
        refine lv_aload_n hx hb dX12_runs_103 rfl (lv_at hl 2 rfl) ?_
        refine mv_get (v := .ref (E.2.2.1 64)) hX hC 88 (Nat.le_of_ble_eq_true rfl) wd_1488 rfl dX12_runs_104 ?_
        refine lv_aload_n hx hb dX12_runs_107 rfl (lv_at hl 2 rfl) ?_
        refine mv_get (v := .int (S15.1 33)) hX hC 123 (Nat.le_of_ble_eq_true rfl) wd_1523 rfl dX12_runs_108 ?_
        refine mq_ild (n := 200) hX hC 64 rfl rfl dX12_runs_111 h (fun z17 h => ?_)
        refine lv_if_lt (tgt := 149) hx hb dX12_runs_112 (by decide) (fun c18 => ?_) (fun c18 => ?_)
        · have h := h.1 c18
          exact cut149 z14 S15 _ _ _ h hC (lv_sub hl [2, 0] rfl)
        · have h := h.2 c18
          refine lv_aload_n hx hb dX12_runs_115 rfl (lv_at hl 2 rfl) ?_
          refine mv_get (v := .ref (E.2.2.1 58)) hX hC 82 (Nat.le_of_ble_eq_true rfl) wd_1482 rfl dX12_runs_116 ?_
          refine lv_bipush (v := 12) hx hb dX12_runs_119 (by decide) ?_
          refine lv_aload_n hx hb dX12_runs_121 rfl (lv_at hl 2 rfl) ?_
          refine mv_get (v := .int (S15.1 33)) hX hC 123 (Nat.le_of_ble_eq_true rfl) wd_1523 rfl dX12_runs_122 ?_
          refine lq_imul hx hb dX12_runs_125 h (fun z19 h => ?_)
          refine lv_aload_n hx hb dX12_runs_126 rfl (lv_at hl 2 rfl) ?_
          refine mv_get (v := .ref (E.2.2.1 64)) hX hC 88 (Nat.le_of_ble_eq_true rfl) wd_1488 rfl dX12_runs_127 ?_
          refine lv_aload_n hx hb dX12_runs_130 rfl (lv_at hl 2 rfl) ?_
          refine mv_get (v := .int (S15.1 33)) hX hC 123 (Nat.le_of_ble_eq_true rfl) wd_1523 rfl dX12_runs_131 ?_
          refine mq_ild (n := 200) hX hC 64 rfl rfl dX12_runs_134 h (fun z20 h => ?_)
          refine lq_iadd hx hb dX12_runs_135 h (fun z21 h => ?_)
          refine lv_aload_n hx hb dX12_runs_136 rfl (lv_at hl 2 rfl) ?_
          refine mv_get (v := .ref (E.2.2.1 63)) hX hC 87 (Nat.le_of_ble_eq_true rfl) wd_1487 rfl dX12_runs_137 ?_
          refine lv_aload_n hx hb dX12_runs_140 rfl (lv_at hl 2 rfl) ?_
          refine mv_get (v := .int (S15.1 33)) hX hC 123 (Nat.le_of_ble_eq_true rfl) wd_1523 rfl dX12_runs_141 ?_
          refine mq_ild (n := 200) hX hC 63 rfl rfl dX12_runs_144 h (fun z22 h => ?_)
          refine mq_ist (n := 2400) (v := z22) hX hC 58 rfl rfl mf_58 dX12_runs_145 h.1 h.2 (fun S23 H locs hC h => ?_)
          refine lv_goto (tgt := 179) hx hb dX12_runs_146 (by decide) ?_
          obtain ⟨n9, h⟩ := h
          exact cut179 n9 S23 _ _ _ h hC (lv_sub hl [2] rfl)
  have hl : lv_has ls 4 [(0, .ref E.2.1), (1, .int a0)] := hl
  unfold wp_runs at h
  refine lv_aload_n hx hb dX12_runs_0 rfl (lv_at hl 0 rfl) ?_
  refine lv_iload_n hx hb dX12_runs_1 rfl (lv_at hl 1 rfl) ?_
  refine mq_put (v := a0) hX hC 123 33 (Nat.le_of_ble_eq_true rfl) wd_1523 rfl rfl rfl mz_33 dX12_runs_2 h (fun S1 H locs hC h => ?_)
  refine lv_aload_n hx hb dX12_runs_5 rfl (lv_at hl 0 rfl) ?_
  refine lv_iconst (v := 0) hx hb dX12_runs_6 (by decide) ?_
  refine mq_put (v := 0) hX hC 101 26 (Nat.le_of_ble_eq_true rfl) wd_1501 rfl rfl rfl mz_26 dX12_runs_7 h (fun S2 H locs hC h => ?_)
  refine lv_aload_n hx hb dX12_runs_10 rfl (lv_at hl 0 rfl) ?_
  refine lv_iconst (v := 0) hx hb dX12_runs_11 (by decide) ?_
  refine mq_put (v := 0) hX hC 121 31 (Nat.le_of_ble_eq_true rfl) wd_1521 rfl rfl rfl mz_31 dX12_runs_12 h (fun S3 H locs hC h => ?_)
  refine lv_aload_n hx hb dX12_runs_15 rfl (lv_at hl 0 rfl) ?_
  refine lv_iconst (v := 0) hx hb dX12_runs_16 (by decide) ?_
  refine mq_put (v := 0) hX hC 124 34 (Nat.le_of_ble_eq_true rfl) wd_1524 rfl rfl rfl mz_34 dX12_runs_17 h (fun S4 H locs hC h => ?_)
  refine lv_aload_n hx hb dX12_runs_20 rfl (lv_at hl 0 rfl) ?_
  refine mv_get (v := .ref (E.2.2.1 60)) hX hC 84 (Nat.le_of_ble_eq_true rfl) wd_1484 rfl dX12_runs_21 ?_
  refine lv_aload_n hx hb dX12_runs_24 rfl (lv_at hl 0 rfl) ?_
  refine mv_get (v := .int (S4.1 33)) hX hC 123 (Nat.le_of_ble_eq_true rfl) wd_1523 rfl dX12_runs_25 ?_
  refine mq_ild (n := 200) hX hC 60 rfl rfl dX12_runs_28 h (fun z5 h => ?_)
  refine lv_if_le (tgt := 36) hx hb dX12_runs_29 (by decide) (fun c6 => ?_) (fun c6 => ?_)
  · have h := h.1 c6
    refine lv_iconst (v := 0) hx hb dX12_runs_36 (by decide) ?_
    exact cut37 0 S4 _ _ _ h hC (lv_sub hl [0] rfl)
  · have h := h.2 c6
    refine lv_iconst (v := 1) hx hb dX12_runs_32 (by decide) ?_
    refine lv_goto (tgt := 37) hx hb dX12_runs_33 (by decide) ?_
    exact cut37 1 S4 _ _ _ h hC (lv_sub hl [0] rfl)
