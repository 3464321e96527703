theorem wd_1435 : (Jvm.Cond.fieldLink "SleepersModel" (368 : Nat) "SleepersModel" "tries" "I") ∈ tb := tb_at 1435 (by decide +kernel) (by decide +kernel)
theorem wd_1451 : (Jvm.Cond.fieldLink "SleepersModel" (371 : Nat) "SleepersModel" "whiles" "I") ∈ tb := tb_at 1451 (by decide +kernel) (by decide +kernel)
theorem wd_1466 : (Jvm.Cond.fieldLink "SleepersModel" (412 : Nat) "SleepersModel" "placeDeep" "I") ∈ tb := tb_at 1466 (by decide +kernel) (by decide +kernel)
theorem wd_1842 : (Jvm.Cond.methodLink "SleepersModel" (428 : Nat) ({ cls := "SleepersModel", name := "block", desc := "()V" } : Jvm.MethodName)) ∈ tb := tb_at 1842 (by decide +kernel) (by decide +kernel)
theorem wd_1844 : (Jvm.Cond.instanceMethod ({ cls := "SleepersModel", name := "block", desc := "()V" } : Jvm.MethodName)) ∈ tb := tb_at 1844 (by decide +kernel) (by decide +kernel)
theorem wd_1845 : (Jvm.Cond.code ({ cls := "SleepersModel", name := "block", desc := "()V" } : Jvm.MethodName) prog_14_method_30_code (1 : Nat) (Option.none : Option Jvm.ClassFile.FieldType)) ∈ tb := tb_at 1845 (by decide +kernel) (by decide +kernel)
theorem wd_1910 : (Jvm.Cond.methodLink "SleepersModel" (466 : Nat) ({ cls := "SleepersModel", name := "inBlock", desc := "(II)V" } : Jvm.MethodName)) ∈ tb := tb_at 1910 (by decide +kernel) (by decide +kernel)
theorem wd_1912 : (Jvm.Cond.instanceMethod ({ cls := "SleepersModel", name := "inBlock", desc := "(II)V" } : Jvm.MethodName)) ∈ tb := tb_at 1912 (by decide +kernel) (by decide +kernel)
theorem wd_1913 : (Jvm.Cond.code ({ cls := "SleepersModel", name := "inBlock", desc := "(II)V" } : Jvm.MethodName) prog_14_method_35_code (5 : Nat) (Option.none : Option Jvm.ClassFile.FieldType)) ∈ tb := tb_at 1913 (by decide +kernel) (by decide +kernel)
theorem sl_X12_block : Cond.selects RX12 yX12_block yX12_block ∈ tb := sl_of (y := ⟨"SleepersModel", "block", "()V"⟩) (n := 128) (by decide +kernel) (by decide +kernel)
theorem sl_X12_inBlock : Cond.selects RX12 yX12_inBlock yX12_inBlock ∈ tb := sl_of (y := ⟨"SleepersModel", "inBlock", "(II)V"⟩) (n := 128) (by decide +kernel) (by decide +kernel)
theorem dX12_inBlock_0 : decode cX12_inBlock 0 = .ok (.aload_n 0, 1) := by decide +kernel
theorem dX12_inBlock_1 : decode cX12_inBlock 1 = .ok (.getfield 403, 3) := by decide +kernel
theorem dX12_inBlock_4 : decode cX12_inBlock 4 = .ok (.istore_n 3, 1) := by decide +kernel
theorem dX12_inBlock_5 : decode cX12_inBlock 5 = .ok (.aload_n 0, 1) := by decide +kernel
theorem dX12_inBlock_6 : decode cX12_inBlock 6 = .ok (.getfield 406, 3) := by decide +kernel
theorem dX12_inBlock_9 : decode cX12_inBlock 9 = .ok (.istore 4, 2) := by decide +kernel
theorem dX12_inBlock_11 : decode cX12_inBlock 11 = .ok (.aload_n 0, 1) := by decide +kernel
theorem dX12_inBlock_12 : decode cX12_inBlock 12 = .ok (.iload_n 1, 1) := by decide +kernel
theorem dX12_inBlock_13 : decode cX12_inBlock 13 = .ok (.putfield 403, 3) := by decide +kernel
theorem dX12_inBlock_16 : decode cX12_inBlock 16 = .ok (.aload_n 0, 1) := by decide +kernel
theorem dX12_inBlock_17 : decode cX12_inBlock 17 = .ok (.iload_n 2, 1) := by decide +kernel
theorem dX12_inBlock_18 : decode cX12_inBlock 18 = .ok (.putfield 406, 3) := by decide +kernel
theorem dX12_inBlock_21 : decode cX12_inBlock 21 = .ok (.aload_n 0, 1) := by decide +kernel
theorem dX12_inBlock_22 : decode cX12_inBlock 22 = .ok (.invokevirtual 428, 3) := by decide +kernel
theorem dX12_inBlock_25 : decode cX12_inBlock 25 = .ok (.aload_n 0, 1) := by decide +kernel
theorem dX12_inBlock_26 : decode cX12_inBlock 26 = .ok (.iload_n 3, 1) := by decide +kernel
theorem dX12_inBlock_27 : decode cX12_inBlock 27 = .ok (.putfield 403, 3) := by decide +kernel
theorem dX12_inBlock_30 : decode cX12_inBlock 30 = .ok (.aload_n 0, 1) := by decide +kernel
theorem dX12_inBlock_31 : decode cX12_inBlock 31 = .ok (.iload 4, 2) := by decide +kernel
theorem dX12_inBlock_33 : decode cX12_inBlock 33 = .ok (.putfield 406, 3) := by decide +kernel
theorem dX12_inBlock_36 : decode cX12_inBlock 36 = .ok (.return_, 1) := by decide +kernel
theorem dX12_loop_0 : decode cX12_loop 0 = .ok (.aload_n 0, 1) := by decide +kernel
theorem dX12_loop_1 : decode cX12_loop 1 = .ok (.getfield 371, 3) := by decide +kernel
theorem dX12_loop_4 : decode cX12_loop 4 = .ok (.istore_n 1, 1) := by decide +kernel
theorem dX12_loop_5 : decode cX12_loop 5 = .ok (.aload_n 0, 1) := by decide +kernel
theorem dX12_loop_6 : decode cX12_loop 6 = .ok (.dup, 1) := by decide +kernel
theorem dX12_loop_7 : decode cX12_loop 7 = .ok (.getfield 371, 3) := by decide +kernel
theorem dX12_loop_10 : decode cX12_loop 10 = .ok (.iconst 1, 1) := by decide +kernel
theorem dX12_loop_11 : decode cX12_loop 11 = .ok (.iadd, 1) := by decide +kernel
theorem dX12_loop_12 : decode cX12_loop 12 = .ok (.putfield 371, 3) := by decide +kernel
theorem dX12_loop_15 : decode cX12_loop 15 = .ok (.aload_n 0, 1) := by decide +kernel
theorem dX12_loop_16 : decode cX12_loop 16 = .ok (.getfield 149, 3) := by decide +kernel
theorem dX12_loop_19 : decode cX12_loop 19 = .ok (.iload_n 1, 1) := by decide +kernel
theorem dX12_loop_20 : decode cX12_loop 20 = .ok (.aload_n 0, 1) := by decide +kernel
theorem dX12_loop_21 : decode cX12_loop 21 = .ok (.getfield 403, 3) := by decide +kernel
theorem dX12_loop_24 : decode cX12_loop 24 = .ok (.iastore, 1) := by decide +kernel
theorem dX12_loop_25 : decode cX12_loop 25 = .ok (.aload_n 0, 1) := by decide +kernel
theorem dX12_loop_26 : decode cX12_loop 26 = .ok (.getfield 152, 3) := by decide +kernel
theorem dX12_loop_29 : decode cX12_loop 29 = .ok (.iload_n 1, 1) := by decide +kernel
theorem dX12_loop_30 : decode cX12_loop 30 = .ok (.aload_n 0, 1) := by decide +kernel
theorem dX12_loop_31 : decode cX12_loop 31 = .ok (.getfield 412, 3) := by decide +kernel
theorem dX12_loop_34 : decode cX12_loop 34 = .ok (.iastore, 1) := by decide +kernel
theorem dX12_loop_35 : decode cX12_loop 35 = .ok (.aload_n 0, 1) := by decide +kernel
theorem dX12_loop_36 : decode cX12_loop 36 = .ok (.getfield 155, 3) := by decide +kernel
theorem dX12_loop_39 : decode cX12_loop 39 = .ok (.iload_n 1, 1) := by decide +kernel
theorem dX12_loop_40 : decode cX12_loop 40 = .ok (.aload_n 0, 1) := by decide +kernel
theorem dX12_loop_41 : decode cX12_loop 41 = .ok (.iconst 1, 1) := by decide +kernel
theorem dX12_loop_42 : decode cX12_loop 42 = .ok (.iconst 0, 1) := by decide +kernel
theorem dX12_loop_43 : decode cX12_loop 43 = .ok (.iconst 0, 1) := by decide +kernel
theorem dX12_loop_44 : decode cX12_loop 44 = .ok (.invokevirtual 431, 3) := by decide +kernel
theorem dX12_loop_47 : decode cX12_loop 47 = .ok (.iastore, 1) := by decide +kernel
theorem dX12_loop_48 : decode cX12_loop 48 = .ok (.aload_n 0, 1) := by decide +kernel
theorem dX12_loop_49 : decode cX12_loop 49 = .ok (.getfield 161, 3) := by decide +kernel
theorem dX12_loop_52 : decode cX12_loop 52 = .ok (.iload_n 1, 1) := by decide +kernel
theorem dX12_loop_53 : decode cX12_loop 53 = .ok (.aload_n 0, 1) := by decide +kernel
theorem dX12_loop_54 : decode cX12_loop 54 = .ok (.iconst 0, 1) := by decide +kernel
theorem dX12_loop_55 : decode cX12_loop 55 = .ok (.iconst 0, 1) := by decide +kernel
theorem dX12_loop_56 : decode cX12_loop 56 = .ok (.invokevirtual 460, 3) := by decide +kernel
theorem dX12_loop_59 : decode cX12_loop 59 = .ok (.iastore, 1) := by decide +kernel
theorem dX12_loop_60 : decode cX12_loop 60 = .ok (.aload_n 0, 1) := by decide +kernel
theorem dX12_loop_61 : decode cX12_loop 61 = .ok (.getfield 164, 3) := by decide +kernel
theorem dX12_loop_64 : decode cX12_loop 64 = .ok (.iload_n 1, 1) := by decide +kernel
theorem dX12_loop_65 : decode cX12_loop 65 = .ok (.aload_n 0, 1) := by decide +kernel
theorem dX12_loop_66 : decode cX12_loop 66 = .ok (.iconst 0, 1) := by decide +kernel
theorem dX12_loop_67 : decode cX12_loop 67 = .ok (.iconst 0, 1) := by decide +kernel
theorem dX12_loop_68 : decode cX12_loop 68 = .ok (.invokevirtual 421, 3) := by decide +kernel
theorem dX12_loop_71 : decode cX12_loop 71 = .ok (.iastore, 1) := by decide +kernel
theorem dX12_loop_72 : decode cX12_loop 72 = .ok (.aload_n 0, 1) := by decide +kernel
theorem dX12_loop_73 : decode cX12_loop 73 = .ok (.getfield 409, 3) := by decide +kernel
theorem dX12_loop_76 : decode cX12_loop 76 = .ok (.istore_n 2, 1) := by decide +kernel
theorem dX12_loop_77 : decode cX12_loop 77 = .ok (.aload_n 0, 1) := by decide +kernel
theorem dX12_loop_78 : decode cX12_loop 78 = .ok (.getfield 415, 3) := by decide +kernel
theorem dX12_loop_81 : decode cX12_loop 81 = .ok (.istore_n 3, 1) := by decide +kernel
theorem dX12_loop_82 : decode cX12_loop 82 = .ok (.aload_n 0, 1) := by decide +kernel
theorem dX12_loop_83 : decode cX12_loop 83 = .ok (.invokevirtual 457, 3) := by decide +kernel
theorem dX12_loop_86 : decode cX12_loop 86 = .ok (.aload_n 0, 1) := by decide +kernel
theorem dX12_loop_87 : decode cX12_loop 87 = .ok (.bipush 15, 2) := by decide +kernel
theorem dX12_loop_89 : decode cX12_loop 89 = .ok (.iconst 0, 1) := by decide +kernel
theorem dX12_loop_90 : decode cX12_loop 90 = .ok (.iconst 0, 1) := by decide +kernel
theorem dX12_loop_91 : decode cX12_loop 91 = .ok (.invokevirtual 431, 3) := by decide +kernel
theorem dX12_loop_94 : decode cX12_loop 94 = .ok (.istore 4, 2) := by decide +kernel
theorem dX12_loop_96 : decode cX12_loop 96 = .ok (.aload_n 0, 1) := by decide +kernel
theorem dX12_loop_97 : decode cX12_loop 97 = .ok (.iconst 0, 1) := by decide +kernel
theorem dX12_loop_98 : decode cX12_loop 98 = .ok (.iconst 0, 1) := by decide +kernel
theorem dX12_loop_99 : decode cX12_loop 99 = .ok (.invokevirtual 460, 3) := by decide +kernel
theorem dX12_loop_102 : decode cX12_loop 102 = .ok (.istore 5, 2) := by decide +kernel
theorem dX12_loop_104 : decode cX12_loop 104 = .ok (.aload_n 0, 1) := by decide +kernel
theorem dX12_loop_105 : decode cX12_loop 105 = .ok (.iload_n 1, 1) := by decide +kernel
theorem dX12_loop_106 : decode cX12_loop 106 = .ok (.putfield 409, 3) := by decide +kernel
theorem dX12_loop_109 : decode cX12_loop 109 = .ok (.aload_n 0, 1) := by decide +kernel
theorem dX12_loop_110 : decode cX12_loop 110 = .ok (.iconst 0, 1) := by decide +kernel
theorem dX12_loop_111 : decode cX12_loop 111 = .ok (.putfield 415, 3) := by decide +kernel
theorem dX12_loop_114 : decode cX12_loop 114 = .ok (.aload_n 0, 1) := by decide +kernel
theorem dX12_loop_115 : decode cX12_loop 115 = .ok (.getfield 176, 3) := by decide +kernel
theorem dX12_loop_118 : decode cX12_loop 118 = .ok (.istore 6, 2) := by decide +kernel
theorem dX12_loop_120 : decode cX12_loop 120 = .ok (.aload_n 0, 1) := by decide +kernel
theorem dX12_loop_121 : decode cX12_loop 121 = .ok (.aload_n 0, 1) := by decide +kernel
theorem dX12_loop_122 : decode cX12_loop 122 = .ok (.getfield 176, 3) := by decide +kernel
theorem dX12_loop_125 : decode cX12_loop 125 = .ok (.ifCond .eq 11, 3) := by decide +kernel
theorem dX12_loop_128 : decode cX12_loop 128 = .ok (.iload_n 3, 1) := by decide +kernel
theorem dX12_loop_129 : decode cX12_loop 129 = .ok (.ifCond .ne 7, 3) := by decide +kernel
theorem dX12_loop_132 : decode cX12_loop 132 = .ok (.iconst 1, 1) := by decide +kernel
theorem dX12_loop_133 : decode cX12_loop 133 = .ok (.goto 4, 3) := by decide +kernel
theorem dX12_loop_136 : decode cX12_loop 136 = .ok (.iconst 0, 1) := by decide +kernel
theorem dX12_loop_137 : decode cX12_loop 137 = .ok (.putfield 176, 3) := by decide +kernel
theorem dX12_loop_140 : decode cX12_loop 140 = .ok (.aload_n 0, 1) := by decide +kernel
theorem dX12_loop_141 : decode cX12_loop 141 = .ok (.invokevirtual 428, 3) := by decide +kernel
theorem dX12_loop_144 : decode cX12_loop 144 = .ok (.aload_n 0, 1) := by decide +kernel
theorem dX12_loop_145 : decode cX12_loop 145 = .ok (.aload_n 0, 1) := by decide +kernel
theorem dX12_loop_146 : decode cX12_loop 146 = .ok (.getfield 161, 3) := by decide +kernel
theorem dX12_loop_149 : decode cX12_loop 149 = .ok (.iload_n 1, 1) := by decide +kernel
theorem dX12_loop_150 : decode cX12_loop 150 = .ok (.iaload, 1) := by decide +kernel
theorem dX12_loop_151 : decode cX12_loop 151 = .ok (.invokevirtual 435, 3) := by decide +kernel
theorem dX12_loop_154 : decode cX12_loop 154 = .ok (.aload_n 0, 1) := by decide +kernel
theorem dX12_loop_155 : decode cX12_loop 155 = .ok (.iload 6, 2) := by decide +kernel
theorem dX12_loop_157 : decode cX12_loop 157 = .ok (.putfield 176, 3) := by decide +kernel
theorem dX12_loop_160 : decode cX12_loop 160 = .ok (.aload_n 0, 1) := by decide +kernel
theorem dX12_loop_161 : decode cX12_loop 161 = .ok (.iload_n 3, 1) := by decide +kernel
theorem dX12_loop_162 : decode cX12_loop 162 = .ok (.putfield 415, 3) := by decide +kernel
theorem dX12_loop_165 : decode cX12_loop 165 = .ok (.aload_n 0, 1) := by decide +kernel
theorem dX12_loop_166 : decode cX12_loop 166 = .ok (.iload_n 2, 1) := by decide +kernel
theorem dX12_loop_167 : decode cX12_loop 167 = .ok (.putfield 409, 3) := by decide +kernel
theorem dX12_loop_170 : decode cX12_loop 170 = .ok (.aload_n 0, 1) := by decide +kernel
theorem dX12_loop_171 : decode cX12_loop 171 = .ok (.bipush 16, 2) := by decide +kernel
theorem dX12_loop_173 : decode cX12_loop 173 = .ok (.aload_n 0, 1) := by decide +kernel
theorem dX12_loop_174 : decode cX12_loop 174 = .ok (.getfield 155, 3) := by decide +kernel
theorem dX12_loop_177 : decode cX12_loop 177 = .ok (.iload_n 1, 1) := by decide +kernel
theorem dX12_loop_178 : decode cX12_loop 178 = .ok (.iaload, 1) := by decide +kernel
theorem dX12_loop_179 : decode cX12_loop 179 = .ok (.iconst 0, 1) := by decide +kernel
theorem dX12_loop_180 : decode cX12_loop 180 = .ok (.invokevirtual 431, 3) := by decide +kernel
theorem dX12_loop_183 : decode cX12_loop 183 = .ok (.istore 7, 2) := by decide +kernel
theorem dX12_loop_185 : decode cX12_loop 185 = .ok (.aload_n 0, 1) := by decide +kernel
theorem dX12_loop_186 : decode cX12_loop 186 = .ok (.getfield 67, 3) := by decide +kernel
theorem dX12_loop_189 : decode cX12_loop 189 = .ok (.iload 4, 2) := by decide +kernel
theorem dX12_loop_191 : decode cX12_loop 191 = .ok (.aload_n 0, 1) := by decide +kernel
theorem dX12_loop_192 : decode cX12_loop 192 = .ok (.getfield 362, 3) := by decide +kernel
theorem dX12_loop_195 : decode cX12_loop 195 = .ok (.iastore, 1) := by decide +kernel
theorem dX12_loop_196 : decode cX12_loop 196 = .ok (.aload_n 0, 1) := by decide +kernel
theorem dX12_loop_197 : decode cX12_loop 197 = .ok (.getfield 158, 3) := by decide +kernel
theorem dX12_loop_200 : decode cX12_loop 200 = .ok (.iload_n 1, 1) := by decide +kernel
theorem dX12_loop_201 : decode cX12_loop 201 = .ok (.aload_n 0, 1) := by decide +kernel
theorem dX12_loop_202 : decode cX12_loop 202 = .ok (.getfield 362, 3) := by decide +kernel
theorem dX12_loop_205 : decode cX12_loop 205 = .ok (.iastore, 1) := by decide +kernel
theorem dX12_loop_206 : decode cX12_loop 206 = .ok (.aload_n 0, 1) := by decide +kernel
theorem dX12_loop_207 : decode cX12_loop 207 = .ok (.iload 5, 2) := by decide +kernel
theorem dX12_loop_209 : decode cX12_loop 209 = .ok (.putfield 425, 3) := by decide +kernel
theorem dX12_loop_212 : decode cX12_loop 212 = .ok (.aload_n 0, 1) := by decide +kernel
theorem dX12_loop_213 : decode cX12_loop 213 = .ok (.aload_n 0, 1) := by decide +kernel
theorem dX12_loop_214 : decode cX12_loop 214 = .ok (.getfield 164, 3) := by decide +kernel
theorem dX12_loop_217 : decode cX12_loop 217 = .ok (.iload_n 1, 1) := by decide +kernel
theorem dX12_loop_218 : decode cX12_loop 218 = .ok (.iaload, 1) := by decide +kernel
theorem dX12_loop_219 : decode cX12_loop 219 = .ok (.invokevirtual 435, 3) := by decide +kernel
theorem dX12_loop_222 : decode cX12_loop 222 = .ok (.aload_n 0, 1) := by decide +kernel
theorem dX12_loop_223 : decode cX12_loop 223 = .ok (.aload_n 0, 1) := by decide +kernel
theorem dX12_loop_224 : decode cX12_loop 224 = .ok (.getfield 164, 3) := by decide +kernel
theorem dX12_loop_227 : decode cX12_loop 227 = .ok (.iload_n 1, 1) := by decide +kernel
theorem dX12_loop_228 : decode cX12_loop 228 = .ok (.iaload, 1) := by decide +kernel
theorem dX12_loop_229 : decode cX12_loop 229 = .ok (.putfield 425, 3) := by decide +kernel
theorem dX12_loop_232 : decode cX12_loop 232 = .ok (.return_, 1) := by decide +kernel
theorem dX12_trial_0 : decode cX12_trial 0 = .ok (.aload_n 0, 1) := by decide +kernel
theorem dX12_trial_1 : decode cX12_trial 1 = .ok (.getfield 368, 3) := by decide +kernel
theorem dX12_trial_4 : decode cX12_trial 4 = .ok (.istore_n 1, 1) := by decide +kernel
theorem dX12_trial_5 : decode cX12_trial 5 = .ok (.aload_n 0, 1) := by decide +kernel
theorem dX12_trial_6 : decode cX12_trial 6 = .ok (.dup, 1) := by decide +kernel
theorem dX12_trial_7 : decode cX12_trial 7 = .ok (.getfield 368, 3) := by decide +kernel
theorem dX12_trial_10 : decode cX12_trial 10 = .ok (.iconst 1, 1) := by decide +kernel
theorem dX12_trial_11 : decode cX12_trial 11 = .ok (.iadd, 1) := by decide +kernel
theorem dX12_trial_12 : decode cX12_trial 12 = .ok (.putfield 368, 3) := by decide +kernel
theorem dX12_trial_15 : decode cX12_trial 15 = .ok (.aload_n 0, 1) := by decide +kernel
theorem dX12_trial_16 : decode cX12_trial 16 = .ok (.getfield 103, 3) := by decide +kernel
theorem dX12_trial_19 : decode cX12_trial 19 = .ok (.iload_n 1, 1) := by decide +kernel
theorem dX12_trial_20 : decode cX12_trial 20 = .ok (.aload_n 0, 1) := by decide +kernel
theorem dX12_trial_21 : decode cX12_trial 21 = .ok (.getfield 403, 3) := by decide +kernel
theorem dX12_trial_24 : decode cX12_trial 24 = .ok (.iastore, 1) := by decide +kernel
theorem dX12_trial_25 : decode cX12_trial 25 = .ok (.aload_n 0, 1) := by decide +kernel
theorem dX12_trial_26 : decode cX12_trial 26 = .ok (.getfield 106, 3) := by decide +kernel
theorem dX12_trial_29 : decode cX12_trial 29 = .ok (.iload_n 1, 1) := by decide +kernel
theorem dX12_trial_30 : decode cX12_trial 30 = .ok (.aload_n 0, 1) := by decide +kernel
theorem dX12_trial_31 : decode cX12_trial 31 = .ok (.getfield 406, 3) := by decide +kernel
theorem dX12_trial_34 : decode cX12_trial 34 = .ok (.iastore, 1) := by decide +kernel
theorem dX12_trial_35 : decode cX12_trial 35 = .ok (.aload_n 0, 1) := by decide +kernel
theorem dX12_trial_36 : decode cX12_trial 36 = .ok (.getfield 109, 3) := by decide +kernel
theorem dX12_trial_39 : decode cX12_trial 39 = .ok (.iload_n 1, 1) := by decide +kernel
theorem dX12_trial_40 : decode cX12_trial 40 = .ok (.aload_n 0, 1) := by decide +kernel
theorem dX12_trial_41 : decode cX12_trial 41 = .ok (.getfield 409, 3) := by decide +kernel
theorem dX12_trial_44 : decode cX12_trial 44 = .ok (.iastore, 1) := by decide +kernel
theorem dX12_trial_45 : decode cX12_trial 45 = .ok (.aload_n 0, 1) := by decide +kernel
theorem dX12_trial_46 : decode cX12_trial 46 = .ok (.getfield 112, 3) := by decide +kernel
theorem dX12_trial_49 : decode cX12_trial 49 = .ok (.iload_n 1, 1) := by decide +kernel
theorem dX12_trial_50 : decode cX12_trial 50 = .ok (.iconst 0, 1) := by decide +kernel
theorem dX12_trial_51 : decode cX12_trial 51 = .ok (.bastore, 1) := by decide +kernel
theorem dX12_trial_52 : decode cX12_trial 52 = .ok (.aload_n 0, 1) := by decide +kernel
theorem dX12_trial_53 : decode cX12_trial 53 = .ok (.getfield 116, 3) := by decide +kernel
theorem dX12_trial_56 : decode cX12_trial 56 = .ok (.iload_n 1, 1) := by decide +kernel
theorem dX12_trial_57 : decode cX12_trial 57 = .ok (.iconst 0, 1) := by decide +kernel
theorem dX12_trial_58 : decode cX12_trial 58 = .ok (.bastore, 1) := by decide +kernel
theorem dX12_trial_59 : decode cX12_trial 59 = .ok (.aload_n 0, 1) := by decide +kernel
theorem dX12_trial_60 : decode cX12_trial 60 = .ok (.getfield 140, 3) := by decide +kernel
theorem dX12_trial_63 : decode cX12_trial 63 = .ok (.iload_n 1, 1) := by decide +kernel
theorem dX12_trial_64 : decode cX12_trial 64 = .ok (.iconst 0, 1) := by decide +kernel
theorem dX12_trial_65 : decode cX12_trial 65 = .ok (.bastore, 1) := by decide +kernel
theorem dX12_trial_66 : decode cX12_trial 66 = .ok (.aload_n 0, 1) := by decide +kernel
theorem dX12_trial_67 : decode cX12_trial 67 = .ok (.getfield 143, 3) := by decide +kernel
theorem dX12_trial_70 : decode cX12_trial 70 = .ok (.iload_n 1, 1) := by decide +kernel
theorem dX12_trial_71 : decode cX12_trial 71 = .ok (.iconst 0, 1) := by decide +kernel
theorem dX12_trial_72 : decode cX12_trial 72 = .ok (.bastore, 1) := by decide +kernel
theorem dX12_trial_73 : decode cX12_trial 73 = .ok (.aload_n 0, 1) := by decide +kernel
theorem dX12_trial_74 : decode cX12_trial 74 = .ok (.getfield 146, 3) := by decide +kernel
theorem dX12_trial_77 : decode cX12_trial 77 = .ok (.iload_n 1, 1) := by decide +kernel
theorem dX12_trial_78 : decode cX12_trial 78 = .ok (.iconst 0, 1) := by decide +kernel
theorem dX12_trial_79 : decode cX12_trial 79 = .ok (.bastore, 1) := by decide +kernel
theorem dX12_trial_80 : decode cX12_trial 80 = .ok (.aload_n 0, 1) := by decide +kernel
theorem dX12_trial_81 : decode cX12_trial 81 = .ok (.getfield 137, 3) := by decide +kernel
theorem dX12_trial_84 : decode cX12_trial 84 = .ok (.iload_n 1, 1) := by decide +kernel
theorem dX12_trial_85 : decode cX12_trial 85 = .ok (.aload_n 0, 1) := by decide +kernel
theorem dX12_trial_86 : decode cX12_trial 86 = .ok (.iconst 0, 1) := by decide +kernel
theorem dX12_trial_87 : decode cX12_trial 87 = .ok (.iconst 0, 1) := by decide +kernel
theorem dX12_trial_88 : decode cX12_trial 88 = .ok (.invokevirtual 421, 3) := by decide +kernel
theorem dX12_trial_91 : decode cX12_trial 91 = .ok (.iastore, 1) := by decide +kernel
theorem dX12_trial_92 : decode cX12_trial 92 = .ok (.aload_n 0, 1) := by decide +kernel
theorem dX12_trial_93 : decode cX12_trial 93 = .ok (.getfield 134, 3) := by decide +kernel
theorem dX12_trial_96 : decode cX12_trial 96 = .ok (.iload_n 1, 1) := by decide +kernel
theorem dX12_trial_97 : decode cX12_trial 97 = .ok (.aload_n 0, 1) := by decide +kernel
theorem dX12_trial_98 : decode cX12_trial 98 = .ok (.iconst 0, 1) := by decide +kernel
theorem dX12_trial_99 : decode cX12_trial 99 = .ok (.iconst 0, 1) := by decide +kernel
theorem dX12_trial_100 : decode cX12_trial 100 = .ok (.invokevirtual 421, 3) := by decide +kernel
theorem dX12_trial_103 : decode cX12_trial 103 = .ok (.iastore, 1) := by decide +kernel
theorem dX12_trial_104 : decode cX12_trial 104 = .ok (.aload_n 0, 1) := by decide +kernel
theorem dX12_trial_105 : decode cX12_trial 105 = .ok (.bipush 21, 2) := by decide +kernel
theorem dX12_trial_107 : decode cX12_trial 107 = .ok (.iload_n 1, 1) := by decide +kernel
theorem dX12_trial_108 : decode cX12_trial 108 = .ok (.iconst 0, 1) := by decide +kernel
theorem dX12_trial_109 : decode cX12_trial 109 = .ok (.invokevirtual 431, 3) := by decide +kernel
theorem dX12_trial_112 : decode cX12_trial 112 = .ok (.istore_n 2, 1) := by decide +kernel
theorem dX12_trial_113 : decode cX12_trial 113 = .ok (.aload_n 0, 1) := by decide +kernel
theorem dX12_trial_114 : decode cX12_trial 114 = .ok (.dup, 1) := by decide +kernel
theorem dX12_trial_115 : decode cX12_trial 115 = .ok (.getfield 412, 3) := by decide +kernel
theorem dX12_trial_118 : decode cX12_trial 118 = .ok (.iconst 1, 1) := by decide +kernel
theorem dX12_trial_119 : decode cX12_trial 119 = .ok (.iadd, 1) := by decide +kernel
theorem dX12_trial_120 : decode cX12_trial 120 = .ok (.putfield 412, 3) := by decide +kernel
theorem dX12_trial_123 : decode cX12_trial 123 = .ok (.aload_n 0, 1) := by decide +kernel
theorem dX12_trial_124 : decode cX12_trial 124 = .ok (.iload_n 1, 1) := by decide +kernel
theorem dX12_trial_125 : decode cX12_trial 125 = .ok (.iconst 0, 1) := by decide +kernel
theorem dX12_trial_126 : decode cX12_trial 126 = .ok (.invokevirtual 466, 3) := by decide +kernel
theorem dX12_trial_129 : decode cX12_trial 129 = .ok (.aload_n 0, 1) := by decide +kernel
theorem dX12_trial_130 : decode cX12_trial 130 = .ok (.bipush 22, 2) := by decide +kernel
theorem dX12_trial_132 : decode cX12_trial 132 = .ok (.iload_n 1, 1) := by decide +kernel
theorem dX12_trial_133 : decode cX12_trial 133 = .ok (.iconst 0, 1) := by decide +kernel
theorem dX12_trial_134 : decode cX12_trial 134 = .ok (.invokevirtual 431, 3) := by decide +kernel
theorem dX12_trial_137 : decode cX12_trial 137 = .ok (.istore_n 2, 1) := by decide +kernel
theorem dX12_trial_138 : decode cX12_trial 138 = .ok (.aload_n 0, 1) := by decide +kernel
theorem dX12_trial_139 : decode cX12_trial 139 = .ok (.getfield 425, 3) := by decide +kernel
theorem dX12_trial_142 : decode cX12_trial 142 = .ok (.istore_n 3, 1) := by decide +kernel
theorem dX12_trial_143 : decode cX12_trial 143 = .ok (.iconst (-1), 1) := by decide +kernel
theorem dX12_trial_144 : decode cX12_trial 144 = .ok (.istore 4, 2) := by decide +kernel
theorem dX12_trial_146 : decode cX12_trial 146 = .ok (.aload_n 0, 1) := by decide +kernel
theorem dX12_trial_147 : decode cX12_trial 147 = .ok (.bipush 11, 2) := by decide +kernel
theorem dX12_trial_149 : decode cX12_trial 149 = .ok (.invokevirtual 350, 3) := by decide +kernel
theorem dX12_trial_152 : decode cX12_trial 152 = .ok (.ifCond .eq 78, 3) := by decide +kernel
theorem dX12_trial_155 : decode cX12_trial 155 = .ok (.aload_n 0, 1) := by decide +kernel
theorem dX12_trial_156 : decode cX12_trial 156 = .ok (.getfield 112, 3) := by decide +kernel
theorem dX12_trial_159 : decode cX12_trial 159 = .ok (.iload_n 1, 1) := by decide +kernel
theorem dX12_trial_160 : decode cX12_trial 160 = .ok (.iconst 1, 1) := by decide +kernel
theorem dX12_trial_161 : decode cX12_trial 161 = .ok (.bastore, 1) := by decide +kernel
theorem dX12_trial_162 : decode cX12_trial 162 = .ok (.aload_n 0, 1) := by decide +kernel
theorem dX12_trial_163 : decode cX12_trial 163 = .ok (.getfield 122, 3) := by decide +kernel
theorem dX12_trial_166 : decode cX12_trial 166 = .ok (.iload_n 1, 1) := by decide +kernel
theorem dX12_trial_167 : decode cX12_trial 167 = .ok (.aload_n 0, 1) := by decide +kernel
theorem dX12_trial_168 : decode cX12_trial 168 = .ok (.invokevirtual 470, 3) := by decide +kernel
theorem dX12_trial_171 : decode cX12_trial 171 = .ok (.iastore, 1) := by decide +kernel
theorem dX12_trial_172 : decode cX12_trial 172 = .ok (.aload_n 0, 1) := by decide +kernel
theorem dX12_trial_173 : decode cX12_trial 173 = .ok (.getfield 119, 3) := by decide +kernel
theorem dX12_trial_176 : decode cX12_trial 176 = .ok (.iload_n 1, 1) := by decide +kernel
theorem dX12_trial_177 : decode cX12_trial 177 = .ok (.aload_n 0, 1) := by decide +kernel
theorem dX12_trial_178 : decode cX12_trial 178 = .ok (.getfield 362, 3) := by decide +kernel
theorem dX12_trial_181 : decode cX12_trial 181 = .ok (.iastore, 1) := by decide +kernel
theorem dX12_trial_182 : decode cX12_trial 182 = .ok (.aload_n 0, 1) := by decide +kernel
theorem dX12_trial_183 : decode cX12_trial 183 = .ok (.getfield 131, 3) := by decide +kernel
theorem dX12_trial_186 : decode cX12_trial 186 = .ok (.iload_n 1, 1) := by decide +kernel
theorem dX12_trial_187 : decode cX12_trial 187 = .ok (.aload_n 0, 1) := by decide +kernel
theorem dX12_trial_188 : decode cX12_trial 188 = .ok (.iconst 2, 1) := by decide +kernel
theorem dX12_trial_189 : decode cX12_trial 189 = .ok (.aload_n 0, 1) := by decide +kernel
theorem dX12_trial_190 : decode cX12_trial 190 = .ok (.getfield 122, 3) := by decide +kernel
theorem dX12_trial_193 : decode cX12_trial 193 = .ok (.iload_n 1, 1) := by decide +kernel
theorem dX12_trial_194 : decode cX12_trial 194 = .ok (.iaload, 1) := by decide +kernel
theorem dX12_trial_195 : decode cX12_trial 195 = .ok (.invokevirtual 421, 3) := by decide +kernel
theorem dX12_trial_198 : decode cX12_trial 198 = .ok (.iastore, 1) := by decide +kernel
theorem dX12_trial_199 : decode cX12_trial 199 = .ok (.aload_n 0, 1) := by decide +kernel
theorem dX12_trial_200 : decode cX12_trial 200 = .ok (.aload_n 0, 1) := by decide +kernel
theorem dX12_trial_201 : decode cX12_trial 201 = .ok (.getfield 131, 3) := by decide +kernel
theorem dX12_trial_204 : decode cX12_trial 204 = .ok (.iload_n 1, 1) := by decide +kernel
theorem dX12_trial_205 : decode cX12_trial 205 = .ok (.iaload, 1) := by decide +kernel
theorem dX12_trial_206 : decode cX12_trial 206 = .ok (.putfield 425, 3) := by decide +kernel
theorem dX12_trial_209 : decode cX12_trial 209 = .ok (.aload_n 0, 1) := by decide +kernel
theorem dX12_trial_210 : decode cX12_trial 210 = .ok (.iload_n 1, 1) := by decide +kernel
theorem dX12_trial_211 : decode cX12_trial 211 = .ok (.iconst 1, 1) := by decide +kernel
theorem dX12_trial_212 : decode cX12_trial 212 = .ok (.invokevirtual 466, 3) := by decide +kernel
theorem dX12_trial_215 : decode cX12_trial 215 = .ok (.aload_n 0, 1) := by decide +kernel
theorem dX12_trial_216 : decode cX12_trial 216 = .ok (.bipush 22, 2) := by decide +kernel
theorem dX12_trial_218 : decode cX12_trial 218 = .ok (.iload_n 1, 1) := by decide +kernel
theorem dX12_trial_219 : decode cX12_trial 219 = .ok (.iconst 0, 1) := by decide +kernel
theorem dX12_trial_220 : decode cX12_trial 220 = .ok (.invokevirtual 431, 3) := by decide +kernel
theorem dX12_trial_223 : decode cX12_trial 223 = .ok (.istore_n 2, 1) := by decide +kernel
theorem dX12_trial_224 : decode cX12_trial 224 = .ok (.aload_n 0, 1) := by decide +kernel
theorem dX12_trial_225 : decode cX12_trial 225 = .ok (.getfield 425, 3) := by decide +kernel
theorem dX12_trial_228 : decode cX12_trial 228 = .ok (.istore 4, 2) := by decide +kernel
theorem dX12_trial_230 : decode cX12_trial 230 = .ok (.aload_n 0, 1) := by decide +kernel
theorem dX12_trial_231 : decode cX12_trial 231 = .ok (.bipush 12, 2) := by decide +kernel
theorem dX12_trial_233 : decode cX12_trial 233 = .ok (.invokevirtual 350, 3) := by decide +kernel
theorem dX12_trial_236 : decode cX12_trial 236 = .ok (.ifCond .eq 144, 3) := by decide +kernel
theorem dX12_trial_239 : decode cX12_trial 239 = .ok (.aload_n 0, 1) := by decide +kernel
theorem dX12_trial_240 : decode cX12_trial 240 = .ok (.getfield 116, 3) := by decide +kernel
theorem dX12_trial_243 : decode cX12_trial 243 = .ok (.iload_n 1, 1) := by decide +kernel
theorem dX12_trial_244 : decode cX12_trial 244 = .ok (.iconst 1, 1) := by decide +kernel
theorem dX12_trial_245 : decode cX12_trial 245 = .ok (.bastore, 1) := by decide +kernel
theorem dX12_trial_246 : decode cX12_trial 246 = .ok (.aload_n 0, 1) := by decide +kernel
theorem dX12_trial_247 : decode cX12_trial 247 = .ok (.iload_n 3, 1) := by decide +kernel
theorem dX12_trial_248 : decode cX12_trial 248 = .ok (.putfield 425, 3) := by decide +kernel
theorem dX12_trial_251 : decode cX12_trial 251 = .ok (.aload_n 0, 1) := by decide +kernel
theorem dX12_trial_252 : decode cX12_trial 252 = .ok (.aload_n 0, 1) := by decide +kernel
theorem dX12_trial_253 : decode cX12_trial 253 = .ok (.getfield 134, 3) := by decide +kernel
theorem dX12_trial_256 : decode cX12_trial 256 = .ok (.iload_n 1, 1) := by decide +kernel
theorem dX12_trial_257 : decode cX12_trial 257 = .ok (.iaload, 1) := by decide +kernel
theorem dX12_trial_258 : decode cX12_trial 258 = .ok (.invokevirtual 435, 3) := by decide +kernel
theorem dX12_trial_261 : decode cX12_trial 261 = .ok (.aload_n 0, 1) := by decide +kernel
theorem dX12_trial_262 : decode cX12_trial 262 = .ok (.iload 4, 2) := by decide +kernel
theorem dX12_trial_264 : decode cX12_trial 264 = .ok (.putfield 425, 3) := by decide +kernel
theorem dX12_trial_267 : decode cX12_trial 267 = .ok (.aload_n 0, 1) := by decide +kernel
theorem dX12_trial_268 : decode cX12_trial 268 = .ok (.aload_n 0, 1) := by decide +kernel
theorem dX12_trial_269 : decode cX12_trial 269 = .ok (.getfield 134, 3) := by decide +kernel
theorem dX12_trial_272 : decode cX12_trial 272 = .ok (.iload_n 1, 1) := by decide +kernel
theorem dX12_trial_273 : decode cX12_trial 273 = .ok (.iaload, 1) := by decide +kernel
theorem dX12_trial_274 : decode cX12_trial 274 = .ok (.invokevirtual 435, 3) := by decide +kernel
theorem dX12_trial_277 : decode cX12_trial 277 = .ok (.aload_n 0, 1) := by decide +kernel
theorem dX12_trial_278 : decode cX12_trial 278 = .ok (.aload_n 0, 1) := by decide +kernel
theorem dX12_trial_279 : decode cX12_trial 279 = .ok (.getfield 134, 3) := by decide +kernel
theorem dX12_trial_282 : decode cX12_trial 282 = .ok (.iload_n 1, 1) := by decide +kernel
theorem dX12_trial_283 : decode cX12_trial 283 = .ok (.iaload, 1) := by decide +kernel
theorem dX12_trial_284 : decode cX12_trial 284 = .ok (.putfield 425, 3) := by decide +kernel
theorem dX12_trial_287 : decode cX12_trial 287 = .ok (.aload_n 0, 1) := by decide +kernel
theorem dX12_trial_288 : decode cX12_trial 288 = .ok (.getfield 125, 3) := by decide +kernel
theorem dX12_trial_291 : decode cX12_trial 291 = .ok (.iload_n 1, 1) := by decide +kernel
theorem dX12_trial_292 : decode cX12_trial 292 = .ok (.aload_n 0, 1) := by decide +kernel
theorem dX12_trial_293 : decode cX12_trial 293 = .ok (.getfield 362, 3) := by decide +kernel
theorem dX12_trial_296 : decode cX12_trial 296 = .ok (.iastore, 1) := by decide +kernel
theorem dX12_trial_297 : decode cX12_trial 297 = .ok (.aload_n 0, 1) := by decide +kernel
theorem dX12_trial_298 : decode cX12_trial 298 = .ok (.getfield 415, 3) := by decide +kernel
theorem dX12_trial_301 : decode cX12_trial 301 = .ok (.istore 5, 2) := by decide +kernel
theorem dX12_trial_303 : decode cX12_trial 303 = .ok (.aload_n 0, 1) := by decide +kernel
theorem dX12_trial_304 : decode cX12_trial 304 = .ok (.getfield 176, 3) := by decide +kernel
theorem dX12_trial_307 : decode cX12_trial 307 = .ok (.istore 6, 2) := by decide +kernel
theorem dX12_trial_309 : decode cX12_trial 309 = .ok (.aload_n 0, 1) := by decide +kernel
theorem dX12_trial_310 : decode cX12_trial 310 = .ok (.iconst 1, 1) := by decide +kernel
theorem dX12_trial_311 : decode cX12_trial 311 = .ok (.putfield 415, 3) := by decide +kernel
theorem dX12_trial_314 : decode cX12_trial 314 = .ok (.aload_n 0, 1) := by decide +kernel
theorem dX12_trial_315 : decode cX12_trial 315 = .ok (.iconst 0, 1) := by decide +kernel
theorem dX12_trial_316 : decode cX12_trial 316 = .ok (.putfield 176, 3) := by decide +kernel
theorem dX12_trial_319 : decode cX12_trial 319 = .ok (.aload_n 0, 1) := by decide +kernel
theorem dX12_trial_320 : decode cX12_trial 320 = .ok (.iload_n 1, 1) := by decide +kernel
theorem dX12_trial_321 : decode cX12_trial 321 = .ok (.iconst 2, 1) := by decide +kernel
theorem dX12_trial_322 : decode cX12_trial 322 = .ok (.invokevirtual 466, 3) := by decide +kernel
theorem dX12_trial_325 : decode cX12_trial 325 = .ok (.aload_n 0, 1) := by decide +kernel
theorem dX12_trial_326 : decode cX12_trial 326 = .ok (.iload 5, 2) := by decide +kernel
theorem dX12_trial_328 : decode cX12_trial 328 = .ok (.putfield 415, 3) := by decide +kernel
theorem dX12_trial_331 : decode cX12_trial 331 = .ok (.aload_n 0, 1) := by decide +kernel
theorem dX12_trial_332 : decode cX12_trial 332 = .ok (.iload 6, 2) := by decide +kernel
theorem dX12_trial_334 : decode cX12_trial 334 = .ok (.putfield 176, 3) := by decide +kernel
theorem dX12_trial_337 : decode cX12_trial 337 = .ok (.aload_n 0, 1) := by decide +kernel
theorem dX12_trial_338 : decode cX12_trial 338 = .ok (.bipush 23, 2) := by decide +kernel
theorem dX12_trial_340 : decode cX12_trial 340 = .ok (.iload_n 1, 1) := by decide +kernel
theorem dX12_trial_341 : decode cX12_trial 341 = .ok (.iconst 0, 1) := by decide +kernel
theorem dX12_trial_342 : decode cX12_trial 342 = .ok (.invokevirtual 431, 3) := by decide +kernel
theorem dX12_trial_345 : decode cX12_trial 345 = .ok (.istore_n 2, 1) := by decide +kernel
theorem dX12_trial_346 : decode cX12_trial 346 = .ok (.aload_n 0, 1) := by decide +kernel
theorem dX12_trial_347 : decode cX12_trial 347 = .ok (.bipush 7, 2) := by decide +kernel
theorem dX12_trial_349 : decode cX12_trial 349 = .ok (.iload_n 1, 1) := by decide +kernel
theorem dX12_trial_350 : decode cX12_trial 350 = .ok (.invokevirtual 421, 3) := by decide +kernel
theorem dX12_trial_353 : decode cX12_trial 353 = .ok (.istore 7, 2) := by decide +kernel
theorem dX12_trial_355 : decode cX12_trial 355 = .ok (.aload_n 0, 1) := by decide +kernel
theorem dX12_trial_356 : decode cX12_trial 356 = .ok (.iload 7, 2) := by decide +kernel
theorem dX12_trial_358 : decode cX12_trial 358 = .ok (.invokevirtual 435, 3) := by decide +kernel
theorem dX12_trial_361 : decode cX12_trial 361 = .ok (.aload_n 0, 1) := by decide +kernel
theorem dX12_trial_362 : decode cX12_trial 362 = .ok (.iload 7, 2) := by decide +kernel
theorem dX12_trial_364 : decode cX12_trial 364 = .ok (.putfield 425, 3) := by decide +kernel
theorem dX12_trial_367 : decode cX12_trial 367 = .ok (.aload_n 0, 1) := by decide +kernel
theorem dX12_trial_368 : decode cX12_trial 368 = .ok (.aload_n 0, 1) := by decide +kernel
theorem dX12_trial_369 : decode cX12_trial 369 = .ok (.getfield 137, 3) := by decide +kernel
theorem dX12_trial_372 : decode cX12_trial 372 = .ok (.iload_n 1, 1) := by decide +kernel
theorem dX12_trial_373 : decode cX12_trial 373 = .ok (.iaload, 1) := by decide +kernel
theorem dX12_trial_374 : decode cX12_trial 374 = .ok (.invokevirtual 435, 3) := by decide +kernel
theorem dX12_trial_377 : decode cX12_trial 377 = .ok (.goto 48, 3) := by decide +kernel
theorem dX12_trial_380 : decode cX12_trial 380 = .ok (.aload_n 0, 1) := by decide +kernel
theorem dX12_trial_381 : decode cX12_trial 381 = .ok (.getfield 112, 3) := by decide +kernel
theorem dX12_trial_384 : decode cX12_trial 384 = .ok (.iload_n 1, 1) := by decide +kernel
theorem dX12_trial_385 : decode cX12_trial 385 = .ok (.baload, 1) := by decide +kernel
theorem dX12_trial_386 : decode cX12_trial 386 = .ok (.ifCond .ne 8, 3) := by decide +kernel
theorem dX12_trial_389 : decode cX12_trial 389 = .ok (.aload_n 0, 1) := by decide +kernel
theorem dX12_trial_390 : decode cX12_trial 390 = .ok (.iconst 1, 1) := by decide +kernel
theorem dX12_trial_391 : decode cX12_trial 391 = .ok (.invokevirtual 343, 3) := by decide +kernel
theorem dX12_trial_394 : decode cX12_trial 394 = .ok (.aload_n 0, 1) := by decide +kernel
theorem dX12_trial_395 : decode cX12_trial 395 = .ok (.iload_n 3, 1) := by decide +kernel
theorem dX12_trial_396 : decode cX12_trial 396 = .ok (.putfield 425, 3) := by decide +kernel
theorem dX12_trial_399 : decode cX12_trial 399 = .ok (.aload_n 0, 1) := by decide +kernel
theorem dX12_trial_400 : decode cX12_trial 400 = .ok (.aload_n 0, 1) := by decide +kernel
theorem dX12_trial_401 : decode cX12_trial 401 = .ok (.getfield 137, 3) := by decide +kernel
theorem dX12_trial_404 : decode cX12_trial 404 = .ok (.iload_n 1, 1) := by decide +kernel
theorem dX12_trial_405 : decode cX12_trial 405 = .ok (.iaload, 1) := by decide +kernel
theorem dX12_trial_406 : decode cX12_trial 406 = .ok (.invokevirtual 435, 3) := by decide +kernel
theorem dX12_trial_409 : decode cX12_trial 409 = .ok (.aload_n 0, 1) := by decide +kernel
theorem dX12_trial_410 : decode cX12_trial 410 = .ok (.iload 4, 2) := by decide +kernel
theorem dX12_trial_412 : decode cX12_trial 412 = .ok (.putfield 425, 3) := by decide +kernel
theorem dX12_trial_415 : decode cX12_trial 415 = .ok (.aload_n 0, 1) := by decide +kernel
theorem dX12_trial_416 : decode cX12_trial 416 = .ok (.aload_n 0, 1) := by decide +kernel
theorem dX12_trial_417 : decode cX12_trial 417 = .ok (.getfield 137, 3) := by decide +kernel
theorem dX12_trial_420 : decode cX12_trial 420 = .ok (.iload_n 1, 1) := by decide +kernel
theorem dX12_trial_421 : decode cX12_trial 421 = .ok (.iaload, 1) := by decide +kernel
theorem dX12_trial_422 : decode cX12_trial 422 = .ok (.invokevirtual 435, 3) := by decide +kernel
theorem dX12_trial_425 : decode cX12_trial 425 = .ok (.aload_n 0, 1) := by decide +kernel
theorem dX12_trial_426 : decode cX12_trial 426 = .ok (.dup, 1) := by decide +kernel
theorem dX12_trial_427 : decode cX12_trial 427 = .ok (.getfield 412, 3) := by decide +kernel
theorem dX12_trial_430 : decode cX12_trial 430 = .ok (.iconst 1, 1) := by decide +kernel
theorem dX12_trial_431 : decode cX12_trial 431 = .ok (.isub, 1) := by decide +kernel
theorem dX12_trial_432 : decode cX12_trial 432 = .ok (.putfield 412, 3) := by decide +kernel
theorem dX12_trial_435 : decode cX12_trial 435 = .ok (.aload_n 0, 1) := by decide +kernel
theorem dX12_trial_436 : decode cX12_trial 436 = .ok (.getfield 128, 3) := by decide +kernel
theorem dX12_trial_439 : decode cX12_trial 439 = .ok (.iload_n 1, 1) := by decide +kernel
theorem dX12_trial_440 : decode cX12_trial 440 = .ok (.aload_n 0, 1) := by decide +kernel
theorem dX12_trial_441 : decode cX12_trial 441 = .ok (.getfield 362, 3) := by decide +kernel
theorem dX12_trial_444 : decode cX12_trial 444 = .ok (.iastore, 1) := by decide +kernel
theorem dX12_trial_445 : decode cX12_trial 445 = .ok (.aload_n 0, 1) := by decide +kernel
theorem dX12_trial_446 : decode cX12_trial 446 = .ok (.aload_n 0, 1) := by decide +kernel
theorem dX12_trial_447 : decode cX12_trial 447 = .ok (.getfield 137, 3) := by decide +kernel
theorem dX12_trial_450 : decode cX12_trial 450 = .ok (.iload_n 1, 1) := by decide +kernel
theorem dX12_trial_451 : decode cX12_trial 451 = .ok (.iaload, 1) := by decide +kernel
theorem dX12_trial_452 : decode cX12_trial 452 = .ok (.putfield 425, 3) := by decide +kernel
theorem dX12_trial_455 : decode cX12_trial 455 = .ok (.return_, 1) := by decide +kernel
def wp_inBlock (r_block : mS → (mS → Prop) → Prop) (a0 : Int32) (a1 : Int32) (S : mS) (K : mS → Prop) : Prop := ∀ S1 : mS, S1 = sZ S 13 a0 → ∀ S2 : mS, S2 = sZ S1 14 a1 → r_block S2 (fun (S3 : mS) => ∀ S4 : mS, S4 = sZ S3 13 (S.1 13) → ∀ S5 : mS, S5 = sZ S4 14 (S.1 14) → K S5)
theorem cw_X12_block {R : Room} {s : State} {args : Array Value} {fr lo : Nat} (hts : ∀ w ∈ tb, w.before args s = true) (h1 : fr + 1 ≤ R.frames) (h2 : 8 + (1 + 11) + lo ≤ R.locals) : CallW R s args RX12 RX12 428 yX12_block cX12_block 1 none (.code yX12_block cX12_block 1 none :: tb) (mRm fr lo) 0 0 0 := cwV 0 hts (gd_V wd_1842 wd_1844 sl_X12_block wd_15 wd_1845) rfl rfl rfl (by decide +kernel) ⟨h1, h2⟩
set_option maxHeartbeats 4000000 in
set_option maxRecDepth 100000 in
theorem co_inBlock (l : Launch) (fr lo F Lo : Nat) (r_block : mS → (mS → Prop) → Prop) (hr_block : ∀ (S : mS) (K : mS → Prop), r_block S K → mMv l yX12_block cX12_block 1 none fr lo (fun E => []) S K) (hF : fr + 1 ≤ F) (hL : lo + 20 ≤ Lo) (hF0 : 0 ≤ F) (hL0 : 0 ≤ Lo) (S : mS) (a0 : Int32) (a1 : Int32) (K : mS → Prop) (h : wp_inBlock r_block a0 a1 S K) : mMv l yX12_inBlock cX12_inBlock 5 none F Lo (fun E => [.int a0, .int a1]) S K := by
  refine mv_ofv (by decide) rfl (fun _ => Nat.le_of_ble_eq_true rfl) ?_
  intro E p e R s m args below meth c A ls Q hRf hRl hX hC hl hret
  have hx := hX.1.1
  have hb := hX.1.2.1
  have hown := hX.1.2.2.2.1
  have hts := hX.1.2.2.2.2
  have hl : lv_has ls 5 [(0, .ref E.2.1), (1, .int a0), (2, .int a1)] := hl
  unfold wp_inBlock at h
  refine lv_aload_n hx hb dX12_inBlock_0 rfl (lv_at hl 0 rfl) ?_
  refine mv_get (v := .int (S.1 13)) hX hC 63 (Nat.le_of_ble_eq_true rfl) wd_1463 rfl dX12_inBlock_1 ?_
  refine lv_istore_n (lv' := [(3, .int (S.1 13)), (0, .ref E.2.1), (1, .int a0), (2, .int a1)]) hx hb dX12_inBlock_4 rfl hl (by decide) rfl (fun ls hl => ?_)
  refine lv_aload_n hx hb dX12_inBlock_5 rfl (lv_at hl 1 rfl) ?_
  refine mv_get (v := .int (S.1 14)) hX hC 64 (Nat.le_of_ble_eq_true rfl) wd_1464 rfl dX12_inBlock_6 ?_
  refine lv_istore (lv' := [(4, .int (S.1 14)), (3, .int (S.1 13)), (0, .ref E.2.1), (1, .int a0), (2, .int a1)]) hx hb dX12_inBlock_9 hl (by decide) rfl (fun ls hl => ?_)
  refine lv_aload_n hx hb dX12_inBlock_11 rfl (lv_at hl 2 rfl) ?_
  refine lv_iload_n hx hb dX12_inBlock_12 rfl (lv_at hl 3 rfl) ?_
  refine mq_put (v := a0) hX hC 63 13 (Nat.le_of_ble_eq_true rfl) wd_1463 rfl rfl rfl mz_13 dX12_inBlock_13 h (fun S1 H locs hC h => ?_)
  refine lv_aload_n hx hb dX12_inBlock_16 rfl (lv_at hl 2 rfl) ?_
  refine lv_iload_n hx hb dX12_inBlock_17 rfl (lv_at hl 4 rfl) ?_
  refine mq_put (v := a1) hX hC 64 14 (Nat.le_of_ble_eq_true rfl) wd_1464 rfl rfl rfl mz_14 dX12_inBlock_18 h (fun S2 H locs hC h => ?_)
  refine lv_aload_n hx hb dX12_inBlock_21 rfl (lv_at hl 2 rfl) ?_
  refine mv_callv [] (rest := []) hX hC (hr_block S2 _ h E _) (cw_X12_block hts (by omega) (by omega)) rfl hl.1 (Nat.le_of_ble_eq_true rfl) ⟨Nat.zero_le _, Nat.zero_le _⟩ dX12_inBlock_22 (fun S3 H locs hC h => ?_)
  refine lv_aload_n hx hb dX12_inBlock_25 rfl (lv_at hl 2 rfl) ?_
  refine lv_iload_n hx hb dX12_inBlock_26 rfl (lv_at hl 1 rfl) ?_
  refine mq_put (v := S.1 13) hX hC 63 13 (Nat.le_of_ble_eq_true rfl) wd_1463 rfl rfl rfl mz_13 dX12_inBlock_27 h (fun S4 H locs hC h => ?_)
  refine lv_aload_n hx hb dX12_inBlock_30 rfl (lv_at hl 2 rfl) ?_
  refine lv_iload hx hb dX12_inBlock_31 (lv_at hl 0 rfl) ?_
  refine mq_put (v := S.1 14) hX hC 64 14 (Nat.le_of_ble_eq_true rfl) wd_1464 rfl rfl rfl mz_14 dX12_inBlock_33 h (fun S5 H locs hC h => ?_)
  exact hret _ _ _ _ _ hC h dX12_inBlock_36
def wp_trial_425 (r_block : mS → (mS → Prop) → Prop) (K : mS → Prop) (x1 : Int32) (S : mS) : Prop := ∀ z59 : Int32, z59 = (S.1 16) - 1 → ∀ S60 : mS, S60 = sZ S 16 z59 → inR x1 1000 ∧ ∀ S61 : mS, S61 = sF S60 33 (ix x1) (S60.1 7) → inR x1 1000 ∧ ∀ z62 : Int32, z62 = S61.2.1 36 (ix x1) → ∀ S63 : mS, S63 = sZ S61 19 z62 → K S63
def wp_trial_394 (r_block : mS → (mS → Prop) → Prop) (K : mS → Prop) (x1 : Int32) (x3 : Int32) (x4 : Int32) (S : mS) : Prop := ∀ S64 : mS, S64 = sZ S 19 x3 → inR x1 1000 ∧ ∀ z65 : Int32, z65 = S64.2.1 36 (ix x1) → wp_lead z65 S64 (fun (S66 : mS) => ∀ S67 : mS, S67 = sZ S66 19 x4 → inR x1 1000 ∧ ∀ z68 : Int32, z68 = S67.2.1 36 (ix x1) → wp_lead z68 S67 (fun (S69 : mS) => wp_trial_425 r_block K x1 S69))
def wp_trial_230 (r_block : mS → (mS → Prop) → Prop) (K : mS → Prop) (x1 : Int32) (x3 : Int32) (x4 : Int32) (S : mS) : Prop := wp_hasWord 12 S (fun (S33 : mS) (r33 : Int32) => ((r33 = 0 → inR x1 1000 ∧ ∀ z35 : Int32, z35 = S33.2.1 28 (ix x1) → ((¬ z35 = 0 → wp_trial_394 r_block K x1 x3 x4 S33) ∧ (z35 = 0 → wp_wrong 1 S33 (fun (S37 : mS) => wp_trial_394 r_block K x1 x3 x4 S37)))) ∧ (¬ r33 = 0 → inR x1 1000 ∧ ∀ S38 : mS, S38 = sF S33 29 (ix x1) 1 → ∀ S39 : mS, S39 = sZ S38 19 x3 → inR x1 1000 ∧ ∀ z40 : Int32, z40 = S39.2.1 35 (ix x1) → wp_lead z40 S39 (fun (S41 : mS) => ∀ S42 : mS, S42 = sZ S41 19 x4 → inR x1 1000 ∧ ∀ z43 : Int32, z43 = S42.2.1 35 (ix x1) → wp_lead z43 S42 (fun (S44 : mS) => inR x1 1000 ∧ ∀ z45 : Int32, z45 = S44.2.1 35 (ix x1) → ∀ S46 : mS, S46 = sZ S44 19 z45 → inR x1 1000 ∧ ∀ S47 : mS, S47 = sF S46 32 (ix x1) (S46.1 7) → ∀ S48 : mS, S48 = sZ S47 17 1 → ∀ S49 : mS, S49 = sZ S48 20 0 → wp_inBlock r_block x1 2 S49 (fun (S50 : mS) => (S47.1 17 = 0 ∨ S47.1 17 = 1) ∧ ∀ S51 : mS, S51 = sZ S50 17 (S47.1 17) → (S47.1 20 = 0 ∨ S47.1 20 = 1) ∧ ∀ S52 : mS, S52 = sZ S51 20 (S47.1 20) → wp_emit 23 x1 0 S52 (fun (S53 : mS) (r53 : Int32) => wp_act 7 x1 S53 (fun (S54 : mS) (r54 : Int32) => wp_lead r54 S54 (fun (S55 : mS) => ∀ S56 : mS, S56 = sZ S55 19 r54 → inR x1 1000 ∧ ∀ z57 : Int32, z57 = S56.2.1 36 (ix x1) → wp_lead z57 S56 (fun (S58 : mS) => wp_trial_425 r_block K x1 S58))))))))))
def wp_trial (r_block : mS → (mS → Prop) → Prop) (S : mS) (K : mS → Prop) : Prop := ∀ z1 : Int32, z1 = (S.1 9) + 1 → ∀ S2 : mS, S2 = sZ S 9 z1 → inR (S.1 9) 1000 ∧ ∀ S3 : mS, S3 = sF S2 25 (ix (S.1 9)) (S2.1 13) → inR (S.1 9) 1000 ∧ ∀ S4 : mS, S4 = sF S3 26 (ix (S.1 9)) (S3.1 14) → inR (S.1 9) 1000 ∧ ∀ S5 : mS, S5 = sF S4 27 (ix (S.1 9)) (S4.1 15) → inR (S.1 9) 1000 ∧ ∀ S6 : mS, S6 = sF S5 28 (ix (S.1 9)) 0 → inR (S.1 9) 1000 ∧ ∀ S7 : mS, S7 = sF S6 29 (ix (S.1 9)) 0 → inR (S.1 9) 1000 ∧ ∀ S8 : mS, S8 = sF S7 37 (ix (S.1 9)) 0 → inR (S.1 9) 1000 ∧ ∀ S9 : mS, S9 = sF S8 38 (ix (S.1 9)) 0 → inR (S.1 9) 1000 ∧ ∀ S10 : mS, S10 = sF S9 39 (ix (S.1 9)) 0 → wp_act 0 0 S10 (fun (S11 : mS) (r11 : Int32) => inR (S.1 9) 1000 ∧ ∀ S12 : mS, S12 = sF S11 36 (ix (S.1 9)) r11 → wp_act 0 0 S12 (fun (S13 : mS) (r13 : Int32) => inR (S.1 9) 1000 ∧ ∀ S14 : mS, S14 = sF S13 35 (ix (S.1 9)) r13 → wp_emit 21 (S.1 9) 0 S14 (fun (S15 : mS) (r15 : Int32) => ∀ z16 : Int32, z16 = (S15.1 16) + 1 → ∀ S17 : mS, S17 = sZ S15 16 z16 → wp_inBlock r_block (S.1 9) 0 S17 (fun (S18 : mS) => wp_emit 22 (S.1 9) 0 S18 (fun (S19 : mS) (r19 : Int32) => wp_hasWord 11 S19 (fun (S20 : mS) (r20 : Int32) => ((r20 = 0 → wp_trial_230 r_block K (S.1 9) (S19.1 19) (-1) S20) ∧ (¬ r20 = 0 → inR (S.1 9) 1000 ∧ ∀ S22 : mS, S22 = sF S20 28 (ix (S.1 9)) 1 → wp_takeCell S22 (fun (S23 : mS) (r23 : Int32) => inR (S.1 9) 1000 ∧ ∀ S24 : mS, S24 = sF S23 31 (ix (S.1 9)) r23 → inR (S.1 9) 1000 ∧ ∀ S25 : mS, S25 = sF S24 30 (ix (S.1 9)) (S24.1 7) → inR (S.1 9) 1000 ∧ ∀ z26 : Int32, z26 = S25.2.1 31 (ix (S.1 9)) → wp_act 2 z26 S25 (fun (S27 : mS) (r27 : Int32) => inR (S.1 9) 1000 ∧ ∀ S28 : mS, S28 = sF S27 34 (ix (S.1 9)) r27 → inR (S.1 9) 1000 ∧ ∀ z29 : Int32, z29 = S28.2.1 34 (ix (S.1 9)) → ∀ S30 : mS, S30 = sZ S28 19 z29 → wp_inBlock r_block (S.1 9) 1 S30 (fun (S31 : mS) => wp_emit 22 (S.1 9) 0 S31 (fun (S32 : mS) (r32 : Int32) => wp_trial_230 r_block K (S.1 9) (S19.1 19) (S32.1 19) S32))))))))))))
theorem cw_X12_inBlock {R : Room} {s : State} {args : Array Value} {fr lo : Nat} (hts : ∀ w ∈ tb, w.before args s = true) (h1 : fr + 1 ≤ R.frames) (h2 : 8 + (5 + 11) + lo ≤ R.locals) : CallW R s args RX12 RX12 466 yX12_inBlock cX12_inBlock 5 none (.code yX12_inBlock cX12_inBlock 5 none :: tb) (mRm fr lo) 0 0 2 := cwV 2 hts (gd_V wd_1910 wd_1912 sl_X12_inBlock wd_15 wd_1913) rfl rfl rfl (by decide +kernel) ⟨h1, h2⟩
set_option maxHeartbeats 4000000 in
set_option maxRecDepth 100000 in
theorem co_trial (l : Launch) (fr lo F Lo : Nat) (r_block : mS → (mS → Prop) → Prop) (hr_block : ∀ (S : mS) (K : mS → Prop), r_block S K → mMv l yX12_block cX12_block 1 none fr lo (fun E => []) S K) (hF : fr + 2 ≤ F) (hL : lo + 44 ≤ Lo) (hF0 : 3 ≤ F) (hL0 : 69 ≤ Lo) (S : mS) (K : mS → Prop) (h : wp_trial r_block S K) : mMv l yX12_trial cX12_trial 8 none F Lo (fun E => []) S K := by
  refine mv_ofv (by decide) rfl (fun _ => Nat.le_of_ble_eq_true rfl) ?_
  intro E p e R s m args below meth c A ls Q hRf hRl hX hC hl hret
  have hx := hX.1.1
  have hb := hX.1.2.1
  have hown := hX.1.2.2.2.1
  have hts := hX.1.2.2.2.2
  have cut425 : ∀ (x1 : Int32) (S : mS) (H : Heap) (locs : List Loc) (ls : Array Slot), wp_trial_425 r_block K x1 S → mC E A s.heap S H locs → lv_has ls 8 [(0, .ref E.2.1), (1, .int x1)] → W p l e R s m args below meth c H locs 0 0 Q (F0 m 425 ls []) := by
    intro x1 S H locs ls h hC hl
    unfold wp_trial_425 at h
    refine lv_aload_n hx hb dX12_trial_425 rfl (lv_at hl 0 rfl) ?_
    refine lv_dup hx hb dX12_trial_426 rfl ?_
    refine mv_get (v := .int (S.1 16)) hX hC 66 (Nat.le_of_ble_eq_true rfl) wd_1466 rfl dX12_trial_427 ?_
    refine lv_iconst (v := 1) hx hb dX12_trial_430 (by decide) ?_
    refine lq_isub hx hb dX12_trial_431 h (fun z59 h => ?_)
    refine mq_put (v := z59) hX hC 66 16 (Nat.le_of_ble_eq_true rfl) wd_1466 rfl rfl rfl mz_16 dX12_trial_432 h (fun S60 H locs hC h => ?_)
    refine lv_aload_n hx hb dX12_trial_435 rfl (lv_at hl 0 rfl) ?_
    refine mv_get (v := .ref (E.2.2.1 33)) hX hC 44 (Nat.le_of_ble_eq_true rfl) wd_1444 rfl dX12_trial_436 ?_
    refine lv_iload_n hx hb dX12_trial_439 rfl (lv_at hl 1 rfl) ?_
    refine lv_aload_n hx hb dX12_trial_440 rfl (lv_at hl 0 rfl) ?_
    refine mv_get (v := .int (S60.1 7)) hX hC 23 (Nat.le_of_ble_eq_true rfl) wd_1423 rfl dX12_trial_441 ?_
    refine mq_ist (n := 1000) (v := S60.1 7) hX hC 33 rfl rfl mf_33 dX12_trial_444 h.1 h.2 (fun S61 H locs hC h => ?_)
    refine lv_aload_n hx hb dX12_trial_445 rfl (lv_at hl 0 rfl) ?_
    refine lv_aload_n hx hb dX12_trial_446 rfl (lv_at hl 0 rfl) ?_
    refine mv_get (v := .ref (E.2.2.1 36)) hX hC 47 (Nat.le_of_ble_eq_true rfl) wd_1447 rfl dX12_trial_447 ?_
    refine lv_iload_n hx hb dX12_trial_450 rfl (lv_at hl 1 rfl) ?_
    refine mq_ild (n := 1000) hX hC 36 rfl rfl dX12_trial_451 h (fun z62 h => ?_)
    refine mq_put (v := z62) hX hC 69 19 (Nat.le_of_ble_eq_true rfl) wd_1469 rfl rfl rfl mz_19 dX12_trial_452 h (fun S63 H locs hC h => ?_)
    exact hret _ _ _ _ _ hC h dX12_trial_455
  have cut394 : ∀ (x1 : Int32) (x3 : Int32) (x4 : Int32) (S : mS) (H : Heap) (locs : List Loc) (ls : Array Slot), wp_trial_394 r_block K x1 x3 x4 S → mC E A s.heap S H locs → lv_has ls 8 [(0, .ref E.2.1), (1, .int x1), (3, .int x3), (4, .int x4)] → W p l e R s m args below meth c H locs 0 0 Q (F0 m 394 ls []) := by
    intro x1 x3 x4 S H locs ls h hC hl
    unfold wp_trial_394 at h
    refine lv_aload_n hx hb dX12_trial_394 rfl (lv_at hl 0 rfl) ?_
    refine lv_iload_n hx hb dX12_trial_395 rfl (lv_at hl 2 rfl) ?_
    refine mq_put (v := x3) hX hC 69 19 (Nat.le_of_ble_eq_true rfl) wd_1469 rfl rfl rfl mz_19 dX12_trial_396 h (fun S64 H locs hC h => ?_)
    refine lv_aload_n hx hb dX12_trial_399 rfl (lv_at hl 0 rfl) ?_
    refine lv_aload_n hx hb dX12_trial_400 rfl (lv_at hl 0 rfl) ?_
    refine mv_get (v := .ref (E.2.2.1 36)) hX hC 47 (Nat.le_of_ble_eq_true rfl) wd_1447 rfl dX12_trial_401 ?_
    refine lv_iload_n hx hb dX12_trial_404 rfl (lv_at hl 1 rfl) ?_
    refine mq_ild (n := 1000) hX hC 36 rfl rfl dX12_trial_405 h (fun z65 h => ?_)
    refine mv_callv [.int z65] (rest := []) hX hC (ct_lead l S64 z65 _ h E _) (cw_X12_lead hts (by omega) (by omega)) rfl hl.1 (Nat.le_of_ble_eq_true rfl) ⟨Nat.zero_le _, Nat.zero_le _⟩ dX12_trial_406 (fun S66 H locs hC h => ?_)
    refine lv_aload_n hx hb dX12_trial_409 rfl (lv_at hl 0 rfl) ?_
    refine lv_iload hx hb dX12_trial_410 (lv_at hl 3 rfl) ?_
    refine mq_put (v := x4) hX hC 69 19 (Nat.le_of_ble_eq_true rfl) wd_1469 rfl rfl rfl mz_19 dX12_trial_412 h (fun S67 H locs hC h => ?_)
    refine lv_aload_n hx hb dX12_trial_415 rfl (lv_at hl 0 rfl) ?_
    refine lv_aload_n hx hb dX12_trial_416 rfl (lv_at hl 0 rfl) ?_
    refine mv_get (v := .ref (E.2.2.1 36)) hX hC 47 (Nat.le_of_ble_eq_true rfl) wd_1447 rfl dX12_trial_417 ?_
    refine lv_iload_n hx hb dX12_trial_420 rfl (lv_at hl 1 rfl) ?_
    refine mq_ild (n := 1000) hX hC 36 rfl rfl dX12_trial_421 h (fun z68 h => ?_)
    refine mv_callv [.int z68] (rest := []) hX hC (ct_lead l S67 z68 _ h E _) (cw_X12_lead hts (by omega) (by omega)) rfl hl.1 (Nat.le_of_ble_eq_true rfl) ⟨Nat.zero_le _, Nat.zero_le _⟩ dX12_trial_422 (fun S69 H locs hC h => ?_)
    exact cut425 x1 S69 _ _ _ h hC (lv_sub hl [0, 1] rfl)
  have cut230 : ∀ (x1 : Int32) (x3 : Int32) (x4 : Int32) (S : mS) (H : Heap) (locs : List Loc) (ls : Array Slot), wp_trial_230 r_block K x1 x3 x4 S → mC E A s.heap S H locs → lv_has ls 8 [(0, .ref E.2.1), (1, .int x1), (3, .int x3), (4, .int x4)] → W p l e R s m args below meth c H locs 0 0 Q (F0 m 230 ls []) := by
    intro x1 x3 x4 S H locs ls h hC hl
    unfold wp_trial_230 at h
    refine lv_aload_n hx hb dX12_trial_230 rfl (lv_at hl 0 rfl) ?_
    refine lv_bipush (v := 12) hx hb dX12_trial_231 (by decide) ?_
    refine mv_calli [.int 12] (rest := []) hX hC (ct_hasWord l S 12 _ h E _) (cw_X12_hasWord hts (by omega) (by omega)) rfl hl.1 (Nat.le_of_ble_eq_true rfl) ⟨Nat.zero_le _, Nat.zero_le _⟩ dX12_trial_233 (fun r33 S33 H locs hC h => ?_)
    refine lv_if_eq (tgt := 380) hx hb dX12_trial_236 (by decide) (fun c34 => ?_) (fun c34 => ?_)
    · have h := h.1 c34
      refine lv_aload_n hx hb dX12_trial_380 rfl (lv_at hl 0 rfl) ?_
      refine mv_get (v := .ref (E.2.2.1 28)) hX hC 39 (Nat.le_of_ble_eq_true rfl) wd_1439 rfl dX12_trial_381 ?_
      refine lv_iload_n hx hb dX12_trial_384 rfl (lv_at hl 1 rfl) ?_
      refine mq_zld (n := 1000) hX hC 28 rfl rfl dX12_trial_385 h (fun z35 h => ?_)
      refine lv_if_ne (tgt := 394) hx hb dX12_trial_386 (by decide) (fun c36 => ?_) (fun c36 => ?_)
      · have h := h.1 c36
        exact cut394 x1 x3 x4 S33 _ _ _ h hC (lv_sub hl [0, 1, 2, 3] rfl)
      · have h := h.2 c36
        refine lv_aload_n hx hb dX12_trial_389 rfl (lv_at hl 0 rfl) ?_
        refine lv_iconst (v := 1) hx hb dX12_trial_390 (by decide) ?_
        refine mv_callv [.int 1] (rest := []) hX hC (ct_wrong l S33 1 _ h E _) (cw_X12_wrong hts (by omega) (by omega)) rfl hl.1 (Nat.le_of_ble_eq_true rfl) ⟨Nat.zero_le _, Nat.zero_le _⟩ dX12_trial_391 (fun S37 H locs hC h => ?_)
        exact cut394 x1 x3 x4 S37 _ _ _ h hC (lv_sub hl [0, 1, 2, 3] rfl)
    · have h := h.2 c34
      refine lv_aload_n hx hb dX12_trial_239 rfl (lv_at hl 0 rfl) ?_
      refine mv_get (v := .ref (E.2.2.1 29)) hX hC 40 (Nat.le_of_ble_eq_true rfl) wd_1440 rfl dX12_trial_240 ?_
      refine lv_iload_n hx hb dX12_trial_243 rfl (lv_at hl 1 rfl) ?_
      refine lv_iconst (v := 1) hx hb dX12_trial_244 (by decide) ?_
      refine mq_zst (n := 1000) (v := 1) hX hC 29 rfl rfl rfl mf_29 dX12_trial_245 h.1 h.2 (fun S38 H locs hC h => ?_)
      refine lv_aload_n hx hb dX12_trial_246 rfl (lv_at hl 0 rfl) ?_
      refine lv_iload_n hx hb dX12_trial_247 rfl (lv_at hl 2 rfl) ?_
      refine mq_put (v := x3) hX hC 69 19 (Nat.le_of_ble_eq_true rfl) wd_1469 rfl rfl rfl mz_19 dX12_trial_248 h (fun S39 H locs hC h => ?_)
      refine lv_aload_n hx hb dX12_trial_251 rfl (lv_at hl 0 rfl) ?_
      refine lv_aload_n hx hb dX12_trial_252 rfl (lv_at hl 0 rfl) ?_
      refine mv_get (v := .ref (E.2.2.1 35)) hX hC 46 (Nat.le_of_ble_eq_true rfl) wd_1446 rfl dX12_trial_253 ?_
      refine lv_iload_n hx hb dX12_trial_256 rfl (lv_at hl 1 rfl) ?_
      refine mq_ild (n := 1000) hX hC 35 rfl rfl dX12_trial_257 h (fun z40 h => ?_)
      refine mv_callv [.int z40] (rest := []) hX hC (ct_lead l S39 z40 _ h E _) (cw_X12_lead hts (by omega) (by omega)) rfl hl.1 (Nat.le_of_ble_eq_true rfl) ⟨Nat.zero_le _, Nat.zero_le _⟩ dX12_trial_258 (fun S41 H locs hC h => ?_)
      refine lv_aload_n hx hb dX12_trial_261 rfl (lv_at hl 0 rfl) ?_
      refine lv_iload hx hb dX12_trial_262 (lv_at hl 3 rfl) ?_
      refine mq_put (v := x4) hX hC 69 19 (Nat.le_of_ble_eq_true rfl) wd_1469 rfl rfl rfl mz_19 dX12_trial_264 h (fun S42 H locs hC h => ?_)
      refine lv_aload_n hx hb dX12_trial_267 rfl (lv_at hl 0 rfl) ?_
      refine lv_aload_n hx hb dX12_trial_268 rfl (lv_at hl 0 rfl) ?_
      refine mv_get (v := .ref (E.2.2.1 35)) hX hC 46 (Nat.le_of_ble_eq_true rfl) wd_1446 rfl dX12_trial_269 ?_
      refine lv_iload_n hx hb dX12_trial_272 rfl (lv_at hl 1 rfl) ?_
      refine mq_ild (n := 1000) hX hC 35 rfl rfl dX12_trial_273 h (fun z43 h => ?_)
      refine mv_callv [.int z43] (rest := []) hX hC (ct_lead l S42 z43 _ h E _) (cw_X12_lead hts (by omega) (by omega)) rfl hl.1 (Nat.le_of_ble_eq_true rfl) ⟨Nat.zero_le _, Nat.zero_le _⟩ dX12_trial_274 (fun S44 H locs hC h => ?_)
      refine lv_aload_n hx hb dX12_trial_277 rfl (lv_at hl 0 rfl) ?_
      refine lv_aload_n hx hb dX12_trial_278 rfl (lv_at hl 0 rfl) ?_
      refine mv_get (v := .ref (E.2.2.1 35)) hX hC 46 (Nat.le_of_ble_eq_true rfl) wd_1446 rfl dX12_trial_279 ?_
      refine lv_iload_n hx hb dX12_trial_282 rfl (lv_at hl 1 rfl) ?_
      refine mq_ild (n := 1000) hX hC 35 rfl rfl dX12_trial_283 h (fun z45 h => ?_)
      refine mq_put (v := z45) hX hC 69 19 (Nat.le_of_ble_eq_true rfl) wd_1469 rfl rfl rfl mz_19 dX12_trial_284 h (fun S46 H locs hC h => ?_)
      refine lv_aload_n hx hb dX12_trial_287 rfl (lv_at hl 0 rfl) ?_
      refine mv_get (v := .ref (E.2.2.1 32)) hX hC 43 (Nat.le_of_ble_eq_true rfl) wd_1443 rfl dX12_trial_288 ?_
      refine lv_iload_n hx hb dX12_trial_291 rfl (lv_at hl 1 rfl) ?_
      refine lv_aload_n hx hb dX12_trial_292 rfl (lv_at hl 0 rfl) ?_
      refine mv_get (v := .int (S46.1 7)) hX hC 23 (Nat.le_of_ble_eq_true rfl) wd_1423 rfl dX12_trial_293 ?_
      refine mq_ist (n := 1000) (v := S46.1 7) hX hC 32 rfl rfl mf_32 dX12_trial_296 h.1 h.2 (fun S47 H locs hC h => ?_)
      refine lv_aload_n hx hb dX12_trial_297 rfl (lv_at hl 0 rfl) ?_
      refine mv_get (v := .int (S47.1 17)) hX hC 67 (Nat.le_of_ble_eq_true rfl) wd_1467 rfl dX12_trial_298 ?_
      refine lv_istore (lv' := [(5, .int (S47.1 17)), (0, .ref E.2.1), (1, .int x1), (3, .int x3), (4, .int x4)]) hx hb dX12_trial_301 hl (by decide) rfl (fun ls hl => ?_)
      refine lv_aload_n hx hb dX12_trial_303 rfl (lv_at hl 1 rfl) ?_
      refine mv_get (v := .int (S47.1 20)) hX hC 70 (Nat.le_of_ble_eq_true rfl) wd_1470 rfl dX12_trial_304 ?_
      refine lv_istore (lv' := [(6, .int (S47.1 20)), (5, .int (S47.1 17)), (0, .ref E.2.1), (1, .int x1), (3, .int x3), (4, .int x4)]) hx hb dX12_trial_307 hl (by decide) rfl (fun ls hl => ?_)
      refine lv_aload_n hx hb dX12_trial_309 rfl (lv_at hl 2 rfl) ?_
      refine lv_iconst (v := 1) hx hb dX12_trial_310 (by decide) ?_
      refine mq_put (v := 1) hX hC 67 17 (Nat.le_of_ble_eq_true rfl) wd_1467 rfl rfl rfl mz_17 dX12_trial_311 h (fun S48 H locs hC h => ?_)
      refine lv_aload_n hx hb dX12_trial_314 rfl (lv_at hl 2 rfl) ?_
      refine lv_iconst (v := 0) hx hb dX12_trial_315 (by decide) ?_
      refine mq_put (v := 0) hX hC 70 20 (Nat.le_of_ble_eq_true rfl) wd_1470 rfl rfl rfl mz_20 dX12_trial_316 h (fun S49 H locs hC h => ?_)
      refine lv_aload_n hx hb dX12_trial_319 rfl (lv_at hl 2 rfl) ?_
      refine lv_iload_n hx hb dX12_trial_320 rfl (lv_at hl 3 rfl) ?_
      refine lv_iconst (v := 2) hx hb dX12_trial_321 (by decide) ?_
      refine mv_callv [.int x1, .int 2] (rest := []) hX hC (co_inBlock l fr lo (max (fr + 1) 0) (max (lo + 20) 0) r_block hr_block (Nat.le_max_left _ _) (Nat.le_max_left _ _) (Nat.le_max_right _ _) (Nat.le_max_right _ _) S49 x1 2 _ h E _) (cw_X12_inBlock hts (by omega) (by omega)) rfl hl.1 (Nat.le_of_ble_eq_true rfl) ⟨Nat.zero_le _, Nat.zero_le _⟩ dX12_trial_322 (fun S50 H locs hC h => ?_)
      refine lv_aload_n hx hb dX12_trial_325 rfl (lv_at hl 2 rfl) ?_
      refine lv_iload hx hb dX12_trial_326 (lv_at hl 1 rfl) ?_
      refine mq_put (v := S47.1 17) hX hC 67 17 (Nat.le_of_ble_eq_true rfl) wd_1467 rfl (nb_01 h.1) (by rcases h.1 with e | e <;> rw [e] <;> rfl) mz_17 dX12_trial_328 h.2 (fun S51 H locs hC h => ?_)
      refine lv_aload_n hx hb dX12_trial_331 rfl (lv_at hl 2 rfl) ?_
      refine lv_iload hx hb dX12_trial_332 (lv_at hl 0 rfl) ?_
      refine mq_put (v := S47.1 20) hX hC 70 20 (Nat.le_of_ble_eq_true rfl) wd_1470 rfl (nb_01 h.1) (by rcases h.1 with e | e <;> rw [e] <;> rfl) mz_20 dX12_trial_334 h.2 (fun S52 H locs hC h => ?_)
      refine lv_aload_n hx hb dX12_trial_337 rfl (lv_at hl 2 rfl) ?_
      refine lv_bipush (v := 23) hx hb dX12_trial_338 (by decide) ?_
      refine lv_iload_n hx hb dX12_trial_340 rfl (lv_at hl 3 rfl) ?_
      refine lv_iconst (v := 0) hx hb dX12_trial_341 (by decide) ?_
      refine mv_calli [.int 23, .int x1, .int 0] (rest := []) hX hC (ct_emit l S52 23 x1 0 _ h E _) (cw_X12_emit hts (by omega) (by omega)) rfl hl.1 (Nat.le_of_ble_eq_true rfl) ⟨Nat.zero_le _, Nat.zero_le _⟩ dX12_trial_342 (fun r53 S53 H locs hC h => ?_)
      refine lv_istore_n (lv' := [(2, .int r53), (6, .int (S47.1 20)), (5, .int (S47.1 17)), (0, .ref E.2.1), (1, .int x1), (3, .int x3), (4, .int x4)]) hx hb dX12_trial_345 rfl hl (by decide) rfl (fun ls hl => ?_)
      refine lv_aload_n hx hb dX12_trial_346 rfl (lv_at hl 3 rfl) ?_
      refine lv_bipush (v := 7) hx hb dX12_trial_347 (by decide) ?_
      refine lv_iload_n hx hb dX12_trial_349 rfl (lv_at hl 4 rfl) ?_
      refine mv_calli [.int 7, .int x1] (rest := []) hX hC (ct_act l S53 7 x1 _ h E _) (cw_X12_act hts (by omega) (by omega)) rfl hl.1 (Nat.le_of_ble_eq_true rfl) ⟨Nat.zero_le _, Nat.zero_le _⟩ dX12_trial_350 (fun r54 S54 H locs hC h => ?_)
      refine lv_istore (lv' := [(7, .int r54), (2, .int r53), (6, .int (S47.1 20)), (5, .int (S47.1 17)), (0, .ref E.2.1), (1, .int x1), (3, .int x3), (4, .int x4)]) hx hb dX12_trial_353 hl (by decide) rfl (fun ls hl => ?_)
      refine lv_aload_n hx hb dX12_trial_355 rfl (lv_at hl 4 rfl) ?_
      refine lv_iload hx hb dX12_trial_356 (lv_at hl 0 rfl) ?_
      refine mv_callv [.int r54] (rest := []) hX hC (ct_lead l S54 r54 _ h E _) (cw_X12_lead hts (by omega) (by omega)) rfl hl.1 (Nat.le_of_ble_eq_true rfl) ⟨Nat.zero_le _, Nat.zero_le _⟩ dX12_trial_358 (fun S55 H locs hC h => ?_)
      refine lv_aload_n hx hb dX12_trial_361 rfl (lv_at hl 4 rfl) ?_
      refine lv_iload hx hb dX12_trial_362 (lv_at hl 0 rfl) ?_
      refine mq_put (v := r54) hX hC 69 19 (Nat.le_of_ble_eq_true rfl) wd_1469 rfl rfl rfl mz_19 dX12_trial_364 h (fun S56 H locs hC h => ?_)
      refine lv_aload_n hx hb dX12_trial_367 rfl (lv_at hl 4 rfl) ?_
      refine lv_aload_n hx hb dX12_trial_368 rfl (lv_at hl 4 rfl) ?_
      refine mv_get (v := .ref (E.2.2.1 36)) hX hC 47 (Nat.le_of_ble_eq_true rfl) wd_1447 rfl dX12_trial_369 ?_
      refine lv_iload_n hx hb dX12_trial_372 rfl (lv_at hl 5 rfl) ?_
      refine mq_ild (n := 1000) hX hC 36 rfl rfl dX12_trial_373 h (fun z57 h => ?_)
      refine mv_callv [.int z57] (rest := []) hX hC (ct_lead l S56 z57 _ h E _) (cw_X12_lead hts (by omega) (by omega)) rfl hl.1 (Nat.le_of_ble_eq_true rfl) ⟨Nat.zero_le _, Nat.zero_le _⟩ dX12_trial_374 (fun S58 H locs hC h => ?_)
      refine lv_goto (tgt := 425) hx hb dX12_trial_377 (by decide) ?_
      exact cut425 x1 S58 _ _ _ h hC (lv_sub hl [4, 5] rfl)
  have hl : lv_has ls 8 [(0, .ref E.2.1)] := hl
  unfold wp_trial at h
  refine lv_aload_n hx hb dX12_trial_0 rfl (lv_at hl 0 rfl) ?_
  refine mv_get (v := .int (S.1 9)) hX hC 35 (Nat.le_of_ble_eq_true rfl) wd_1435 rfl dX12_trial_1 ?_
  refine lv_istore_n (lv' := [(1, .int (S.1 9)), (0, .ref E.2.1)]) hx hb dX12_trial_4 rfl hl (by decide) rfl (fun ls hl => ?_)
  refine lv_aload_n hx hb dX12_trial_5 rfl (lv_at hl 1 rfl) ?_
  refine lv_dup hx hb dX12_trial_6 rfl ?_
  refine mv_get (v := .int (S.1 9)) hX hC 35 (Nat.le_of_ble_eq_true rfl) wd_1435 rfl dX12_trial_7 ?_
  refine lv_iconst (v := 1) hx hb dX12_trial_10 (by decide) ?_
  refine lq_iadd hx hb dX12_trial_11 h (fun z1 h => ?_)
  refine mq_put (v := z1) hX hC 35 9 (Nat.le_of_ble_eq_true rfl) wd_1435 rfl rfl rfl mz_9 dX12_trial_12 h (fun S2 H locs hC h => ?_)
  refine lv_aload_n hx hb dX12_trial_15 rfl (lv_at hl 1 rfl) ?_
  refine mv_get (v := .ref (E.2.2.1 25)) hX hC 36 (Nat.le_of_ble_eq_true rfl) wd_1436 rfl dX12_trial_16 ?_
  refine lv_iload_n hx hb dX12_trial_19 rfl (lv_at hl 0 rfl) ?_
  refine lv_aload_n hx hb dX12_trial_20 rfl (lv_at hl 1 rfl) ?_
  refine mv_get (v := .int (S2.1 13)) hX hC 63 (Nat.le_of_ble_eq_true rfl) wd_1463 rfl dX12_trial_21 ?_
  refine mq_ist (n := 1000) (v := S2.1 13) hX hC 25 rfl rfl mf_25 dX12_trial_24 h.1 h.2 (fun S3 H locs hC h => ?_)
  refine lv_aload_n hx hb dX12_trial_25 rfl (lv_at hl 1 rfl) ?_
  refine mv_get (v := .ref (E.2.2.1 26)) hX hC 37 (Nat.le_of_ble_eq_true rfl) wd_1437 rfl dX12_trial_26 ?_
  refine lv_iload_n hx hb dX12_trial_29 rfl (lv_at hl 0 rfl) ?_
  refine lv_aload_n hx hb dX12_trial_30 rfl (lv_at hl 1 rfl) ?_
  refine mv_get (v := .int (S3.1 14)) hX hC 64 (Nat.le_of_ble_eq_true rfl) wd_1464 rfl dX12_trial_31 ?_
  refine mq_ist (n := 1000) (v := S3.1 14) hX hC 26 rfl rfl mf_26 dX12_trial_34 h.1 h.2 (fun S4 H locs hC h => ?_)
  refine lv_aload_n hx hb dX12_trial_35 rfl (lv_at hl 1 rfl) ?_
  refine mv_get (v := .ref (E.2.2.1 27)) hX hC 38 (Nat.le_of_ble_eq_true rfl) wd_1438 rfl dX12_trial_36 ?_
  refine lv_iload_n hx hb dX12_trial_39 rfl (lv_at hl 0 rfl) ?_
  refine lv_aload_n hx hb dX12_trial_40 rfl (lv_at hl 1 rfl) ?_
  refine mv_get (v := .int (S4.1 15)) hX hC 65 (Nat.le_of_ble_eq_true rfl) wd_1465 rfl dX12_trial_41 ?_
  refine mq_ist (n := 1000) (v := S4.1 15) hX hC 27 rfl rfl mf_27 dX12_trial_44 h.1 h.2 (fun S5 H locs hC h => ?_)
  refine lv_aload_n hx hb dX12_trial_45 rfl (lv_at hl 1 rfl) ?_
  refine mv_get (v := .ref (E.2.2.1 28)) hX hC 39 (Nat.le_of_ble_eq_true rfl) wd_1439 rfl dX12_trial_46 ?_
  refine lv_iload_n hx hb dX12_trial_49 rfl (lv_at hl 0 rfl) ?_
  refine lv_iconst (v := 0) hx hb dX12_trial_50 (by decide) ?_
  refine mq_zst (n := 1000) (v := 0) hX hC 28 rfl rfl rfl mf_28 dX12_trial_51 h.1 h.2 (fun S6 H locs hC h => ?_)
  refine lv_aload_n hx hb dX12_trial_52 rfl (lv_at hl 1 rfl) ?_
  refine mv_get (v := .ref (E.2.2.1 29)) hX hC 40 (Nat.le_of_ble_eq_true rfl) wd_1440 rfl dX12_trial_53 ?_
  refine lv_iload_n hx hb dX12_trial_56 rfl (lv_at hl 0 rfl) ?_
  refine lv_iconst (v := 0) hx hb dX12_trial_57 (by decide) ?_
  refine mq_zst (n := 1000) (v := 0) hX hC 29 rfl rfl rfl mf_29 dX12_trial_58 h.1 h.2 (fun S7 H locs hC h => ?_)
  refine lv_aload_n hx hb dX12_trial_59 rfl (lv_at hl 1 rfl) ?_
  refine mv_get (v := .ref (E.2.2.1 37)) hX hC 48 (Nat.le_of_ble_eq_true rfl) wd_1448 rfl dX12_trial_60 ?_
  refine lv_iload_n hx hb dX12_trial_63 rfl (lv_at hl 0 rfl) ?_
  refine lv_iconst (v := 0) hx hb dX12_trial_64 (by decide) ?_
  refine mq_zst (n := 1000) (v := 0) hX hC 37 rfl rfl rfl mf_37 dX12_trial_65 h.1 h.2 (fun S8 H locs hC h => ?_)
  refine lv_aload_n hx hb dX12_trial_66 rfl (lv_at hl 1 rfl) ?_
  refine mv_get (v := .ref (E.2.2.1 38)) hX hC 49 (Nat.le_of_ble_eq_true rfl) wd_1449 rfl dX12_trial_67 ?_
  refine lv_iload_n hx hb dX12_trial_70 rfl (lv_at hl 0 rfl) ?_
  refine lv_iconst (v := 0) hx hb dX12_trial_71 (by decide) ?_
  refine mq_zst (n := 1000) (v := 0) hX hC 38 rfl rfl rfl mf_38 dX12_trial_72 h.1 h.2 (fun S9 H locs hC h => ?_)
  refine lv_aload_n hx hb dX12_trial_73 rfl (lv_at hl 1 rfl) ?_
  refine mv_get (v := .ref (E.2.2.1 39)) hX hC 50 (Nat.le_of_ble_eq_true rfl) wd_1450 rfl dX12_trial_74 ?_
  refine lv_iload_n hx hb dX12_trial_77 rfl (lv_at hl 0 rfl) ?_
  refine lv_iconst (v := 0) hx hb dX12_trial_78 (by decide) ?_
  refine mq_zst (n := 1000) (v := 0) hX hC 39 rfl rfl rfl mf_39 dX12_trial_79 h.1 h.2 (fun S10 H locs hC h => ?_)
  refine lv_aload_n hx hb dX12_trial_80 rfl (lv_at hl 1 rfl) ?_
  refine mv_get (v := .ref (E.2.2.1 36)) hX hC 47 (Nat.le_of_ble_eq_true rfl) wd_1447 rfl dX12_trial_81 ?_
  refine lv_iload_n hx hb dX12_trial_84 rfl (lv_at hl 0 rfl) ?_
  refine lv_aload_n hx hb dX12_trial_85 rfl (lv_at hl 1 rfl) ?_
  refine lv_iconst (v := 0) hx hb dX12_trial_86 (by decide) ?_
  refine lv_iconst (v := 0) hx hb dX12_trial_87 (by decide) ?_
  refine mv_calli [.int 0, .int 0] (rest := [.int (S.1 9), .ref (E.2.2.1 36)]) hX hC (ct_act l S10 0 0 _ h E _) (cw_X12_act hts (by omega) (by omega)) rfl hl.1 (Nat.le_of_ble_eq_true rfl) ⟨Nat.zero_le _, Nat.zero_le _⟩ dX12_trial_88 (fun r11 S11 H locs hC h => ?_)
  refine mq_ist (n := 1000) (v := r11) hX hC 36 rfl rfl mf_36 dX12_trial_91 h.1 h.2 (fun S12 H locs hC h => ?_)
  refine lv_aload_n hx hb dX12_trial_92 rfl (lv_at hl 1 rfl) ?_
  refine mv_get (v := .ref (E.2.2.1 35)) hX hC 46 (Nat.le_of_ble_eq_true rfl) wd_1446 rfl dX12_trial_93 ?_
  refine lv_iload_n hx hb dX12_trial_96 rfl (lv_at hl 0 rfl) ?_
  refine lv_aload_n hx hb dX12_trial_97 rfl (lv_at hl 1 rfl) ?_
  refine lv_iconst (v := 0) hx hb dX12_trial_98 (by decide) ?_
  refine lv_iconst (v := 0) hx hb dX12_trial_99 (by decide) ?_
  refine mv_calli [.int 0, .int 0] (rest := [.int (S.1 9), .ref (E.2.2.1 35)]) hX hC (ct_act l S12 0 0 _ h E _) (cw_X12_act hts (by omega) (by omega)) rfl hl.1 (Nat.le_of_ble_eq_true rfl) ⟨Nat.zero_le _, Nat.zero_le _⟩ dX12_trial_100 (fun r13 S13 H locs hC h => ?_)
  refine mq_ist (n := 1000) (v := r13) hX hC 35 rfl rfl mf_35 dX12_trial_103 h.1 h.2 (fun S14 H locs hC h => ?_)
  refine lv_aload_n hx hb dX12_trial_104 rfl (lv_at hl 1 rfl) ?_
  refine lv_bipush (v := 21) hx hb dX12_trial_105 (by decide) ?_
  refine lv_iload_n hx hb dX12_trial_107 rfl (lv_at hl 0 rfl) ?_
  refine lv_iconst (v := 0) hx hb dX12_trial_108 (by decide) ?_
  refine mv_calli [.int 21, .int (S.1 9), .int 0] (rest := []) hX hC (ct_emit l S14 21 (S.1 9) 0 _ h E _) (cw_X12_emit hts (by omega) (by omega)) rfl hl.1 (Nat.le_of_ble_eq_true rfl) ⟨Nat.zero_le _, Nat.zero_le _⟩ dX12_trial_109 (fun r15 S15 H locs hC h => ?_)
  refine lv_istore_n (lv' := [(2, .int r15), (1, .int (S.1 9)), (0, .ref E.2.1)]) hx hb dX12_trial_112 rfl hl (by decide) rfl (fun ls hl => ?_)
  refine lv_aload_n hx hb dX12_trial_113 rfl (lv_at hl 2 rfl) ?_
  refine lv_dup hx hb dX12_trial_114 rfl ?_
  refine mv_get (v := .int (S15.1 16)) hX hC 66 (Nat.le_of_ble_eq_true rfl) wd_1466 rfl dX12_trial_115 ?_
  refine lv_iconst (v := 1) hx hb dX12_trial_118 (by decide) ?_
  refine lq_iadd hx hb dX12_trial_119 h (fun z16 h => ?_)
  refine mq_put (v := z16) hX hC 66 16 (Nat.le_of_ble_eq_true rfl) wd_1466 rfl rfl rfl mz_16 dX12_trial_120 h (fun S17 H locs hC h => ?_)
  refine lv_aload_n hx hb dX12_trial_123 rfl (lv_at hl 2 rfl) ?_
  refine lv_iload_n hx hb dX12_trial_124 rfl (lv_at hl 1 rfl) ?_
  refine lv_iconst (v := 0) hx hb dX12_trial_125 (by decide) ?_
  refine mv_callv [.int (S.1 9), .int 0] (rest := []) hX hC (co_inBlock l fr lo (max (fr + 1) 0) (max (lo + 20) 0) r_block hr_block (Nat.le_max_left _ _) (Nat.le_max_left _ _) (Nat.le_max_right _ _) (Nat.le_max_right _ _) S17 (S.1 9) 0 _ h E _) (cw_X12_inBlock hts (by omega) (by omega)) rfl hl.1 (Nat.le_of_ble_eq_true rfl) ⟨Nat.zero_le _, Nat.zero_le _⟩ dX12_trial_126 (fun S18 H locs hC h => ?_)
  refine lv_aload_n hx hb dX12_trial_129 rfl (lv_at hl 2 rfl) ?_
  refine lv_bipush (v := 22) hx hb dX12_trial_130 (by decide) ?_
  refine lv_iload_n hx hb dX12_trial_132 rfl (lv_at hl 1 rfl) ?_
  refine lv_iconst (v := 0) hx hb dX12_trial_133 (by decide) ?_
  refine mv_calli [.int 22, .int (S.1 9), .int 0] (rest := []) hX hC (ct_emit l S18 22 (S.1 9) 0 _ h E _) (cw_X12_emit hts (by omega) (by omega)) rfl hl.1 (Nat.le_of_ble_eq_true rfl) ⟨Nat.zero_le _, Nat.zero_le _⟩ dX12_trial_134 (fun r19 S19 H locs hC h => ?_)
  refine lv_istore_n (lv' := [(2, .int r19), (1, .int (S.1 9)), (0, .ref E.2.1)]) hx hb dX12_trial_137 rfl hl (by decide) rfl (fun ls hl => ?_)
  refine lv_aload_n hx hb dX12_trial_138 rfl (lv_at hl 2 rfl) ?_
  refine mv_get (v := .int (S19.1 19)) hX hC 69 (Nat.le_of_ble_eq_true rfl) wd_1469 rfl dX12_trial_139 ?_
  refine lv_istore_n (lv' := [(3, .int (S19.1 19)), (2, .int r19), (1, .int (S.1 9)), (0, .ref E.2.1)]) hx hb dX12_trial_142 rfl hl (by decide) rfl (fun ls hl => ?_)
  refine lv_iconst (v := -1) hx hb dX12_trial_143 (by decide) ?_
  refine lv_istore (lv' := [(4, .int (-1)), (3, .int (S19.1 19)), (2, .int r19), (1, .int (S.1 9)), (0, .ref E.2.1)]) hx hb dX12_trial_144 hl (by decide) rfl (fun ls hl => ?_)
  refine lv_aload_n hx hb dX12_trial_146 rfl (lv_at hl 4 rfl) ?_
  refine lv_bipush (v := 11) hx hb dX12_trial_147 (by decide) ?_
  refine mv_calli [.int 11] (rest := []) hX hC (ct_hasWord l S19 11 _ h E _) (cw_X12_hasWord hts (by omega) (by omega)) rfl hl.1 (Nat.le_of_ble_eq_true rfl) ⟨Nat.zero_le _, Nat.zero_le _⟩ dX12_trial_149 (fun r20 S20 H locs hC h => ?_)
  refine lv_if_eq (tgt := 230) hx hb dX12_trial_152 (by decide) (fun c21 => ?_) (fun c21 => ?_)
  · have h := h.1 c21
    exact cut230 (S.1 9) (S19.1 19) (-1) S20 _ _ _ h hC (lv_sub hl [4, 3, 1, 0] rfl)
  · have h := h.2 c21
    refine lv_aload_n hx hb dX12_trial_155 rfl (lv_at hl 4 rfl) ?_
    refine mv_get (v := .ref (E.2.2.1 28)) hX hC 39 (Nat.le_of_ble_eq_true rfl) wd_1439 rfl dX12_trial_156 ?_
    refine lv_iload_n hx hb dX12_trial_159 rfl (lv_at hl 3 rfl) ?_
    refine lv_iconst (v := 1) hx hb dX12_trial_160 (by decide) ?_
    refine mq_zst (n := 1000) (v := 1) hX hC 28 rfl rfl rfl mf_28 dX12_trial_161 h.1 h.2 (fun S22 H locs hC h => ?_)
    refine lv_aload_n hx hb dX12_trial_162 rfl (lv_at hl 4 rfl) ?_
    refine mv_get (v := .ref (E.2.2.1 31)) hX hC 42 (Nat.le_of_ble_eq_true rfl) wd_1442 rfl dX12_trial_163 ?_
    refine lv_iload_n hx hb dX12_trial_166 rfl (lv_at hl 3 rfl) ?_
    refine lv_aload_n hx hb dX12_trial_167 rfl (lv_at hl 4 rfl) ?_
    refine mv_calli [] (rest := [.int (S.1 9), .ref (E.2.2.1 31)]) hX hC (ct_takeCell l S22 _ h E _) (cw_X12_takeCell hts (by omega) (by omega)) rfl hl.1 (Nat.le_of_ble_eq_true rfl) ⟨Nat.zero_le _, Nat.zero_le _⟩ dX12_trial_168 (fun r23 S23 H locs hC h => ?_)
    refine mq_ist (n := 1000) (v := r23) hX hC 31 rfl rfl mf_31 dX12_trial_171 h.1 h.2 (fun S24 H locs hC h => ?_)
    refine lv_aload_n hx hb dX12_trial_172 rfl (lv_at hl 4 rfl) ?_
    refine mv_get (v := .ref (E.2.2.1 30)) hX hC 41 (Nat.le_of_ble_eq_true rfl) wd_1441 rfl dX12_trial_173 ?_
    refine lv_iload_n hx hb dX12_trial_176 rfl (lv_at hl 3 rfl) ?_
    refine lv_aload_n hx hb dX12_trial_177 rfl (lv_at hl 4 rfl) ?_
    refine mv_get (v := .int (S24.1 7)) hX hC 23 (Nat.le_of_ble_eq_true rfl) wd_1423 rfl dX12_trial_178 ?_
    refine mq_ist (n := 1000) (v := S24.1 7) hX hC 30 rfl rfl mf_30 dX12_trial_181 h.1 h.2 (fun S25 H locs hC h => ?_)
    refine lv_aload_n hx hb dX12_trial_182 rfl (lv_at hl 4 rfl) ?_
    refine mv_get (v := .ref (E.2.2.1 34)) hX hC 45 (Nat.le_of_ble_eq_true rfl) wd_1445 rfl dX12_trial_183 ?_
    refine lv_iload_n hx hb dX12_trial_186 rfl (lv_at hl 3 rfl) ?_
    refine lv_aload_n hx hb dX12_trial_187 rfl (lv_at hl 4 rfl) ?_
    refine lv_iconst (v := 2) hx hb dX12_trial_188 (by decide) ?_
    refine lv_aload_n hx hb dX12_trial_189 rfl (lv_at hl 4 rfl) ?_
    refine mv_get (v := .ref (E.2.2.1 31)) hX hC 42 (Nat.le_of_ble_eq_true rfl) wd_1442 rfl dX12_trial_190 ?_
    refine lv_iload_n hx hb dX12_trial_193 rfl (lv_at hl 3 rfl) ?_
    refine mq_ild (n := 1000) hX hC 31 rfl rfl dX12_trial_194 h (fun z26 h => ?_)
    refine mv_calli [.int 2, .int z26] (rest := [.int (S.1 9), .ref (E.2.2.1 34)]) hX hC (ct_act l S25 2 z26 _ h E _) (cw_X12_act hts (by omega) (by omega)) rfl hl.1 (Nat.le_of_ble_eq_true rfl) ⟨Nat.zero_le _, Nat.zero_le _⟩ dX12_trial_195 (fun r27 S27 H locs hC h => ?_)
    refine mq_ist (n := 1000) (v := r27) hX hC 34 rfl rfl mf_34 dX12_trial_198 h.1 h.2 (fun S28 H locs hC h => ?_)
    refine lv_aload_n hx hb dX12_trial_199 rfl (lv_at hl 4 rfl) ?_
    refine lv_aload_n hx hb dX12_trial_200 rfl (lv_at hl 4 rfl) ?_
    refine mv_get (v := .ref (E.2.2.1 34)) hX hC 45 (Nat.le_of_ble_eq_true rfl) wd_1445 rfl dX12_trial_201 ?_
    refine lv_iload_n hx hb dX12_trial_204 rfl (lv_at hl 3 rfl) ?_
    refine mq_ild (n := 1000) hX hC 34 rfl rfl dX12_trial_205 h (fun z29 h => ?_)
    refine mq_put (v := z29) hX hC 69 19 (Nat.le_of_ble_eq_true rfl) wd_1469 rfl rfl rfl mz_19 dX12_trial_206 h (fun S30 H locs hC h => ?_)
    refine lv_aload_n hx hb dX12_trial_209 rfl (lv_at hl 4 rfl) ?_
    refine lv_iload_n hx hb dX12_trial_210 rfl (lv_at hl 3 rfl) ?_
    refine lv_iconst (v := 1) hx hb dX12_trial_211 (by decide) ?_
    refine mv_callv [.int (S.1 9), .int 1] (rest := []) hX hC (co_inBlock l fr lo (max (fr + 1) 0) (max (lo + 20) 0) r_block hr_block (Nat.le_max_left _ _) (Nat.le_max_left _ _) (Nat.le_max_right _ _) (Nat.le_max_right _ _) S30 (S.1 9) 1 _ h E _) (cw_X12_inBlock hts (by omega) (by omega)) rfl hl.1 (Nat.le_of_ble_eq_true rfl) ⟨Nat.zero_le _, Nat.zero_le _⟩ dX12_trial_212 (fun S31 H locs hC h => ?_)
    refine lv_aload_n hx hb dX12_trial_215 rfl (lv_at hl 4 rfl) ?_
    refine lv_bipush (v := 22) hx hb dX12_trial_216 (by decide) ?_
    refine lv_iload_n hx hb dX12_trial_218 rfl (lv_at hl 3 rfl) ?_
    refine lv_iconst (v := 0) hx hb dX12_trial_219 (by decide) ?_
    refine mv_calli [.int 22, .int (S.1 9), .int 0] (rest := []) hX hC (ct_emit l S31 22 (S.1 9) 0 _ h E _) (cw_X12_emit hts (by omega) (by omega)) rfl hl.1 (Nat.le_of_ble_eq_true rfl) ⟨Nat.zero_le _, Nat.zero_le _⟩ dX12_trial_220 (fun r32 S32 H locs hC h => ?_)
    refine lv_istore_n (lv' := [(2, .int r32), (4, .int (-1)), (3, .int (S19.1 19)), (1, .int (S.1 9)), (0, .ref E.2.1)]) hx hb dX12_trial_223 rfl hl (by decide) rfl (fun ls hl => ?_)
    refine lv_aload_n hx hb dX12_trial_224 rfl (lv_at hl 4 rfl) ?_
    refine mv_get (v := .int (S32.1 19)) hX hC 69 (Nat.le_of_ble_eq_true rfl) wd_1469 rfl dX12_trial_225 ?_
    refine lv_istore (lv' := [(4, .int (S32.1 19)), (2, .int r32), (3, .int (S19.1 19)), (1, .int (S.1 9)), (0, .ref E.2.1)]) hx hb dX12_trial_228 hl (by decide) rfl (fun ls hl => ?_)
    exact cut230 (S.1 9) (S19.1 19) (S32.1 19) S32 _ _ _ h hC (lv_sub hl [4, 3, 2, 0] rfl)
def wp_loop_137 (r_block : mS → (mS → Prop) → Prop) (K : mS → Prop) (x1 : Int32) (x2 : Int32) (x3 : Int32) (x4 : Int32) (x5 : Int32) (x6 : Int32) (y1 : Int32) (S : mS) : Prop := (y1 = 0 ∨ y1 = 1) ∧ ∀ S18 : mS, S18 = sZ S 20 y1 → r_block S18 (fun (S19 : mS) => inR x1 1000 ∧ ∀ z20 : Int32, z20 = S19.2.1 44 (ix x1) → wp_lead z20 S19 (fun (S21 : mS) => (x6 = 0 ∨ x6 = 1) ∧ ∀ S22 : mS, S22 = sZ S21 20 x6 → (x3 = 0 ∨ x3 = 1) ∧ ∀ S23 : mS, S23 = sZ S22 17 x3 → ∀ S24 : mS, S24 = sZ S23 15 x2 → inR x1 1000 ∧ ∀ z25 : Int32, z25 = S24.2.1 42 (ix x1) → wp_emit 16 z25 0 S24 (fun (S26 : mS) (r26 : Int32) => inR x4 24000 ∧ ∀ S27 : mS, S27 = sF S26 13 (ix x4) (S26.1 7) → inR x1 1000 ∧ ∀ S28 : mS, S28 = sF S27 43 (ix x1) (S27.1 7) → ∀ S29 : mS, S29 = sZ S28 19 x5 → inR x1 1000 ∧ ∀ z30 : Int32, z30 = S29.2.1 45 (ix x1) → wp_lead z30 S29 (fun (S31 : mS) => inR x1 1000 ∧ ∀ z32 : Int32, z32 = S31.2.1 45 (ix x1) → ∀ S33 : mS, S33 = sZ S31 19 z32 → K S33))))
def wp_loop_136 (r_block : mS → (mS → Prop) → Prop) (K : mS → Prop) (x1 : Int32) (x2 : Int32) (x3 : Int32) (x4 : Int32) (x5 : Int32) (x6 : Int32) (S : mS) : Prop := wp_loop_137 r_block K x1 x2 x3 x4 x5 x6 0 S
def wp_loop (r_block : mS → (mS → Prop) → Prop) (S : mS) (K : mS → Prop) : Prop := ∀ z1 : Int32, z1 = (S.1 10) + 1 → ∀ S2 : mS, S2 = sZ S 10 z1 → inR (S.1 10) 1000 ∧ ∀ S3 : mS, S3 = sF S2 40 (ix (S.1 10)) (S2.1 13) → inR (S.1 10) 1000 ∧ ∀ S4 : mS, S4 = sF S3 41 (ix (S.1 10)) (S3.1 16) → wp_emit 1 0 0 S4 (fun (S5 : mS) (r5 : Int32) => inR (S.1 10) 1000 ∧ ∀ S6 : mS, S6 = sF S5 42 (ix (S.1 10)) r5 → wp_then 0 0 S6 (fun (S7 : mS) (r7 : Int32) => inR (S.1 10) 1000 ∧ ∀ S8 : mS, S8 = sF S7 44 (ix (S.1 10)) r7 → wp_act 0 0 S8 (fun (S9 : mS) (r9 : Int32) => inR (S.1 10) 1000 ∧ ∀ S10 : mS, S10 = sF S9 45 (ix (S.1 10)) r9 → wq_expression S10 (fun (S11 : mS) => wp_emit 15 0 0 S11 (fun (S12 : mS) (r12 : Int32) => wp_then 0 0 S12 (fun (S13 : mS) (r13 : Int32) => ∀ S14 : mS, S14 = sZ S13 15 (S.1 10) → ∀ S15 : mS, S15 = sZ S14 17 0 → (((S15.1 20) = 0 → wp_loop_136 r_block K (S.1 10) (S10.1 15) (S10.1 17) r12 r13 (S15.1 20) S15) ∧ (¬ (S15.1 20) = 0 → ((¬ (S10.1 17) = 0 → wp_loop_136 r_block K (S.1 10) (S10.1 15) (S10.1 17) r12 r13 (S15.1 20) S15) ∧ ((S10.1 17) = 0 → wp_loop_137 r_block K (S.1 10) (S10.1 15) (S10.1 17) r12 r13 (S15.1 20) 1 S15))))))))))
set_option maxHeartbeats 4000000 in
set_option maxRecDepth 100000 in
theorem co_loop (l : Launch) (fr lo F Lo : Nat) (r_block : mS → (mS → Prop) → Prop) (hr_block : ∀ (S : mS) (K : mS → Prop), r_block S K → mMv l yX12_block cX12_block 1 none fr lo (fun E => []) S K) (hF : fr + 1 ≤ F) (hL : lo + 20 ≤ Lo) (hF0 : 70 ≤ F) (hL0 : 1515 ≤ Lo) (S : mS) (K : mS → Prop) (h : wp_loop r_block S K) : mMv l yX12_loop cX12_loop 8 none F Lo (fun E => []) S K := by
  refine mv_ofv (by decide) rfl (fun _ => Nat.le_of_ble_eq_true rfl) ?_
  intro E p e R s m args below meth c A ls Q hRf hRl hX hC hl hret
  have hx := hX.1.1
  have hb := hX.1.2.1
  have hown := hX.1.2.2.2.1
  have hts := hX.1.2.2.2.2
  have cut137 : ∀ (x1 : Int32) (x2 : Int32) (x3 : Int32) (x4 : Int32) (x5 : Int32) (x6 : Int32) (y1 : Int32) (S : mS) (H : Heap) (locs : List Loc) (ls : Array Slot), wp_loop_137 r_block K x1 x2 x3 x4 x5 x6 y1 S → mC E A s.heap S H locs → lv_has ls 8 [(0, .ref E.2.1), (1, .int x1), (2, .int x2), (3, .int x3), (4, .int x4), (5, .int x5), (6, .int x6)] → W p l e R s m args below meth c H locs 0 0 Q (F0 m 137 ls [.int y1, .ref E.2.1]) := by
    intro x1 x2 x3 x4 x5 x6 y1 S H locs ls h hC hl
    unfold wp_loop_137 at h
    refine mq_put (v := y1) hX hC 70 20 (Nat.le_of_ble_eq_true rfl) wd_1470 rfl (nb_01 h.1) (by rcases h.1 with e | e <;> rw [e] <;> rfl) mz_20 dX12_loop_137 h.2 (fun S18 H locs hC h => ?_)
    refine lv_aload_n hx hb dX12_loop_140 rfl (lv_at hl 0 rfl) ?_
    refine mv_callv [] (rest := []) hX hC (hr_block S18 _ h E _) (cw_X12_block hts (by omega) (by omega)) rfl hl.1 (Nat.le_of_ble_eq_true rfl) ⟨Nat.zero_le _, Nat.zero_le _⟩ dX12_loop_141 (fun S19 H locs hC h => ?_)
    refine lv_aload_n hx hb dX12_loop_144 rfl (lv_at hl 0 rfl) ?_
    refine lv_aload_n hx hb dX12_loop_145 rfl (lv_at hl 0 rfl) ?_
    refine mv_get (v := .ref (E.2.2.1 44)) hX hC 56 (Nat.le_of_ble_eq_true rfl) wd_1456 rfl dX12_loop_146 ?_
    refine lv_iload_n hx hb dX12_loop_149 rfl (lv_at hl 1 rfl) ?_
    refine mq_ild (n := 1000) hX hC 44 rfl rfl dX12_loop_150 h (fun z20 h => ?_)
    refine mv_callv [.int z20] (rest := []) hX hC (ct_lead l S19 z20 _ h E _) (cw_X12_lead hts (by omega) (by omega)) rfl hl.1 (Nat.le_of_ble_eq_true rfl) ⟨Nat.zero_le _, Nat.zero_le _⟩ dX12_loop_151 (fun S21 H locs hC h => ?_)
    refine lv_aload_n hx hb dX12_loop_154 rfl (lv_at hl 0 rfl) ?_
    refine lv_iload hx hb dX12_loop_155 (lv_at hl 6 rfl) ?_
    refine mq_put (v := x6) hX hC 70 20 (Nat.le_of_ble_eq_true rfl) wd_1470 rfl (nb_01 h.1) (by rcases h.1 with e | e <;> rw [e] <;> rfl) mz_20 dX12_loop_157 h.2 (fun S22 H locs hC h => ?_)
    refine lv_aload_n hx hb dX12_loop_160 rfl (lv_at hl 0 rfl) ?_
    refine lv_iload_n hx hb dX12_loop_161 rfl (lv_at hl 3 rfl) ?_
    refine mq_put (v := x3) hX hC 67 17 (Nat.le_of_ble_eq_true rfl) wd_1467 rfl (nb_01 h.1) (by rcases h.1 with e | e <;> rw [e] <;> rfl) mz_17 dX12_loop_162 h.2 (fun S23 H locs hC h => ?_)
    refine lv_aload_n hx hb dX12_loop_165 rfl (lv_at hl 0 rfl) ?_
    refine lv_iload_n hx hb dX12_loop_166 rfl (lv_at hl 2 rfl) ?_
    refine mq_put (v := x2) hX hC 65 15 (Nat.le_of_ble_eq_true rfl) wd_1465 rfl rfl rfl mz_15 dX12_loop_167 h (fun S24 H locs hC h => ?_)
    refine lv_aload_n hx hb dX12_loop_170 rfl (lv_at hl 0 rfl) ?_
    refine lv_bipush (v := 16) hx hb dX12_loop_171 (by decide) ?_
    refine lv_aload_n hx hb dX12_loop_173 rfl (lv_at hl 0 rfl) ?_
    refine mv_get (v := .ref (E.2.2.1 42)) hX hC 54 (Nat.le_of_ble_eq_true rfl) wd_1454 rfl dX12_loop_174 ?_
    refine lv_iload_n hx hb dX12_loop_177 rfl (lv_at hl 1 rfl) ?_
    refine mq_ild (n := 1000) hX hC 42 rfl rfl dX12_loop_178 h (fun z25 h => ?_)
    refine lv_iconst (v := 0) hx hb dX12_loop_179 (by decide) ?_
    refine mv_calli [.int 16, .int z25, .int 0] (rest := []) hX hC (ct_emit l S24 16 z25 0 _ h E _) (cw_X12_emit hts (by omega) (by omega)) rfl hl.1 (Nat.le_of_ble_eq_true rfl) ⟨Nat.zero_le _, Nat.zero_le _⟩ dX12_loop_180 (fun r26 S26 H locs hC h => ?_)
    refine lv_istore (lv' := [(7, .int r26), (0, .ref E.2.1), (1, .int x1), (2, .int x2), (3, .int x3), (4, .int x4), (5, .int x5), (6, .int x6)]) hx hb dX12_loop_183 hl (by decide) rfl (fun ls hl => ?_)
    refine lv_aload_n hx hb dX12_loop_185 rfl (lv_at hl 1 rfl) ?_
    refine mv_get (v := .ref (E.2.2.1 13)) hX hC 21 (Nat.le_of_ble_eq_true rfl) wd_1421 rfl dX12_loop_186 ?_
    refine lv_iload hx hb dX12_loop_189 (lv_at hl 5 rfl) ?_
    refine lv_aload_n hx hb dX12_loop_191 rfl (lv_at hl 1 rfl) ?_
    refine mv_get (v := .int (S26.1 7)) hX hC 23 (Nat.le_of_ble_eq_true rfl) wd_1423 rfl dX12_loop_192 ?_
    refine mq_ist (n := 24000) (v := S26.1 7) hX hC 13 rfl rfl mf_13 dX12_loop_195 h.1 h.2 (fun S27 H locs hC h => ?_)
    refine lv_aload_n hx hb dX12_loop_196 rfl (lv_at hl 1 rfl) ?_
    refine mv_get (v := .ref (E.2.2.1 43)) hX hC 55 (Nat.le_of_ble_eq_true rfl) wd_1455 rfl dX12_loop_197 ?_
    refine lv_iload_n hx hb dX12_loop_200 rfl (lv_at hl 2 rfl) ?_
    refine lv_aload_n hx hb dX12_loop_201 rfl (lv_at hl 1 rfl) ?_
    refine mv_get (v := .int (S27.1 7)) hX hC 23 (Nat.le_of_ble_eq_true rfl) wd_1423 rfl dX12_loop_202 ?_
    refine mq_ist (n := 1000) (v := S27.1 7) hX hC 43 rfl rfl mf_43 dX12_loop_205 h.1 h.2 (fun S28 H locs hC h => ?_)
    refine lv_aload_n hx hb dX12_loop_206 rfl (lv_at hl 1 rfl) ?_
    refine lv_iload hx hb dX12_loop_207 (lv_at hl 6 rfl) ?_
    refine mq_put (v := x5) hX hC 69 19 (Nat.le_of_ble_eq_true rfl) wd_1469 rfl rfl rfl mz_19 dX12_loop_209 h (fun S29 H locs hC h => ?_)
    refine lv_aload_n hx hb dX12_loop_212 rfl (lv_at hl 1 rfl) ?_
    refine lv_aload_n hx hb dX12_loop_213 rfl (lv_at hl 1 rfl) ?_
    refine mv_get (v := .ref (E.2.2.1 45)) hX hC 57 (Nat.le_of_ble_eq_true rfl) wd_1457 rfl dX12_loop_214 ?_
    refine lv_iload_n hx hb dX12_loop_217 rfl (lv_at hl 2 rfl) ?_
    refine mq_ild (n := 1000) hX hC 45 rfl rfl dX12_loop_218 h (fun z30 h => ?_)
    refine mv_callv [.int z30] (rest := []) hX hC (ct_lead l S29 z30 _ h E _) (cw_X12_lead hts (by omega) (by omega)) rfl hl.1 (Nat.le_of_ble_eq_true rfl) ⟨Nat.zero_le _, Nat.zero_le _⟩ dX12_loop_219 (fun S31 H locs hC h => ?_)
    refine lv_aload_n hx hb dX12_loop_222 rfl (lv_at hl 1 rfl) ?_
    refine lv_aload_n hx hb dX12_loop_223 rfl (lv_at hl 1 rfl) ?_
    refine mv_get (v := .ref (E.2.2.1 45)) hX hC 57 (Nat.le_of_ble_eq_true rfl) wd_1457 rfl dX12_loop_224 ?_
    refine lv_iload_n hx hb dX12_loop_227 rfl (lv_at hl 2 rfl) ?_
    refine mq_ild (n := 1000) hX hC 45 rfl rfl dX12_loop_228 h (fun z32 h => ?_)
    refine mq_put (v := z32) hX hC 69 19 (Nat.le_of_ble_eq_true rfl) wd_1469 rfl rfl rfl mz_19 dX12_loop_229 h (fun S33 H locs hC h => ?_)
    exact hret _ _ _ _ _ hC h dX12_loop_232
  have cut136 : ∀ (x1 : Int32) (x2 : Int32) (x3 : Int32) (x4 : Int32) (x5 : Int32) (x6 : Int32) (S : mS) (H : Heap) (locs : List Loc) (ls : Array Slot), wp_loop_136 r_block K x1 x2 x3 x4 x5 x6 S → mC E A s.heap S H locs → lv_has ls 8 [(0, .ref E.2.1), (1, .int x1), (2, .int x2), (3, .int x3), (4, .int x4), (5, .int x5), (6, .int x6)] → W p l e R s m args below meth c H locs 0 0 Q (F0 m 136 ls [.ref E.2.1]) := by
    intro x1 x2 x3 x4 x5 x6 S H locs ls h hC hl
    unfold wp_loop_136 at h
    refine lv_iconst (v := 0) hx hb dX12_loop_136 (by decide) ?_
    exact cut137 x1 x2 x3 x4 x5 x6 0 S _ _ _ h hC (lv_sub hl [0, 1, 2, 3, 4, 5, 6] rfl)
  have hl : lv_has ls 8 [(0, .ref E.2.1)] := hl
  unfold wp_loop at h
  refine lv_aload_n hx hb dX12_loop_0 rfl (lv_at hl 0 rfl) ?_
  refine mv_get (v := .int (S.1 10)) hX hC 51 (Nat.le_of_ble_eq_true rfl) wd_1451 rfl dX12_loop_1 ?_
  refine lv_istore_n (lv' := [(1, .int (S.1 10)), (0, .ref E.2.1)]) hx hb dX12_loop_4 rfl hl (by decide) rfl (fun ls hl => ?_)
  refine lv_aload_n hx hb dX12_loop_5 rfl (lv_at hl 1 rfl) ?_
  refine lv_dup hx hb dX12_loop_6 rfl ?_
  refine mv_get (v := .int (S.1 10)) hX hC 51 (Nat.le_of_ble_eq_true rfl) wd_1451 rfl dX12_loop_7 ?_
  refine lv_iconst (v := 1) hx hb dX12_loop_10 (by decide) ?_
  refine lq_iadd hx hb dX12_loop_11 h (fun z1 h => ?_)
  refine mq_put (v := z1) hX hC 51 10 (Nat.le_of_ble_eq_true rfl) wd_1451 rfl rfl rfl mz_10 dX12_loop_12 h (fun S2 H locs hC h => ?_)
  refine lv_aload_n hx hb dX12_loop_15 rfl (lv_at hl 1 rfl) ?_
  refine mv_get (v := .ref (E.2.2.1 40)) hX hC 52 (Nat.le_of_ble_eq_true rfl) wd_1452 rfl dX12_loop_16 ?_
  refine lv_iload_n hx hb dX12_loop_19 rfl (lv_at hl 0 rfl) ?_
  refine lv_aload_n hx hb dX12_loop_20 rfl (lv_at hl 1 rfl) ?_
  refine mv_get (v := .int (S2.1 13)) hX hC 63 (Nat.le_of_ble_eq_true rfl) wd_1463 rfl dX12_loop_21 ?_
  refine mq_ist (n := 1000) (v := S2.1 13) hX hC 40 rfl rfl mf_40 dX12_loop_24 h.1 h.2 (fun S3 H locs hC h => ?_)
  refine lv_aload_n hx hb dX12_loop_25 rfl (lv_at hl 1 rfl) ?_
  refine mv_get (v := .ref (E.2.2.1 41)) hX hC 53 (Nat.le_of_ble_eq_true rfl) wd_1453 rfl dX12_loop_26 ?_
  refine lv_iload_n hx hb dX12_loop_29 rfl (lv_at hl 0 rfl) ?_
  refine lv_aload_n hx hb dX12_loop_30 rfl (lv_at hl 1 rfl) ?_
  refine mv_get (v := .int (S3.1 16)) hX hC 66 (Nat.le_of_ble_eq_true rfl) wd_1466 rfl dX12_loop_31 ?_
  refine mq_ist (n := 1000) (v := S3.1 16) hX hC 41 rfl rfl mf_41 dX12_loop_34 h.1 h.2 (fun S4 H locs hC h => ?_)
  refine lv_aload_n hx hb dX12_loop_35 rfl (lv_at hl 1 rfl) ?_
  refine mv_get (v := .ref (E.2.2.1 42)) hX hC 54 (Nat.le_of_ble_eq_true rfl) wd_1454 rfl dX12_loop_36 ?_
  refine lv_iload_n hx hb dX12_loop_39 rfl (lv_at hl 0 rfl) ?_
  refine lv_aload_n hx hb dX12_loop_40 rfl (lv_at hl 1 rfl) ?_
  refine lv_iconst (v := 1) hx hb dX12_loop_41 (by decide) ?_
  refine lv_iconst (v := 0) hx hb dX12_loop_42 (by decide) ?_
  refine lv_iconst (v := 0) hx hb dX12_loop_43 (by decide) ?_
  refine mv_calli [.int 1, .int 0, .int 0] (rest := [.int (S.1 10), .ref (E.2.2.1 42)]) hX hC (ct_emit l S4 1 0 0 _ h E _) (cw_X12_emit hts (by omega) (by omega)) rfl hl.1 (Nat.le_of_ble_eq_true rfl) ⟨Nat.zero_le _, Nat.zero_le _⟩ dX12_loop_44 (fun r5 S5 H locs hC h => ?_)
  refine mq_ist (n := 1000) (v := r5) hX hC 42 rfl rfl mf_42 dX12_loop_47 h.1 h.2 (fun S6 H locs hC h => ?_)
  refine lv_aload_n hx hb dX12_loop_48 rfl (lv_at hl 1 rfl) ?_
  refine mv_get (v := .ref (E.2.2.1 44)) hX hC 56 (Nat.le_of_ble_eq_true rfl) wd_1456 rfl dX12_loop_49 ?_
  refine lv_iload_n hx hb dX12_loop_52 rfl (lv_at hl 0 rfl) ?_
  refine lv_aload_n hx hb dX12_loop_53 rfl (lv_at hl 1 rfl) ?_
  refine lv_iconst (v := 0) hx hb dX12_loop_54 (by decide) ?_
  refine lv_iconst (v := 0) hx hb dX12_loop_55 (by decide) ?_
  refine mv_calli [.int 0, .int 0] (rest := [.int (S.1 10), .ref (E.2.2.1 44)]) hX hC (ct_then l S6 0 0 _ h E _) (cw_X12_then hts (by omega) (by omega)) rfl hl.1 (Nat.le_of_ble_eq_true rfl) ⟨Nat.zero_le _, Nat.zero_le _⟩ dX12_loop_56 (fun r7 S7 H locs hC h => ?_)
  refine mq_ist (n := 1000) (v := r7) hX hC 44 rfl rfl mf_44 dX12_loop_59 h.1 h.2 (fun S8 H locs hC h => ?_)
  refine lv_aload_n hx hb dX12_loop_60 rfl (lv_at hl 1 rfl) ?_
  refine mv_get (v := .ref (E.2.2.1 45)) hX hC 57 (Nat.le_of_ble_eq_true rfl) wd_1457 rfl dX12_loop_61 ?_
  refine lv_iload_n hx hb dX12_loop_64 rfl (lv_at hl 0 rfl) ?_
  refine lv_aload_n hx hb dX12_loop_65 rfl (lv_at hl 1 rfl) ?_
  refine lv_iconst (v := 0) hx hb dX12_loop_66 (by decide) ?_
  refine lv_iconst (v := 0) hx hb dX12_loop_67 (by decide) ?_
  refine mv_calli [.int 0, .int 0] (rest := [.int (S.1 10), .ref (E.2.2.1 45)]) hX hC (ct_act l S8 0 0 _ h E _) (cw_X12_act hts (by omega) (by omega)) rfl hl.1 (Nat.le_of_ble_eq_true rfl) ⟨Nat.zero_le _, Nat.zero_le _⟩ dX12_loop_68 (fun r9 S9 H locs hC h => ?_)
  refine mq_ist (n := 1000) (v := r9) hX hC 45 rfl rfl mf_45 dX12_loop_71 h.1 h.2 (fun S10 H locs hC h => ?_)
  refine lv_aload_n hx hb dX12_loop_72 rfl (lv_at hl 1 rfl) ?_
  refine mv_get (v := .int (S10.1 15)) hX hC 65 (Nat.le_of_ble_eq_true rfl) wd_1465 rfl dX12_loop_73 ?_
  refine lv_istore_n (lv' := [(2, .int (S10.1 15)), (1, .int (S.1 10)), (0, .ref E.2.1)]) hx hb dX12_loop_76 rfl hl (by decide) rfl (fun ls hl => ?_)
  refine lv_aload_n hx hb dX12_loop_77 rfl (lv_at hl 2 rfl) ?_
  refine mv_get (v := .int (S10.1 17)) hX hC 67 (Nat.le_of_ble_eq_true rfl) wd_1467 rfl dX12_loop_78 ?_
  refine lv_istore_n (lv' := [(3, .int (S10.1 17)), (2, .int (S10.1 15)), (1, .int (S.1 10)), (0, .ref E.2.1)]) hx hb dX12_loop_81 rfl hl (by decide) rfl (fun ls hl => ?_)
  refine lv_aload_n hx hb dX12_loop_82 rfl (lv_at hl 3 rfl) ?_
  refine mv_callv [] (rest := []) hX hC (ct_expression l S10 _ h E _) (cw_X12_expression hts (by omega) (by omega)) rfl hl.1 (Nat.le_of_ble_eq_true rfl) ⟨Nat.zero_le _, Nat.zero_le _⟩ dX12_loop_83 (fun S11 H locs hC h => ?_)
  refine lv_aload_n hx hb dX12_loop_86 rfl (lv_at hl 3 rfl) ?_
  refine lv_bipush (v := 15) hx hb dX12_loop_87 (by decide) ?_
  refine lv_iconst (v := 0) hx hb dX12_loop_89 (by decide) ?_
  refine lv_iconst (v := 0) hx hb dX12_loop_90 (by decide) ?_
  refine mv_calli [.int 15, .int 0, .int 0] (rest := []) hX hC (ct_emit l S11 15 0 0 _ h E _) (cw_X12_emit hts (by omega) (by omega)) rfl hl.1 (Nat.le_of_ble_eq_true rfl) ⟨Nat.zero_le _, Nat.zero_le _⟩ dX12_loop_91 (fun r12 S12 H locs hC h => ?_)
  refine lv_istore (lv' := [(4, .int r12), (3, .int (S10.1 17)), (2, .int (S10.1 15)), (1, .int (S.1 10)), (0, .ref E.2.1)]) hx hb dX12_loop_94 hl (by decide) rfl (fun ls hl => ?_)
  refine lv_aload_n hx hb dX12_loop_96 rfl (lv_at hl 4 rfl) ?_
  refine lv_iconst (v := 0) hx hb dX12_loop_97 (by decide) ?_
  refine lv_iconst (v := 0) hx hb dX12_loop_98 (by decide) ?_
  refine mv_calli [.int 0, .int 0] (rest := []) hX hC (ct_then l S12 0 0 _ h E _) (cw_X12_then hts (by omega) (by omega)) rfl hl.1 (Nat.le_of_ble_eq_true rfl) ⟨Nat.zero_le _, Nat.zero_le _⟩ dX12_loop_99 (fun r13 S13 H locs hC h => ?_)
  refine lv_istore (lv' := [(5, .int r13), (4, .int r12), (3, .int (S10.1 17)), (2, .int (S10.1 15)), (1, .int (S.1 10)), (0, .ref E.2.1)]) hx hb dX12_loop_102 hl (by decide) rfl (fun ls hl => ?_)
  refine lv_aload_n hx hb dX12_loop_104 rfl (lv_at hl 5 rfl) ?_
  refine lv_iload_n hx hb dX12_loop_105 rfl (lv_at hl 4 rfl) ?_
  refine mq_put (v := S.1 10) hX hC 65 15 (Nat.le_of_ble_eq_true rfl) wd_1465 rfl rfl rfl mz_15 dX12_loop_106 h (fun S14 H locs hC h => ?_)
  refine lv_aload_n hx hb dX12_loop_109 rfl (lv_at hl 5 rfl) ?_
  refine lv_iconst (v := 0) hx hb dX12_loop_110 (by decide) ?_
  refine mq_put (v := 0) hX hC 67 17 (Nat.le_of_ble_eq_true rfl) wd_1467 rfl rfl rfl mz_17 dX12_loop_111 h (fun S15 H locs hC h => ?_)
  refine lv_aload_n hx hb dX12_loop_114 rfl (lv_at hl 5 rfl) ?_
  refine mv_get (v := .int (S15.1 20)) hX hC 70 (Nat.le_of_ble_eq_true rfl) wd_1470 rfl dX12_loop_115 ?_
  refine lv_istore (lv' := [(6, .int (S15.1 20)), (5, .int r13), (4, .int r12), (3, .int (S10.1 17)), (2, .int (S10.1 15)), (1, .int (S.1 10)), (0, .ref E.2.1)]) hx hb dX12_loop_118 hl (by decide) rfl (fun ls hl => ?_)
  refine lv_aload_n hx hb dX12_loop_120 rfl (lv_at hl 6 rfl) ?_
  refine lv_aload_n hx hb dX12_loop_121 rfl (lv_at hl 6 rfl) ?_
  refine mv_get (v := .int (S15.1 20)) hX hC 70 (Nat.le_of_ble_eq_true rfl) wd_1470 rfl dX12_loop_122 ?_
  refine lv_if_eq (tgt := 136) hx hb dX12_loop_125 (by decide) (fun c16 => ?_) (fun c16 => ?_)
  · have h := h.1 c16
    exact cut136 (S.1 10) (S10.1 15) (S10.1 17) r12 r13 (S15.1 20) S15 _ _ _ h hC (lv_sub hl [6, 5, 4, 3, 2, 1, 0] rfl)
  · have h := h.2 c16
    refine lv_iload_n hx hb dX12_loop_128 rfl (lv_at hl 3 rfl) ?_
    refine lv_if_ne (tgt := 136) hx hb dX12_loop_129 (by decide) (fun c17 => ?_) (fun c17 => ?_)
    · have h := h.1 c17
      exact cut136 (S.1 10) (S10.1 15) (S10.1 17) r12 r13 (S15.1 20) S15 _ _ _ h hC (lv_sub hl [6, 5, 4, 3, 2, 1, 0] rfl)
    · have h := h.2 c17
      refine lv_iconst (v := 1) hx hb dX12_loop_132 (by decide) ?_
      refine lv_goto (tgt := 137) hx hb dX12_loop_133 (by decide) ?_
      exact cut137 (S.1 10) (S10.1 15) (S10.1 17) r12 r13 (S15.1 20) 1 S15 _ _ _ h hC (lv_sub hl [6, 5, 4, 3, 2, 1, 0] rfl)
