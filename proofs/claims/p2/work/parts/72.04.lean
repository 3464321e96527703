theorem wd_1918 : (Jvm.Cond.methodLink "SleepersModel" (473 : Nat) ({ cls := "SleepersModel", name := "takeNumber", desc := "(II)I" } : Jvm.MethodName)) ∈ tb := tb_at 1918 (by decide +kernel) (by decide +kernel)
theorem wd_1920 : (Jvm.Cond.instanceMethod ({ cls := "SleepersModel", name := "takeNumber", desc := "(II)I" } : Jvm.MethodName)) ∈ tb := tb_at 1920 (by decide +kernel) (by decide +kernel)
theorem wd_1921 : (Jvm.Cond.code ({ cls := "SleepersModel", name := "takeNumber", desc := "(II)I" } : Jvm.MethodName) prog_14_method_18_code (3 : Nat) (Option.some Jvm.ClassFile.FieldType.int)) ∈ tb := tb_at 1921 (by decide +kernel) (by decide +kernel)
theorem wd_1922 : (Jvm.Cond.methodLink "SleepersModel" (476 : Nat) ({ cls := "SleepersModel", name := "leaves", desc := "(Z)V" } : Jvm.MethodName)) ∈ tb := tb_at 1922 (by decide +kernel) (by decide +kernel)
theorem wd_1924 : (Jvm.Cond.instanceMethod ({ cls := "SleepersModel", name := "leaves", desc := "(Z)V" } : Jvm.MethodName)) ∈ tb := tb_at 1924 (by decide +kernel) (by decide +kernel)
theorem wd_1925 : (Jvm.Cond.code ({ cls := "SleepersModel", name := "leaves", desc := "(Z)V" } : Jvm.MethodName) prog_14_method_37_code (3 : Nat) (Option.none : Option Jvm.ClassFile.FieldType)) ∈ tb := tb_at 1925 (by decide +kernel) (by decide +kernel)
theorem wd_1930 : (Jvm.Cond.methodLink "SleepersModel" (483 : Nat) ({ cls := "SleepersModel", name := "wait", desc := "(I)V" } : Jvm.MethodName)) ∈ tb := tb_at 1930 (by decide +kernel) (by decide +kernel)
theorem wd_1932 : (Jvm.Cond.instanceMethod ({ cls := "SleepersModel", name := "wait", desc := "(I)V" } : Jvm.MethodName)) ∈ tb := tb_at 1932 (by decide +kernel) (by decide +kernel)
theorem wd_1933 : (Jvm.Cond.code ({ cls := "SleepersModel", name := "wait", desc := "(I)V" } : Jvm.MethodName) prog_14_method_40_code (6 : Nat) (Option.none : Option Jvm.ClassFile.FieldType)) ∈ tb := tb_at 1933 (by decide +kernel) (by decide +kernel)
theorem wd_1934 : (Jvm.Cond.methodLink "SleepersModel" (489 : Nat) ({ cls := "SleepersModel", name := "waitTree", desc := "()V" } : Jvm.MethodName)) ∈ tb := tb_at 1934 (by decide +kernel) (by decide +kernel)
theorem wd_1936 : (Jvm.Cond.instanceMethod ({ cls := "SleepersModel", name := "waitTree", desc := "()V" } : Jvm.MethodName)) ∈ tb := tb_at 1936 (by decide +kernel) (by decide +kernel)
theorem wd_1937 : (Jvm.Cond.code ({ cls := "SleepersModel", name := "waitTree", desc := "()V" } : Jvm.MethodName) prog_14_method_42_code (4 : Nat) (Option.none : Option Jvm.ClassFile.FieldType)) ∈ tb := tb_at 1937 (by decide +kernel) (by decide +kernel)
theorem wd_1938 : (Jvm.Cond.methodLink "SleepersModel" (492 : Nat) ({ cls := "SleepersModel", name := "isWait", desc := "()Z" } : Jvm.MethodName)) ∈ tb := tb_at 1938 (by decide +kernel) (by decide +kernel)
theorem wd_1940 : (Jvm.Cond.instanceMethod ({ cls := "SleepersModel", name := "isWait", desc := "()Z" } : Jvm.MethodName)) ∈ tb := tb_at 1940 (by decide +kernel) (by decide +kernel)
theorem wd_1941 : (Jvm.Cond.code ({ cls := "SleepersModel", name := "isWait", desc := "()Z" } : Jvm.MethodName) prog_14_method_41_code (1 : Nat) (Option.some Jvm.ClassFile.FieldType.boolean)) ∈ tb := tb_at 1941 (by decide +kernel) (by decide +kernel)
theorem wd_1942 : (Jvm.Cond.methodLink "SleepersModel" (495 : Nat) ({ cls := "SleepersModel", name := "child", desc := "()V" } : Jvm.MethodName)) ∈ tb := tb_at 1942 (by decide +kernel) (by decide +kernel)
theorem wd_1944 : (Jvm.Cond.instanceMethod ({ cls := "SleepersModel", name := "child", desc := "()V" } : Jvm.MethodName)) ∈ tb := tb_at 1944 (by decide +kernel) (by decide +kernel)
theorem wd_1945 : (Jvm.Cond.code ({ cls := "SleepersModel", name := "child", desc := "()V" } : Jvm.MethodName) prog_14_method_43_code (4 : Nat) (Option.none : Option Jvm.ClassFile.FieldType)) ∈ tb := tb_at 1945 (by decide +kernel) (by decide +kernel)
theorem wd_1946 : (Jvm.Cond.methodLink "SleepersModel" (498 : Nat) ({ cls := "SleepersModel", name := "takeWord", desc := "(I)V" } : Jvm.MethodName)) ∈ tb := tb_at 1946 (by decide +kernel) (by decide +kernel)
theorem wd_1948 : (Jvm.Cond.instanceMethod ({ cls := "SleepersModel", name := "takeWord", desc := "(I)V" } : Jvm.MethodName)) ∈ tb := tb_at 1948 (by decide +kernel) (by decide +kernel)
theorem wd_1949 : (Jvm.Cond.code ({ cls := "SleepersModel", name := "takeWord", desc := "(I)V" } : Jvm.MethodName) prog_14_method_16_code (2 : Nat) (Option.none : Option Jvm.ClassFile.FieldType)) ∈ tb := tb_at 1949 (by decide +kernel) (by decide +kernel)
theorem wd_1950 : (Jvm.Cond.methodLink "SleepersModel" (486 : Nat) ({ cls := "SleepersModel", name := "sets", desc := "()V" } : Jvm.MethodName)) ∈ tb := tb_at 1950 (by decide +kernel) (by decide +kernel)
theorem wd_1952 : (Jvm.Cond.instanceMethod ({ cls := "SleepersModel", name := "sets", desc := "()V" } : Jvm.MethodName)) ∈ tb := tb_at 1952 (by decide +kernel) (by decide +kernel)
theorem wd_1953 : (Jvm.Cond.code ({ cls := "SleepersModel", name := "sets", desc := "()V" } : Jvm.MethodName) prog_14_method_39_code (3 : Nat) (Option.none : Option Jvm.ClassFile.FieldType)) ∈ tb := tb_at 1953 (by decide +kernel) (by decide +kernel)
theorem sl_X12_child : Cond.selects RX12 yX12_child yX12_child ∈ tb := sl_of (y := ⟨"SleepersModel", "child", "()V"⟩) (n := 128) (by decide +kernel) (by decide +kernel)
theorem sl_X12_isWait : Cond.selects RX12 yX12_isWait yX12_isWait ∈ tb := sl_of (y := ⟨"SleepersModel", "isWait", "()Z"⟩) (n := 128) (by decide +kernel) (by decide +kernel)
theorem sl_X12_leaves : Cond.selects RX12 yX12_leaves yX12_leaves ∈ tb := sl_of (y := ⟨"SleepersModel", "leaves", "(Z)V"⟩) (n := 128) (by decide +kernel) (by decide +kernel)
theorem sl_X12_sets : Cond.selects RX12 yX12_sets yX12_sets ∈ tb := sl_of (y := ⟨"SleepersModel", "sets", "()V"⟩) (n := 128) (by decide +kernel) (by decide +kernel)
theorem sl_X12_takeNumber : Cond.selects RX12 yX12_takeNumber yX12_takeNumber ∈ tb := sl_of (y := ⟨"SleepersModel", "takeNumber", "(II)I"⟩) (n := 128) (by decide +kernel) (by decide +kernel)
theorem sl_X12_takeWord : Cond.selects RX12 yX12_takeWord yX12_takeWord ∈ tb := sl_of (y := ⟨"SleepersModel", "takeWord", "(I)V"⟩) (n := 128) (by decide +kernel) (by decide +kernel)
theorem sl_X12_wait : Cond.selects RX12 yX12_wait yX12_wait ∈ tb := sl_of (y := ⟨"SleepersModel", "wait", "(I)V"⟩) (n := 128) (by decide +kernel) (by decide +kernel)
theorem sl_X12_waitTree : Cond.selects RX12 yX12_waitTree yX12_waitTree ∈ tb := sl_of (y := ⟨"SleepersModel", "waitTree", "()V"⟩) (n := 128) (by decide +kernel) (by decide +kernel)
theorem dX12_plain_0 : decode cX12_plain 0 = .ok (.aload_n 0, 1) := by decide +kernel
theorem dX12_plain_1 : decode cX12_plain 1 = .ok (.iconst 2, 1) := by decide +kernel
theorem dX12_plain_2 : decode cX12_plain 2 = .ok (.invokevirtual 350, 3) := by decide +kernel
theorem dX12_plain_5 : decode cX12_plain 5 = .ok (.ifCond .eq 19, 3) := by decide +kernel
theorem dX12_plain_8 : decode cX12_plain 8 = .ok (.aload_n 0, 1) := by decide +kernel
theorem dX12_plain_9 : decode cX12_plain 9 = .ok (.invokevirtual 457, 3) := by decide +kernel
theorem dX12_plain_12 : decode cX12_plain 12 = .ok (.aload_n 0, 1) := by decide +kernel
theorem dX12_plain_13 : decode cX12_plain 13 = .ok (.bipush 14, 2) := by decide +kernel
theorem dX12_plain_15 : decode cX12_plain 15 = .ok (.iconst 0, 1) := by decide +kernel
theorem dX12_plain_16 : decode cX12_plain 16 = .ok (.iconst 0, 1) := by decide +kernel
theorem dX12_plain_17 : decode cX12_plain 17 = .ok (.invokevirtual 431, 3) := by decide +kernel
theorem dX12_plain_20 : decode cX12_plain 20 = .ok (.istore_n 1, 1) := by decide +kernel
theorem dX12_plain_21 : decode cX12_plain 21 = .ok (.goto 162, 3) := by decide +kernel
theorem dX12_plain_24 : decode cX12_plain 24 = .ok (.aload_n 0, 1) := by decide +kernel
theorem dX12_plain_25 : decode cX12_plain 25 = .ok (.bipush 9, 2) := by decide +kernel
theorem dX12_plain_27 : decode cX12_plain 27 = .ok (.invokevirtual 350, 3) := by decide +kernel
theorem dX12_plain_30 : decode cX12_plain 30 = .ok (.ifCond .eq 33, 3) := by decide +kernel
theorem dX12_plain_33 : decode cX12_plain 33 = .ok (.aload_n 0, 1) := by decide +kernel
theorem dX12_plain_34 : decode cX12_plain 34 = .ok (.bipush 17, 2) := by decide +kernel
theorem dX12_plain_36 : decode cX12_plain 36 = .ok (.aload_n 0, 1) := by decide +kernel
theorem dX12_plain_37 : decode cX12_plain 37 = .ok (.iconst 1, 1) := by decide +kernel
theorem dX12_plain_38 : decode cX12_plain 38 = .ok (.bipush 9, 2) := by decide +kernel
theorem dX12_plain_40 : decode cX12_plain 40 = .ok (.invokevirtual 473, 3) := by decide +kernel
theorem dX12_plain_43 : decode cX12_plain 43 = .ok (.iconst 0, 1) := by decide +kernel
theorem dX12_plain_44 : decode cX12_plain 44 = .ok (.invokevirtual 431, 3) := by decide +kernel
theorem dX12_plain_47 : decode cX12_plain 47 = .ok (.istore_n 1, 1) := by decide +kernel
theorem dX12_plain_48 : decode cX12_plain 48 = .ok (.aload_n 0, 1) := by decide +kernel
theorem dX12_plain_49 : decode cX12_plain 49 = .ok (.iconst 5, 1) := by decide +kernel
theorem dX12_plain_50 : decode cX12_plain 50 = .ok (.iconst 0, 1) := by decide +kernel
theorem dX12_plain_51 : decode cX12_plain 51 = .ok (.invokevirtual 460, 3) := by decide +kernel
theorem dX12_plain_54 : decode cX12_plain 54 = .ok (.istore_n 1, 1) := by decide +kernel
theorem dX12_plain_55 : decode cX12_plain 55 = .ok (.aload_n 0, 1) := by decide +kernel
theorem dX12_plain_56 : decode cX12_plain 56 = .ok (.iconst (-1), 1) := by decide +kernel
theorem dX12_plain_57 : decode cX12_plain 57 = .ok (.putfield 425, 3) := by decide +kernel
theorem dX12_plain_60 : decode cX12_plain 60 = .ok (.goto 123, 3) := by decide +kernel
theorem dX12_plain_63 : decode cX12_plain 63 = .ok (.aload_n 0, 1) := by decide +kernel
theorem dX12_plain_64 : decode cX12_plain 64 = .ok (.bipush 6, 2) := by decide +kernel
theorem dX12_plain_66 : decode cX12_plain 66 = .ok (.invokevirtual 347, 3) := by decide +kernel
theorem dX12_plain_69 : decode cX12_plain 69 = .ok (.ifCond .ne 12, 3) := by decide +kernel
theorem dX12_plain_72 : decode cX12_plain 72 = .ok (.aload_n 0, 1) := by decide +kernel
theorem dX12_plain_73 : decode cX12_plain 73 = .ok (.bipush 7, 2) := by decide +kernel
theorem dX12_plain_75 : decode cX12_plain 75 = .ok (.invokevirtual 347, 3) := by decide +kernel
theorem dX12_plain_78 : decode cX12_plain 78 = .ok (.ifCond .eq 16, 3) := by decide +kernel
theorem dX12_plain_81 : decode cX12_plain 81 = .ok (.aload_n 0, 1) := by decide +kernel
theorem dX12_plain_82 : decode cX12_plain 82 = .ok (.aload_n 0, 1) := by decide +kernel
theorem dX12_plain_83 : decode cX12_plain 83 = .ok (.bipush 6, 2) := by decide +kernel
theorem dX12_plain_85 : decode cX12_plain 85 = .ok (.invokevirtual 347, 3) := by decide +kernel
theorem dX12_plain_88 : decode cX12_plain 88 = .ok (.invokevirtual 476, 3) := by decide +kernel
theorem dX12_plain_91 : decode cX12_plain 91 = .ok (.goto 92, 3) := by decide +kernel
theorem dX12_plain_94 : decode cX12_plain 94 = .ok (.aload_n 0, 1) := by decide +kernel
theorem dX12_plain_95 : decode cX12_plain 95 = .ok (.bipush 8, 2) := by decide +kernel
theorem dX12_plain_97 : decode cX12_plain 97 = .ok (.invokevirtual 347, 3) := by decide +kernel
theorem dX12_plain_100 : decode cX12_plain 100 = .ok (.ifCond .eq 63, 3) := by decide +kernel
theorem dX12_plain_103 : decode cX12_plain 103 = .ok (.aload_n 0, 1) := by decide +kernel
theorem dX12_plain_104 : decode cX12_plain 104 = .ok (.getfield 176, 3) := by decide +kernel
theorem dX12_plain_107 : decode cX12_plain 107 = .ok (.ifCond .ne 8, 3) := by decide +kernel
theorem dX12_plain_110 : decode cX12_plain 110 = .ok (.aload_n 0, 1) := by decide +kernel
theorem dX12_plain_111 : decode cX12_plain 111 = .ok (.iconst 1, 1) := by decide +kernel
theorem dX12_plain_112 : decode cX12_plain 112 = .ok (.invokevirtual 343, 3) := by decide +kernel
theorem dX12_plain_115 : decode cX12_plain 115 = .ok (.aload_n 0, 1) := by decide +kernel
theorem dX12_plain_116 : decode cX12_plain 116 = .ok (.dup, 1) := by decide +kernel
theorem dX12_plain_117 : decode cX12_plain 117 = .ok (.getfield 334, 3) := by decide +kernel
theorem dX12_plain_120 : decode cX12_plain 120 = .ok (.iconst 1, 1) := by decide +kernel
theorem dX12_plain_121 : decode cX12_plain 121 = .ok (.iadd, 1) := by decide +kernel
theorem dX12_plain_122 : decode cX12_plain 122 = .ok (.putfield 334, 3) := by decide +kernel
theorem dX12_plain_125 : decode cX12_plain 125 = .ok (.aload_n 0, 1) := by decide +kernel
theorem dX12_plain_126 : decode cX12_plain 126 = .ok (.invokevirtual 457, 3) := by decide +kernel
theorem dX12_plain_129 : decode cX12_plain 129 = .ok (.aload_n 0, 1) := by decide +kernel
theorem dX12_plain_130 : decode cX12_plain 130 = .ok (.bipush 18, 2) := by decide +kernel
theorem dX12_plain_132 : decode cX12_plain 132 = .ok (.iconst 0, 1) := by decide +kernel
theorem dX12_plain_133 : decode cX12_plain 133 = .ok (.iconst 0, 1) := by decide +kernel
theorem dX12_plain_134 : decode cX12_plain 134 = .ok (.invokevirtual 431, 3) := by decide +kernel
theorem dX12_plain_137 : decode cX12_plain 137 = .ok (.istore_n 1, 1) := by decide +kernel
theorem dX12_plain_138 : decode cX12_plain 138 = .ok (.aload_n 0, 1) := by decide +kernel
theorem dX12_plain_139 : decode cX12_plain 139 = .ok (.bipush 10, 2) := by decide +kernel
theorem dX12_plain_141 : decode cX12_plain 141 = .ok (.iconst 0, 1) := by decide +kernel
theorem dX12_plain_142 : decode cX12_plain 142 = .ok (.invokevirtual 460, 3) := by decide +kernel
theorem dX12_plain_145 : decode cX12_plain 145 = .ok (.istore_n 1, 1) := by decide +kernel
theorem dX12_plain_146 : decode cX12_plain 146 = .ok (.aload_n 0, 1) := by decide +kernel
theorem dX12_plain_147 : decode cX12_plain 147 = .ok (.aload_n 0, 1) := by decide +kernel
theorem dX12_plain_148 : decode cX12_plain 148 = .ok (.getfield 146, 3) := by decide +kernel
theorem dX12_plain_151 : decode cX12_plain 151 = .ok (.iconst (-1), 1) := by decide +kernel
theorem dX12_plain_152 : decode cX12_plain 152 = .ok (.invokevirtual 479, 3) := by decide +kernel
theorem dX12_plain_155 : decode cX12_plain 155 = .ok (.aload_n 0, 1) := by decide +kernel
theorem dX12_plain_156 : decode cX12_plain 156 = .ok (.iconst (-1), 1) := by decide +kernel
theorem dX12_plain_157 : decode cX12_plain 157 = .ok (.putfield 425, 3) := by decide +kernel
theorem dX12_plain_160 : decode cX12_plain 160 = .ok (.goto 23, 3) := by decide +kernel
theorem dX12_plain_163 : decode cX12_plain 163 = .ok (.aload_n 0, 1) := by decide +kernel
theorem dX12_plain_164 : decode cX12_plain 164 = .ok (.iconst 1, 1) := by decide +kernel
theorem dX12_plain_165 : decode cX12_plain 165 = .ok (.invokevirtual 347, 3) := by decide +kernel
theorem dX12_plain_168 : decode cX12_plain 168 = .ok (.ifCond .eq 11, 3) := by decide +kernel
theorem dX12_plain_171 : decode cX12_plain 171 = .ok (.aload_n 0, 1) := by decide +kernel
theorem dX12_plain_172 : decode cX12_plain 172 = .ok (.iconst (-1), 1) := by decide +kernel
theorem dX12_plain_173 : decode cX12_plain 173 = .ok (.invokevirtual 483, 3) := by decide +kernel
theorem dX12_plain_176 : decode cX12_plain 176 = .ok (.goto 7, 3) := by decide +kernel
theorem dX12_plain_179 : decode cX12_plain 179 = .ok (.aload_n 0, 1) := by decide +kernel
theorem dX12_plain_180 : decode cX12_plain 180 = .ok (.invokevirtual 486, 3) := by decide +kernel
theorem dX12_plain_183 : decode cX12_plain 183 = .ok (.return_, 1) := by decide +kernel
theorem dX12_sets_0 : decode cX12_sets 0 = .ok (.aload_n 0, 1) := by decide +kernel
theorem dX12_sets_1 : decode cX12_sets 1 = .ok (.invokevirtual 387, 3) := by decide +kernel
theorem dX12_sets_4 : decode cX12_sets 4 = .ok (.ifCond .ne 9, 3) := by decide +kernel
theorem dX12_sets_7 : decode cX12_sets 7 = .ok (.aload_n 0, 1) := by decide +kernel
theorem dX12_sets_8 : decode cX12_sets 8 = .ok (.iconst 1, 1) := by decide +kernel
theorem dX12_sets_9 : decode cX12_sets 9 = .ok (.invokevirtual 343, 3) := by decide +kernel
theorem dX12_sets_12 : decode cX12_sets 12 = .ok (.return_, 1) := by decide +kernel
theorem dX12_sets_13 : decode cX12_sets 13 = .ok (.aload_n 0, 1) := by decide +kernel
theorem dX12_sets_14 : decode cX12_sets 14 = .ok (.invokevirtual 470, 3) := by decide +kernel
theorem dX12_sets_17 : decode cX12_sets 17 = .ok (.istore_n 1, 1) := by decide +kernel
theorem dX12_sets_18 : decode cX12_sets 18 = .ok (.aload_n 0, 1) := by decide +kernel
theorem dX12_sets_19 : decode cX12_sets 19 = .ok (.bipush 61, 2) := by decide +kernel
theorem dX12_sets_21 : decode cX12_sets 21 = .ok (.invokevirtual 394, 3) := by decide +kernel
theorem dX12_sets_24 : decode cX12_sets 24 = .ok (.aload_n 0, 1) := by decide +kernel
theorem dX12_sets_25 : decode cX12_sets 25 = .ok (.iconst 1, 1) := by decide +kernel
theorem dX12_sets_26 : decode cX12_sets 26 = .ok (.invokevirtual 347, 3) := by decide +kernel
theorem dX12_sets_29 : decode cX12_sets 29 = .ok (.ifCond .eq 9, 3) := by decide +kernel
theorem dX12_sets_32 : decode cX12_sets 32 = .ok (.aload_n 0, 1) := by decide +kernel
theorem dX12_sets_33 : decode cX12_sets 33 = .ok (.iload_n 1, 1) := by decide +kernel
theorem dX12_sets_34 : decode cX12_sets 34 = .ok (.invokevirtual 483, 3) := by decide +kernel
theorem dX12_sets_37 : decode cX12_sets 37 = .ok (.return_, 1) := by decide +kernel
theorem dX12_sets_38 : decode cX12_sets 38 = .ok (.aload_n 0, 1) := by decide +kernel
theorem dX12_sets_39 : decode cX12_sets 39 = .ok (.invokevirtual 457, 3) := by decide +kernel
theorem dX12_sets_42 : decode cX12_sets 42 = .ok (.aload_n 0, 1) := by decide +kernel
theorem dX12_sets_43 : decode cX12_sets 43 = .ok (.bipush 13, 2) := by decide +kernel
theorem dX12_sets_45 : decode cX12_sets 45 = .ok (.iload_n 1, 1) := by decide +kernel
theorem dX12_sets_46 : decode cX12_sets 46 = .ok (.iconst 0, 1) := by decide +kernel
theorem dX12_sets_47 : decode cX12_sets 47 = .ok (.invokevirtual 431, 3) := by decide +kernel
theorem dX12_sets_50 : decode cX12_sets 50 = .ok (.istore_n 2, 1) := by decide +kernel
theorem dX12_sets_51 : decode cX12_sets 51 = .ok (.aload_n 0, 1) := by decide +kernel
theorem dX12_sets_52 : decode cX12_sets 52 = .ok (.iconst 2, 1) := by decide +kernel
theorem dX12_sets_53 : decode cX12_sets 53 = .ok (.iload_n 1, 1) := by decide +kernel
theorem dX12_sets_54 : decode cX12_sets 54 = .ok (.invokevirtual 460, 3) := by decide +kernel
theorem dX12_sets_57 : decode cX12_sets 57 = .ok (.istore_n 2, 1) := by decide +kernel
theorem dX12_sets_58 : decode cX12_sets 58 = .ok (.return_, 1) := by decide +kernel
theorem dX12_wait_0 : decode cX12_wait 0 = .ok (.aload_n 0, 1) := by decide +kernel
theorem dX12_wait_1 : decode cX12_wait 1 = .ok (.getfield 58, 3) := by decide +kernel
theorem dX12_wait_4 : decode cX12_wait 4 = .ok (.aload_n 0, 1) := by decide +kernel
theorem dX12_wait_5 : decode cX12_wait 5 = .ok (.getfield 391, 3) := by decide +kernel
theorem dX12_wait_8 : decode cX12_wait 8 = .ok (.iaload, 1) := by decide +kernel
theorem dX12_wait_9 : decode cX12_wait 9 = .ok (.bipush 16, 2) := by decide +kernel
theorem dX12_wait_11 : decode cX12_wait 11 = .ok (.if_icmp .ne 8, 3) := by decide +kernel
theorem dX12_wait_14 : decode cX12_wait 14 = .ok (.aload_n 0, 1) := by decide +kernel
theorem dX12_wait_15 : decode cX12_wait 15 = .ok (.iconst 5, 1) := by decide +kernel
theorem dX12_wait_16 : decode cX12_wait 16 = .ok (.invokevirtual 343, 3) := by decide +kernel
theorem dX12_wait_19 : decode cX12_wait 19 = .ok (.aload_n 0, 1) := by decide +kernel
theorem dX12_wait_20 : decode cX12_wait 20 = .ok (.dup, 1) := by decide +kernel
theorem dX12_wait_21 : decode cX12_wait 21 = .ok (.getfield 334, 3) := by decide +kernel
theorem dX12_wait_24 : decode cX12_wait 24 = .ok (.iconst 1, 1) := by decide +kernel
theorem dX12_wait_25 : decode cX12_wait 25 = .ok (.iadd, 1) := by decide +kernel
theorem dX12_wait_26 : decode cX12_wait 26 = .ok (.putfield 334, 3) := by decide +kernel
theorem dX12_wait_29 : decode cX12_wait 29 = .ok (.aload_n 0, 1) := by decide +kernel
theorem dX12_wait_30 : decode cX12_wait 30 = .ok (.getfield 58, 3) := by decide +kernel
theorem dX12_wait_33 : decode cX12_wait 33 = .ok (.aload_n 0, 1) := by decide +kernel
theorem dX12_wait_34 : decode cX12_wait 34 = .ok (.getfield 391, 3) := by decide +kernel
theorem dX12_wait_37 : decode cX12_wait 37 = .ok (.iaload, 1) := by decide +kernel
theorem dX12_wait_38 : decode cX12_wait 38 = .ok (.istore_n 2, 1) := by decide +kernel
theorem dX12_wait_39 : decode cX12_wait 39 = .ok (.aload_n 0, 1) := by decide +kernel
theorem dX12_wait_40 : decode cX12_wait 40 = .ok (.getfield 58, 3) := by decide +kernel
theorem dX12_wait_43 : decode cX12_wait 43 = .ok (.aload_n 0, 1) := by decide +kernel
theorem dX12_wait_44 : decode cX12_wait 44 = .ok (.getfield 391, 3) := by decide +kernel
theorem dX12_wait_47 : decode cX12_wait 47 = .ok (.dup2, 1) := by decide +kernel
theorem dX12_wait_48 : decode cX12_wait 48 = .ok (.iaload, 1) := by decide +kernel
theorem dX12_wait_49 : decode cX12_wait 49 = .ok (.iconst 1, 1) := by decide +kernel
theorem dX12_wait_50 : decode cX12_wait 50 = .ok (.iadd, 1) := by decide +kernel
theorem dX12_wait_51 : decode cX12_wait 51 = .ok (.iastore, 1) := by decide +kernel
theorem dX12_wait_52 : decode cX12_wait 52 = .ok (.aload_n 0, 1) := by decide +kernel
theorem dX12_wait_53 : decode cX12_wait 53 = .ok (.bipush 31, 2) := by decide +kernel
theorem dX12_wait_55 : decode cX12_wait 55 = .ok (.iconst 0, 1) := by decide +kernel
theorem dX12_wait_56 : decode cX12_wait 56 = .ok (.iload_n 2, 1) := by decide +kernel
theorem dX12_wait_57 : decode cX12_wait 57 = .ok (.invokevirtual 431, 3) := by decide +kernel
theorem dX12_wait_60 : decode cX12_wait 60 = .ok (.istore_n 3, 1) := by decide +kernel
theorem dX12_wait_61 : decode cX12_wait 61 = .ok (.aload_n 0, 1) := by decide +kernel
theorem dX12_wait_62 : decode cX12_wait 62 = .ok (.invokevirtual 489, 3) := by decide +kernel
theorem dX12_wait_65 : decode cX12_wait 65 = .ok (.aload_n 0, 1) := by decide +kernel
theorem dX12_wait_66 : decode cX12_wait 66 = .ok (.bipush 30, 2) := by decide +kernel
theorem dX12_wait_68 : decode cX12_wait 68 = .ok (.iload_n 1, 1) := by decide +kernel
theorem dX12_wait_69 : decode cX12_wait 69 = .ok (.iload_n 2, 1) := by decide +kernel
theorem dX12_wait_70 : decode cX12_wait 70 = .ok (.invokevirtual 431, 3) := by decide +kernel
theorem dX12_wait_73 : decode cX12_wait 73 = .ok (.istore 4, 2) := by decide +kernel
theorem dX12_wait_75 : decode cX12_wait 75 = .ok (.aload_n 0, 1) := by decide +kernel
theorem dX12_wait_76 : decode cX12_wait 76 = .ok (.getfield 67, 3) := by decide +kernel
theorem dX12_wait_79 : decode cX12_wait 79 = .ok (.iload_n 3, 1) := by decide +kernel
theorem dX12_wait_80 : decode cX12_wait 80 = .ok (.aload_n 0, 1) := by decide +kernel
theorem dX12_wait_81 : decode cX12_wait 81 = .ok (.getfield 362, 3) := by decide +kernel
theorem dX12_wait_84 : decode cX12_wait 84 = .ok (.iastore, 1) := by decide +kernel
theorem dX12_wait_85 : decode cX12_wait 85 = .ok (.aload_n 0, 1) := by decide +kernel
theorem dX12_wait_86 : decode cX12_wait 86 = .ok (.getfield 70, 3) := by decide +kernel
theorem dX12_wait_89 : decode cX12_wait 89 = .ok (.iload 4, 2) := by decide +kernel
theorem dX12_wait_91 : decode cX12_wait 91 = .ok (.iload_n 2, 1) := by decide +kernel
theorem dX12_wait_92 : decode cX12_wait 92 = .ok (.iastore, 1) := by decide +kernel
theorem dX12_wait_93 : decode cX12_wait 93 = .ok (.aload_n 0, 1) := by decide +kernel
theorem dX12_wait_94 : decode cX12_wait 94 = .ok (.iconst 3, 1) := by decide +kernel
theorem dX12_wait_95 : decode cX12_wait 95 = .ok (.iload_n 2, 1) := by decide +kernel
theorem dX12_wait_96 : decode cX12_wait 96 = .ok (.invokevirtual 460, 3) := by decide +kernel
theorem dX12_wait_99 : decode cX12_wait 99 = .ok (.istore 5, 2) := by decide +kernel
theorem dX12_wait_101 : decode cX12_wait 101 = .ok (.aload_n 0, 1) := by decide +kernel
theorem dX12_wait_102 : decode cX12_wait 102 = .ok (.getfield 337, 3) := by decide +kernel
theorem dX12_wait_105 : decode cX12_wait 105 = .ok (.ifCond .ne 19, 3) := by decide +kernel
theorem dX12_wait_108 : decode cX12_wait 108 = .ok (.aload_n 0, 1) := by decide +kernel
theorem dX12_wait_109 : decode cX12_wait 109 = .ok (.getfield 100, 3) := by decide +kernel
theorem dX12_wait_112 : decode cX12_wait 112 = .ok (.bipush 17, 2) := by decide +kernel
theorem dX12_wait_114 : decode cX12_wait 114 = .ok (.aload_n 0, 1) := by decide +kernel
theorem dX12_wait_115 : decode cX12_wait 115 = .ok (.getfield 391, 3) := by decide +kernel
theorem dX12_wait_118 : decode cX12_wait 118 = .ok (.imul, 1) := by decide +kernel
theorem dX12_wait_119 : decode cX12_wait 119 = .ok (.iload_n 2, 1) := by decide +kernel
theorem dX12_wait_120 : decode cX12_wait 120 = .ok (.iadd, 1) := by decide +kernel
theorem dX12_wait_121 : decode cX12_wait 121 = .ok (.iload 5, 2) := by decide +kernel
theorem dX12_wait_123 : decode cX12_wait 123 = .ok (.iastore, 1) := by decide +kernel
theorem dX12_wait_124 : decode cX12_wait 124 = .ok (.iload_n 1, 1) := by decide +kernel
theorem dX12_wait_125 : decode cX12_wait 125 = .ok (.ifCond .lt 11, 3) := by decide +kernel
theorem dX12_wait_128 : decode cX12_wait 128 = .ok (.aload_n 0, 1) := by decide +kernel
theorem dX12_wait_129 : decode cX12_wait 129 = .ok (.iconst 2, 1) := by decide +kernel
theorem dX12_wait_130 : decode cX12_wait 130 = .ok (.iload_n 1, 1) := by decide +kernel
theorem dX12_wait_131 : decode cX12_wait 131 = .ok (.invokevirtual 460, 3) := by decide +kernel
theorem dX12_wait_134 : decode cX12_wait 134 = .ok (.istore 4, 2) := by decide +kernel
theorem dX12_wait_136 : decode cX12_wait 136 = .ok (.return_, 1) := by decide +kernel
theorem dX12_waitTree_0 : decode cX12_waitTree 0 = .ok (.aload_n 0, 1) := by decide +kernel
theorem dX12_waitTree_1 : decode cX12_waitTree 1 = .ok (.aload_n 0, 1) := by decide +kernel
theorem dX12_waitTree_2 : decode cX12_waitTree 2 = .ok (.invokevirtual 492, 3) := by decide +kernel
theorem dX12_waitTree_5 : decode cX12_waitTree 5 = .ok (.invokevirtual 438, 3) := by decide +kernel
theorem dX12_waitTree_8 : decode cX12_waitTree 8 = .ok (.aload_n 0, 1) := by decide +kernel
theorem dX12_waitTree_9 : decode cX12_waitTree 9 = .ok (.getfield 337, 3) := by decide +kernel
theorem dX12_waitTree_12 : decode cX12_waitTree 12 = .ok (.ifCond .le 4, 3) := by decide +kernel
theorem dX12_waitTree_15 : decode cX12_waitTree 15 = .ok (.return_, 1) := by decide +kernel
theorem dX12_waitTree_16 : decode cX12_waitTree 16 = .ok (.aload_n 0, 1) := by decide +kernel
theorem dX12_waitTree_17 : decode cX12_waitTree 17 = .ok (.iconst 1, 1) := by decide +kernel
theorem dX12_waitTree_18 : decode cX12_waitTree 18 = .ok (.iconst 0, 1) := by decide +kernel
theorem dX12_waitTree_19 : decode cX12_waitTree 19 = .ok (.iconst 0, 1) := by decide +kernel
theorem dX12_waitTree_20 : decode cX12_waitTree 20 = .ok (.invokevirtual 431, 3) := by decide +kernel
theorem dX12_waitTree_23 : decode cX12_waitTree 23 = .ok (.istore_n 1, 1) := by decide +kernel
theorem dX12_waitTree_24 : decode cX12_waitTree 24 = .ok (.aload_n 0, 1) := by decide +kernel
theorem dX12_waitTree_25 : decode cX12_waitTree 25 = .ok (.bipush 13, 2) := by decide +kernel
theorem dX12_waitTree_27 : decode cX12_waitTree 27 = .ok (.invokevirtual 350, 3) := by decide +kernel
theorem dX12_waitTree_30 : decode cX12_waitTree 30 = .ok (.ifCond .eq 21, 3) := by decide +kernel
theorem dX12_waitTree_33 : decode cX12_waitTree 33 = .ok (.aload_n 0, 1) := by decide +kernel
theorem dX12_waitTree_34 : decode cX12_waitTree 34 = .ok (.bipush 24, 2) := by decide +kernel
theorem dX12_waitTree_36 : decode cX12_waitTree 36 = .ok (.aload_n 0, 1) := by decide +kernel
theorem dX12_waitTree_37 : decode cX12_waitTree 37 = .ok (.iconst 0, 1) := by decide +kernel
theorem dX12_waitTree_38 : decode cX12_waitTree 38 = .ok (.bipush 7, 2) := by decide +kernel
theorem dX12_waitTree_40 : decode cX12_waitTree 40 = .ok (.invokevirtual 473, 3) := by decide +kernel
theorem dX12_waitTree_43 : decode cX12_waitTree 43 = .ok (.iconst 0, 1) := by decide +kernel
theorem dX12_waitTree_44 : decode cX12_waitTree 44 = .ok (.invokevirtual 431, 3) := by decide +kernel
theorem dX12_waitTree_47 : decode cX12_waitTree 47 = .ok (.istore_n 1, 1) := by decide +kernel
theorem dX12_waitTree_48 : decode cX12_waitTree 48 = .ok (.goto 208, 3) := by decide +kernel
theorem dX12_waitTree_51 : decode cX12_waitTree 51 = .ok (.aload_n 0, 1) := by decide +kernel
theorem dX12_waitTree_52 : decode cX12_waitTree 52 = .ok (.bipush 14, 2) := by decide +kernel
theorem dX12_waitTree_54 : decode cX12_waitTree 54 = .ok (.invokevirtual 350, 3) := by decide +kernel
theorem dX12_waitTree_57 : decode cX12_waitTree 57 = .ok (.ifCond .eq 19, 3) := by decide +kernel
theorem dX12_waitTree_60 : decode cX12_waitTree 60 = .ok (.aload_n 0, 1) := by decide +kernel
theorem dX12_waitTree_61 : decode cX12_waitTree 61 = .ok (.invokevirtual 457, 3) := by decide +kernel
theorem dX12_waitTree_64 : decode cX12_waitTree 64 = .ok (.aload_n 0, 1) := by decide +kernel
theorem dX12_waitTree_65 : decode cX12_waitTree 65 = .ok (.bipush 25, 2) := by decide +kernel
theorem dX12_waitTree_67 : decode cX12_waitTree 67 = .ok (.iconst 0, 1) := by decide +kernel
theorem dX12_waitTree_68 : decode cX12_waitTree 68 = .ok (.iconst 0, 1) := by decide +kernel
theorem dX12_waitTree_69 : decode cX12_waitTree 69 = .ok (.invokevirtual 431, 3) := by decide +kernel
theorem dX12_waitTree_72 : decode cX12_waitTree 72 = .ok (.istore_n 1, 1) := by decide +kernel
theorem dX12_waitTree_73 : decode cX12_waitTree 73 = .ok (.goto 183, 3) := by decide +kernel
theorem dX12_waitTree_76 : decode cX12_waitTree 76 = .ok (.aload_n 0, 1) := by decide +kernel
theorem dX12_waitTree_77 : decode cX12_waitTree 77 = .ok (.bipush 15, 2) := by decide +kernel
theorem dX12_waitTree_79 : decode cX12_waitTree 79 = .ok (.invokevirtual 350, 3) := by decide +kernel
theorem dX12_waitTree_82 : decode cX12_waitTree 82 = .ok (.ifCond .eq 15, 3) := by decide +kernel
theorem dX12_waitTree_85 : decode cX12_waitTree 85 = .ok (.aload_n 0, 1) := by decide +kernel
theorem dX12_waitTree_86 : decode cX12_waitTree 86 = .ok (.bipush 26, 2) := by decide +kernel
theorem dX12_waitTree_88 : decode cX12_waitTree 88 = .ok (.iconst 0, 1) := by decide +kernel
theorem dX12_waitTree_89 : decode cX12_waitTree 89 = .ok (.iconst 0, 1) := by decide +kernel
theorem dX12_waitTree_90 : decode cX12_waitTree 90 = .ok (.invokevirtual 431, 3) := by decide +kernel
theorem dX12_waitTree_93 : decode cX12_waitTree 93 = .ok (.istore_n 1, 1) := by decide +kernel
theorem dX12_waitTree_94 : decode cX12_waitTree 94 = .ok (.goto 162, 3) := by decide +kernel
theorem dX12_waitTree_97 : decode cX12_waitTree 97 = .ok (.aload_n 0, 1) := by decide +kernel
theorem dX12_waitTree_98 : decode cX12_waitTree 98 = .ok (.bipush 16, 2) := by decide +kernel
theorem dX12_waitTree_100 : decode cX12_waitTree 100 = .ok (.invokevirtual 350, 3) := by decide +kernel
theorem dX12_waitTree_103 : decode cX12_waitTree 103 = .ok (.ifCond .eq 10, 3) := by decide +kernel
theorem dX12_waitTree_106 : decode cX12_waitTree 106 = .ok (.aload_n 0, 1) := by decide +kernel
theorem dX12_waitTree_107 : decode cX12_waitTree 107 = .ok (.invokevirtual 495, 3) := by decide +kernel
theorem dX12_waitTree_110 : decode cX12_waitTree 110 = .ok (.goto 146, 3) := by decide +kernel
theorem dX12_waitTree_113 : decode cX12_waitTree 113 = .ok (.aload_n 0, 1) := by decide +kernel
theorem dX12_waitTree_114 : decode cX12_waitTree 114 = .ok (.bipush 19, 2) := by decide +kernel
theorem dX12_waitTree_116 : decode cX12_waitTree 116 = .ok (.invokevirtual 350, 3) := by decide +kernel
theorem dX12_waitTree_119 : decode cX12_waitTree 119 = .ok (.ifCond .eq 32, 3) := by decide +kernel
theorem dX12_waitTree_122 : decode cX12_waitTree 122 = .ok (.aload_n 0, 1) := by decide +kernel
theorem dX12_waitTree_123 : decode cX12_waitTree 123 = .ok (.invokevirtual 457, 3) := by decide +kernel
theorem dX12_waitTree_126 : decode cX12_waitTree 126 = .ok (.aload_n 0, 1) := by decide +kernel
theorem dX12_waitTree_127 : decode cX12_waitTree 127 = .ok (.bipush 28, 2) := by decide +kernel
theorem dX12_waitTree_129 : decode cX12_waitTree 129 = .ok (.iconst 2, 1) := by decide +kernel
theorem dX12_waitTree_130 : decode cX12_waitTree 130 = .ok (.iconst 0, 1) := by decide +kernel
theorem dX12_waitTree_131 : decode cX12_waitTree 131 = .ok (.invokevirtual 431, 3) := by decide +kernel
theorem dX12_waitTree_134 : decode cX12_waitTree 134 = .ok (.istore_n 1, 1) := by decide +kernel
theorem dX12_waitTree_135 : decode cX12_waitTree 135 = .ok (.aload_n 0, 1) := by decide +kernel
theorem dX12_waitTree_136 : decode cX12_waitTree 136 = .ok (.invokevirtual 489, 3) := by decide +kernel
theorem dX12_waitTree_139 : decode cX12_waitTree 139 = .ok (.aload_n 0, 1) := by decide +kernel
theorem dX12_waitTree_140 : decode cX12_waitTree 140 = .ok (.bipush 29, 2) := by decide +kernel
theorem dX12_waitTree_142 : decode cX12_waitTree 142 = .ok (.iconst 2, 1) := by decide +kernel
theorem dX12_waitTree_143 : decode cX12_waitTree 143 = .ok (.iconst 0, 1) := by decide +kernel
theorem dX12_waitTree_144 : decode cX12_waitTree 144 = .ok (.invokevirtual 431, 3) := by decide +kernel
theorem dX12_waitTree_147 : decode cX12_waitTree 147 = .ok (.istore_n 1, 1) := by decide +kernel
theorem dX12_waitTree_148 : decode cX12_waitTree 148 = .ok (.goto 108, 3) := by decide +kernel
theorem dX12_waitTree_151 : decode cX12_waitTree 151 = .ok (.aload_n 0, 1) := by decide +kernel
theorem dX12_waitTree_152 : decode cX12_waitTree 152 = .ok (.bipush 17, 2) := by decide +kernel
theorem dX12_waitTree_154 : decode cX12_waitTree 154 = .ok (.invokevirtual 350, 3) := by decide +kernel
theorem dX12_waitTree_157 : decode cX12_waitTree 157 = .ok (.istore_n 2, 1) := by decide +kernel
theorem dX12_waitTree_158 : decode cX12_waitTree 158 = .ok (.iload_n 2, 1) := by decide +kernel
theorem dX12_waitTree_159 : decode cX12_waitTree 159 = .ok (.ifCond .ne 9, 3) := by decide +kernel
theorem dX12_waitTree_162 : decode cX12_waitTree 162 = .ok (.aload_n 0, 1) := by decide +kernel
theorem dX12_waitTree_163 : decode cX12_waitTree 163 = .ok (.bipush 18, 2) := by decide +kernel
theorem dX12_waitTree_165 : decode cX12_waitTree 165 = .ok (.invokevirtual 498, 3) := by decide +kernel
theorem dX12_waitTree_168 : decode cX12_waitTree 168 = .ok (.aload_n 0, 1) := by decide +kernel
theorem dX12_waitTree_169 : decode cX12_waitTree 169 = .ok (.bipush 28, 2) := by decide +kernel
theorem dX12_waitTree_171 : decode cX12_waitTree 171 = .ok (.iload_n 2, 1) := by decide +kernel
theorem dX12_waitTree_172 : decode cX12_waitTree 172 = .ok (.ifCond .eq 7, 3) := by decide +kernel
theorem dX12_waitTree_175 : decode cX12_waitTree 175 = .ok (.iconst 0, 1) := by decide +kernel
theorem dX12_waitTree_176 : decode cX12_waitTree 176 = .ok (.goto 4, 3) := by decide +kernel
theorem dX12_waitTree_179 : decode cX12_waitTree 179 = .ok (.iconst 1, 1) := by decide +kernel
theorem dX12_waitTree_180 : decode cX12_waitTree 180 = .ok (.iconst 0, 1) := by decide +kernel
theorem dX12_waitTree_181 : decode cX12_waitTree 181 = .ok (.invokevirtual 431, 3) := by decide +kernel
theorem dX12_waitTree_184 : decode cX12_waitTree 184 = .ok (.istore_n 1, 1) := by decide +kernel
theorem dX12_waitTree_185 : decode cX12_waitTree 185 = .ok (.aload_n 0, 1) := by decide +kernel
theorem dX12_waitTree_186 : decode cX12_waitTree 186 = .ok (.bipush 40, 2) := by decide +kernel
theorem dX12_waitTree_188 : decode cX12_waitTree 188 = .ok (.invokevirtual 394, 3) := by decide +kernel
theorem dX12_waitTree_191 : decode cX12_waitTree 191 = .ok (.aload_n 0, 1) := by decide +kernel
theorem dX12_waitTree_192 : decode cX12_waitTree 192 = .ok (.invokevirtual 489, 3) := by decide +kernel
theorem dX12_waitTree_195 : decode cX12_waitTree 195 = .ok (.iconst 1, 1) := by decide +kernel
theorem dX12_waitTree_196 : decode cX12_waitTree 196 = .ok (.istore_n 3, 1) := by decide +kernel
theorem dX12_waitTree_197 : decode cX12_waitTree 197 = .ok (.aload_n 0, 1) := by decide +kernel
theorem dX12_waitTree_198 : decode cX12_waitTree 198 = .ok (.bipush 44, 2) := by decide +kernel
theorem dX12_waitTree_200 : decode cX12_waitTree 200 = .ok (.invokevirtual 400, 3) := by decide +kernel
theorem dX12_waitTree_203 : decode cX12_waitTree 203 = .ok (.ifCond .eq 30, 3) := by decide +kernel
theorem dX12_waitTree_206 : decode cX12_waitTree 206 = .ok (.iload_n 3, 1) := by decide +kernel
theorem dX12_waitTree_207 : decode cX12_waitTree 207 = .ok (.iconst 4, 1) := by decide +kernel
theorem dX12_waitTree_208 : decode cX12_waitTree 208 = .ok (.if_icmp .ne 15, 3) := by decide +kernel
theorem dX12_waitTree_211 : decode cX12_waitTree 211 = .ok (.aload_n 0, 1) := by decide +kernel
theorem dX12_waitTree_212 : decode cX12_waitTree 212 = .ok (.invokevirtual 492, 3) := by decide +kernel
theorem dX12_waitTree_215 : decode cX12_waitTree 215 = .ok (.ifCond .eq 8, 3) := by decide +kernel
theorem dX12_waitTree_218 : decode cX12_waitTree 218 = .ok (.aload_n 0, 1) := by decide +kernel
theorem dX12_waitTree_219 : decode cX12_waitTree 219 = .ok (.iconst 5, 1) := by decide +kernel
theorem dX12_waitTree_220 : decode cX12_waitTree 220 = .ok (.invokevirtual 343, 3) := by decide +kernel
theorem dX12_waitTree_223 : decode cX12_waitTree 223 = .ok (.aload_n 0, 1) := by decide +kernel
theorem dX12_waitTree_224 : decode cX12_waitTree 224 = .ok (.invokevirtual 489, 3) := by decide +kernel
theorem dX12_waitTree_227 : decode cX12_waitTree 227 = .ok (.iinc 3 1, 3) := by decide +kernel
theorem dX12_waitTree_230 : decode cX12_waitTree 230 = .ok (.goto (-33), 3) := by decide +kernel
theorem dX12_waitTree_233 : decode cX12_waitTree 233 = .ok (.aload_n 0, 1) := by decide +kernel
theorem dX12_waitTree_234 : decode cX12_waitTree 234 = .ok (.bipush 41, 2) := by decide +kernel
theorem dX12_waitTree_236 : decode cX12_waitTree 236 = .ok (.invokevirtual 394, 3) := by decide +kernel
theorem dX12_waitTree_239 : decode cX12_waitTree 239 = .ok (.aload_n 0, 1) := by decide +kernel
theorem dX12_waitTree_240 : decode cX12_waitTree 240 = .ok (.bipush 29, 2) := by decide +kernel
theorem dX12_waitTree_242 : decode cX12_waitTree 242 = .ok (.iload_n 2, 1) := by decide +kernel
theorem dX12_waitTree_243 : decode cX12_waitTree 243 = .ok (.ifCond .eq 7, 3) := by decide +kernel
theorem dX12_waitTree_246 : decode cX12_waitTree 246 = .ok (.iconst 0, 1) := by decide +kernel
theorem dX12_waitTree_247 : decode cX12_waitTree 247 = .ok (.goto 4, 3) := by decide +kernel
theorem dX12_waitTree_250 : decode cX12_waitTree 250 = .ok (.iconst 1, 1) := by decide +kernel
theorem dX12_waitTree_251 : decode cX12_waitTree 251 = .ok (.iconst 0, 1) := by decide +kernel
theorem dX12_waitTree_252 : decode cX12_waitTree 252 = .ok (.invokevirtual 431, 3) := by decide +kernel
theorem dX12_waitTree_255 : decode cX12_waitTree 255 = .ok (.istore_n 1, 1) := by decide +kernel
theorem dX12_waitTree_256 : decode cX12_waitTree 256 = .ok (.aload_n 0, 1) := by decide +kernel
theorem dX12_waitTree_257 : decode cX12_waitTree 257 = .ok (.dup, 1) := by decide +kernel
theorem dX12_waitTree_258 : decode cX12_waitTree 258 = .ok (.getfield 418, 3) := by decide +kernel
theorem dX12_waitTree_261 : decode cX12_waitTree 261 = .ok (.iconst 1, 1) := by decide +kernel
theorem dX12_waitTree_262 : decode cX12_waitTree 262 = .ok (.isub, 1) := by decide +kernel
theorem dX12_waitTree_263 : decode cX12_waitTree 263 = .ok (.putfield 418, 3) := by decide +kernel
theorem dX12_waitTree_266 : decode cX12_waitTree 266 = .ok (.return_, 1) := by decide +kernel
def wp_waitTree_256 (r_waitTree : mS → (mS → Prop) → Prop) (K : mS → Prop) (S : mS) : Prop := ∀ z28 : Int32, z28 = (S.1 18) - 1 → ∀ S29 : mS, S29 = sZ S 18 z28 → K S29
def wp_waitTree_251 (r_waitTree : mS → (mS → Prop) → Prop) (K : mS → Prop) (y1 : Int32) (y2 : Int32) (S : mS) : Prop := wp_emit y1 y2 0 S (fun (S44 : mS) (r44 : Int32) => wp_waitTree_256 r_waitTree K S44)
def wp_waitTree_223 (r_waitTree : mS → (mS → Prop) → Prop) (K : mS → Prop) (k197 : Int32 × Int32 × mS → Prop) (x2 : Int32) (x3 : Int32) (S : mS) : Prop := r_waitTree S (fun (S42 : mS) => ∀ z43 : Int32, z43 = x3 + 1 → k197 (x2, z43, S42))
def wp_waitTree_197 (r_waitTree : mS → (mS → Prop) → Prop) (K : mS → Prop) (k197 : Int32 × Int32 × mS → Prop) (x2 : Int32) (x3 : Int32) (S : mS) : Prop := wp_hasSign 44 S (fun (S34 : mS) (r34 : Int32) => ((r34 = 0 → wp_takeSign 41 S34 (fun (S36 : mS) => ((x2 = 0 → wp_waitTree_251 r_waitTree K 29 1 S36) ∧ (¬ x2 = 0 → wp_waitTree_251 r_waitTree K 29 0 S36)))) ∧ (¬ r34 = 0 → ((¬ x3 = 4 → wp_waitTree_223 r_waitTree K k197 x2 x3 S34) ∧ (x3 = 4 → wp_isWait S34 (fun (S39 : mS) (r39 : Int32) => ((r39 = 0 → wp_waitTree_223 r_waitTree K k197 x2 x3 S39) ∧ (¬ r39 = 0 → wp_wrong 5 S39 (fun (S41 : mS) => wp_waitTree_223 r_waitTree K k197 x2 x3 S41)))))))))
def ls_waitTree_197 (r_waitTree : mS → (mS → Prop) → Prop) (K : mS → Prop) (k197 : Int32 × Int32 × mS → Prop) (u : Int32 × Int32 × mS) : Prop := wp_waitTree_197 r_waitTree K k197 u.1 u.2.1 u.2.2
def wp_waitTree_180 (r_waitTree : mS → (mS → Prop) → Prop) (K : mS → Prop) (x2 : Int32) (y1 : Int32) (y2 : Int32) (S : mS) : Prop := wp_emit y1 y2 0 S (fun (S31 : mS) (r31 : Int32) => wp_takeSign 40 S31 (fun (S32 : mS) => r_waitTree S32 (fun (S33 : mS) => (∃ n9, it (ls_waitTree_197 r_waitTree K) n9 (x2, 1, S33)))))
def wp_waitTree_168 (r_waitTree : mS → (mS → Prop) → Prop) (K : mS → Prop) (x2 : Int32) (S : mS) : Prop := ((x2 = 0 → wp_waitTree_180 r_waitTree K x2 28 1 S) ∧ (¬ x2 = 0 → wp_waitTree_180 r_waitTree K x2 28 0 S))
def wp_waitTree (r_waitTree : mS → (mS → Prop) → Prop) (S : mS) (K : mS → Prop) : Prop := wp_isWait S (fun (S1 : mS) (r1 : Int32) => wp_within r1 S1 (fun (S2 : mS) => (((S2.1 4) ≤ 0 → wp_emit 1 0 0 S2 (fun (S4 : mS) (r4 : Int32) => wp_hasWord 13 S4 (fun (S5 : mS) (r5 : Int32) => ((r5 = 0 → wp_hasWord 14 S5 (fun (S7 : mS) (r7 : Int32) => ((r7 = 0 → wp_hasWord 15 S7 (fun (S9 : mS) (r9 : Int32) => ((r9 = 0 → wp_hasWord 16 S9 (fun (S11 : mS) (r11 : Int32) => ((r11 = 0 → wp_hasWord 19 S11 (fun (S13 : mS) (r13 : Int32) => ((r13 = 0 → wp_hasWord 17 S13 (fun (S15 : mS) (r15 : Int32) => ((¬ r15 = 0 → wp_waitTree_168 r_waitTree K r15 S15) ∧ (r15 = 0 → wp_takeWord 18 S15 (fun (S17 : mS) => wp_waitTree_168 r_waitTree K r15 S17))))) ∧ (¬ r13 = 0 → wq_expression S13 (fun (S18 : mS) => wp_emit 28 2 0 S18 (fun (S19 : mS) (r19 : Int32) => r_waitTree S19 (fun (S20 : mS) => wp_emit 29 2 0 S20 (fun (S21 : mS) (r21 : Int32) => wp_waitTree_256 r_waitTree K S21)))))))) ∧ (¬ r11 = 0 → wp_child S11 (fun (S22 : mS) => wp_waitTree_256 r_waitTree K S22))))) ∧ (¬ r9 = 0 → wp_emit 26 0 0 S9 (fun (S23 : mS) (r23 : Int32) => wp_waitTree_256 r_waitTree K S23))))) ∧ (¬ r7 = 0 → wq_expression S7 (fun (S24 : mS) => wp_emit 25 0 0 S24 (fun (S25 : mS) (r25 : Int32) => wp_waitTree_256 r_waitTree K S25)))))) ∧ (¬ r5 = 0 → wp_takeNumber 0 7 S5 (fun (S26 : mS) (r26 : Int32) => wp_emit 24 r26 0 S26 (fun (S27 : mS) (r27 : Int32) => wp_waitTree_256 r_waitTree K S27))))))) ∧ (¬ (S2.1 4) ≤ 0 → K S2))))
theorem cw_X12_isWait {R : Room} {s : State} {args : Array Value} {fr lo : Nat} (hts : ∀ w ∈ tb, w.before args s = true) (h1 : fr + 1 ≤ R.frames) (h2 : 8 + (1 + 11) + lo ≤ R.locals) : CallW R s args RX12 RX12 492 yX12_isWait cX12_isWait 1 (some .boolean) (.code yX12_isWait cX12_isWait 1 (some .boolean) :: tb) (mRm fr lo) 0 0 0 := cwV 0 hts (gd_V wd_1938 wd_1940 sl_X12_isWait wd_15 wd_1941) rfl rfl rfl (by decide +kernel) ⟨h1, h2⟩
theorem cw_X12_takeWord {R : Room} {s : State} {args : Array Value} {fr lo : Nat} (hts : ∀ w ∈ tb, w.before args s = true) (h1 : fr + 1 ≤ R.frames) (h2 : 8 + (2 + 11) + lo ≤ R.locals) : CallW R s args RX12 RX12 498 yX12_takeWord cX12_takeWord 2 none (.code yX12_takeWord cX12_takeWord 2 none :: tb) (mRm fr lo) 0 0 1 := cwV 1 hts (gd_V wd_1946 wd_1948 sl_X12_takeWord wd_15 wd_1949) rfl rfl rfl (by decide +kernel) ⟨h1, h2⟩
theorem cw_X12_waitTree {R : Room} {s : State} {args : Array Value} {fr lo : Nat} (hts : ∀ w ∈ tb, w.before args s = true) (h1 : fr + 1 ≤ R.frames) (h2 : 8 + (4 + 11) + lo ≤ R.locals) : CallW R s args RX12 RX12 489 yX12_waitTree cX12_waitTree 4 none (.code yX12_waitTree cX12_waitTree 4 none :: tb) (mRm fr lo) 0 0 0 := cwV 0 hts (gd_V wd_1934 wd_1936 sl_X12_waitTree wd_15 wd_1937) rfl rfl rfl (by decide +kernel) ⟨h1, h2⟩
theorem cw_X12_child {R : Room} {s : State} {args : Array Value} {fr lo : Nat} (hts : ∀ w ∈ tb, w.before args s = true) (h1 : fr + 1 ≤ R.frames) (h2 : 8 + (4 + 11) + lo ≤ R.locals) : CallW R s args RX12 RX12 495 yX12_child cX12_child 4 none (.code yX12_child cX12_child 4 none :: tb) (mRm fr lo) 0 0 0 := cwV 0 hts (gd_V wd_1942 wd_1944 sl_X12_child wd_15 wd_1945) rfl rfl rfl (by decide +kernel) ⟨h1, h2⟩
theorem cw_X12_takeNumber {R : Room} {s : State} {args : Array Value} {fr lo : Nat} (hts : ∀ w ∈ tb, w.before args s = true) (h1 : fr + 1 ≤ R.frames) (h2 : 8 + (3 + 11) + lo ≤ R.locals) : CallW R s args RX12 RX12 473 yX12_takeNumber cX12_takeNumber 3 (some .int) (.code yX12_takeNumber cX12_takeNumber 3 (some .int) :: tb) (mRm fr lo) 0 0 2 := cwV 2 hts (gd_V wd_1918 wd_1920 sl_X12_takeNumber wd_15 wd_1921) rfl rfl rfl (by decide +kernel) ⟨h1, h2⟩
set_option maxHeartbeats 4000000 in
set_option maxRecDepth 100000 in
theorem co_waitTree (l : Launch) (fr lo F Lo : Nat) (r_waitTree : mS → (mS → Prop) → Prop) (hr_waitTree : ∀ (S : mS) (K : mS → Prop), r_waitTree S K → mMv l yX12_waitTree cX12_waitTree 4 none fr lo (fun E => []) S K) (hF : fr + 1 ≤ F) (hL : lo + 23 ≤ Lo) (hF0 : 71 ≤ F) (hL0 : 1538 ≤ Lo) (S : mS) (K : mS → Prop) (h : wp_waitTree r_waitTree S K) : mMv l yX12_waitTree cX12_waitTree 4 none F Lo (fun E => []) S K := by
  refine mv_ofv (by decide) rfl (fun _ => Nat.le_of_ble_eq_true rfl) ?_
  intro E p e R s m args below meth c A ls Q hRf hRl hX hC hl hret
  have hx := hX.1.1
  have hb := hX.1.2.1
  have hown := hX.1.2.2.2.1
  have hts := hX.1.2.2.2.2
  have cut256 : ∀ (S : mS) (H : Heap) (locs : List Loc) (ls : Array Slot), wp_waitTree_256 r_waitTree K S → mC E A s.heap S H locs → lv_has ls 4 [(0, .ref E.2.1)] → W p l e R s m args below meth c H locs 0 0 Q (F0 m 256 ls []) := by
    intro S H locs ls h hC hl
    unfold wp_waitTree_256 at h
    refine lv_aload_n hx hb dX12_waitTree_256 rfl (lv_at hl 0 rfl) ?_
    refine lv_dup hx hb dX12_waitTree_257 rfl ?_
    refine mv_get (v := .int (S.1 18)) hX hC 68 (Nat.le_of_ble_eq_true rfl) wd_1468 rfl dX12_waitTree_258 ?_
    refine lv_iconst (v := 1) hx hb dX12_waitTree_261 (by decide) ?_
    refine lq_isub hx hb dX12_waitTree_262 h (fun z28 h => ?_)
    refine mq_put (v := z28) hX hC 68 18 (Nat.le_of_ble_eq_true rfl) wd_1468 rfl rfl rfl mz_18 dX12_waitTree_263 h (fun S29 H locs hC h => ?_)
    exact hret _ _ _ _ _ hC h dX12_waitTree_266
  have cut251 : ∀ (y1 : Int32) (y2 : Int32) (S : mS) (H : Heap) (locs : List Loc) (ls : Array Slot), wp_waitTree_251 r_waitTree K y1 y2 S → mC E A s.heap S H locs → lv_has ls 4 [(0, .ref E.2.1)] → W p l e R s m args below meth c H locs 0 0 Q (F0 m 251 ls [.int y2, .int y1, .ref E.2.1]) := by
    intro y1 y2 S H locs ls h hC hl
    unfold wp_waitTree_251 at h
    refine lv_iconst (v := 0) hx hb dX12_waitTree_251 (by decide) ?_
    refine mv_calli [.int y1, .int y2, .int 0] (rest := []) hX hC (ct_emit l S y1 y2 0 _ h E _) (cw_X12_emit hts (by omega) (by omega)) rfl hl.1 (Nat.le_of_ble_eq_true rfl) ⟨Nat.zero_le _, Nat.zero_le _⟩ dX12_waitTree_252 (fun r44 S44 H locs hC h => ?_)
    refine lv_istore_n (lv' := [(1, .int r44), (0, .ref E.2.1)]) hx hb dX12_waitTree_255 rfl hl (by decide) rfl (fun ls hl => ?_)
    exact cut256 S44 _ _ _ h hC (lv_sub hl [1] rfl)
  have cut197 : ∀ (n197 : Nat) (x2 : Int32) (x3 : Int32) (S : mS) (H : Heap) (locs : List Loc) (ls : Array Slot), it (ls_waitTree_197 r_waitTree K) n197 (x2, x3, S) → mC E A s.heap S H locs → lv_has ls 4 [(0, .ref E.2.1), (2, .int x2), (3, .int x3)] → W p l e R s m args below meth c H locs 0 0 Q (F0 m 197 ls []) := by
    intro n197
    induction n197 with
    | zero => intro x2 x3 S H locs ls h hC hl; exact h.elim
    | succ n197 ih197 =>
      have cut223 : ∀ (x2 : Int32) (x3 : Int32) (S : mS) (H : Heap) (locs : List Loc) (ls : Array Slot), wp_waitTree_223 r_waitTree K (it (ls_waitTree_197 r_waitTree K) n197) x2 x3 S → mC E A s.heap S H locs → lv_has ls 4 [(0, .ref E.2.1), (2, .int x2), (3, .int x3)] → W p l e R s m args below meth c H locs 0 0 Q (F0 m 223 ls []) := by
        intro x2 x3 S H locs ls h hC hl
        unfold wp_waitTree_223 at h
        refine lv_aload_n hx hb dX12_waitTree_223 rfl (lv_at hl 0 rfl) ?_
        refine mv_callv [] (rest := []) hX hC (hr_waitTree S _ h E _) (cw_X12_waitTree hts (by omega) (by omega)) rfl hl.1 (Nat.le_of_ble_eq_true rfl) ⟨Nat.zero_le _, Nat.zero_le _⟩ dX12_waitTree_224 (fun S42 H locs hC h => ?_)
        obtain ⟨z43, ez43⟩ : ∃ y : Int32, y = x3 + 1 := ⟨_, rfl⟩
        have h := h z43 ez43
        refine lv_iinc (v := z43) (lv' := [(3, .int z43), (0, .ref E.2.1), (2, .int x2)]) hx hb dX12_waitTree_227 hl (k := 2) rfl (by rw [ez43]; rfl) (by decide) rfl (fun ls hl => ?_)
        refine lv_goto (tgt := 197) hx hb dX12_waitTree_230 (by decide) ?_
        exact ih197 x2 z43 S42 _ _ _ h hC (lv_sub hl [1, 2, 0] rfl)
      intro x2 x3 S H locs ls h hC hl
      have h : wp_waitTree_197 r_waitTree K (it (ls_waitTree_197 r_waitTree K) n197) x2 x3 S := h
      unfold wp_waitTree_197 at h
      refine lv_aload_n hx hb dX12_waitTree_197 rfl (lv_at hl 0 rfl) ?_
      refine lv_bipush (v := 44) hx hb dX12_waitTree_198 (by decide) ?_
      refine mv_calli [.int 44] (rest := []) hX hC (ct_hasSign l S 44 _ h E _) (cw_X12_hasSign hts (by omega) (by omega)) rfl hl.1 (Nat.le_of_ble_eq_true rfl) ⟨Nat.zero_le _, Nat.zero_le _⟩ dX12_waitTree_200 (fun r34 S34 H locs hC h => ?_)
      refine lv_if_eq (tgt := 233) hx hb dX12_waitTree_203 (by decide) (fun c35 => ?_) (fun c35 => ?_)
      · have h := h.1 c35
        refine lv_aload_n hx hb dX12_waitTree_233 rfl (lv_at hl 0 rfl) ?_
        refine lv_bipush (v := 41) hx hb dX12_waitTree_234 (by decide) ?_
        refine mv_callv [.int 41] (rest := []) hX hC (ct_takeSign l S34 41 _ h E _) (cw_X12_takeSign hts (by omega) (by omega)) rfl hl.1 (Nat.le_of_ble_eq_true rfl) ⟨Nat.zero_le _, Nat.zero_le _⟩ dX12_waitTree_236 (fun S36 H locs hC h => ?_)
        refine lv_aload_n hx hb dX12_waitTree_239 rfl (lv_at hl 0 rfl) ?_
        refine lv_bipush (v := 29) hx hb dX12_waitTree_240 (by decide) ?_
        refine lv_iload_n hx hb dX12_waitTree_242 rfl (lv_at hl 1 rfl) ?_
        refine lv_if_eq (tgt := 250) hx hb dX12_waitTree_243 (by decide) (fun c37 => ?_) (fun c37 => ?_)
        · have h := h.1 c37
          refine lv_iconst (v := 1) hx hb dX12_waitTree_250 (by decide) ?_
          exact cut251 29 1 S36 _ _ _ h hC (lv_sub hl [0] rfl)
        · have h := h.2 c37
          refine lv_iconst (v := 0) hx hb dX12_waitTree_246 (by decide) ?_
          refine lv_goto (tgt := 251) hx hb dX12_waitTree_247 (by decide) ?_
          exact cut251 29 0 S36 _ _ _ h hC (lv_sub hl [0] rfl)
      · have h := h.2 c35
        refine lv_iload_n hx hb dX12_waitTree_206 rfl (lv_at hl 2 rfl) ?_
        refine lv_iconst (v := 4) hx hb dX12_waitTree_207 (by decide) ?_
        refine lv_icmp_ne (tgt := 223) hx hb dX12_waitTree_208 (by decide) (fun c38 => ?_) (fun c38 => ?_)
        · have h := h.1 c38
          exact cut223 x2 x3 S34 _ _ _ h hC (lv_sub hl [0, 1, 2] rfl)
        · have h := h.2 c38
          refine lv_aload_n hx hb dX12_waitTree_211 rfl (lv_at hl 0 rfl) ?_
          refine mv_calli [] (rest := []) hX hC (ct_isWait l S34 _ h E _) (cw_X12_isWait hts (by omega) (by omega)) rfl hl.1 (Nat.le_of_ble_eq_true rfl) ⟨Nat.zero_le _, Nat.zero_le _⟩ dX12_waitTree_212 (fun r39 S39 H locs hC h => ?_)
          refine lv_if_eq (tgt := 223) hx hb dX12_waitTree_215 (by decide) (fun c40 => ?_) (fun c40 => ?_)
          · have h := h.1 c40
            exact cut223 x2 x3 S39 _ _ _ h hC (lv_sub hl [0, 1, 2] rfl)
          · have h := h.2 c40
            refine lv_aload_n hx hb dX12_waitTree_218 rfl (lv_at hl 0 rfl) ?_
            refine lv_iconst (v := 5) hx hb dX12_waitTree_219 (by decide) ?_
            refine mv_callv [.int 5] (rest := []) hX hC (ct_wrong l S39 5 _ h E _) (cw_X12_wrong hts (by omega) (by omega)) rfl hl.1 (Nat.le_of_ble_eq_true rfl) ⟨Nat.zero_le _, Nat.zero_le _⟩ dX12_waitTree_220 (fun S41 H locs hC h => ?_)
            exact cut223 x2 x3 S41 _ _ _ h hC (lv_sub hl [0, 1, 2] rfl)
  have cut180 : ∀ (x2 : Int32) (y1 : Int32) (y2 : Int32) (S : mS) (H : Heap) (locs : List Loc) (ls : Array Slot), wp_waitTree_180 r_waitTree K x2 y1 y2 S → mC E A s.heap S H locs → lv_has ls 4 [(0, .ref E.2.1), (2, .int x2)] → W p l e R s m args below meth c H locs 0 0 Q (F0 m 180 ls [.int y2, .int y1, .ref E.2.1]) := by
    intro x2 y1 y2 S H locs ls h hC hl
    unfold wp_waitTree_180 at h
    refine lv_iconst (v := 0) hx hb dX12_waitTree_180 (by decide) ?_
    refine mv_calli [.int y1, .int y2, .int 0] (rest := []) hX hC (ct_emit l S y1 y2 0 _ h E _) (cw_X12_emit hts (by omega) (by omega)) rfl hl.1 (Nat.le_of_ble_eq_true rfl) ⟨Nat.zero_le _, Nat.zero_le _⟩ dX12_waitTree_181 (fun r31 S31 H locs hC h => ?_)
    refine lv_istore_n (lv' := [(1, .int r31), (0, .ref E.2.1), (2, .int x2)]) hx hb dX12_waitTree_184 rfl hl (by decide) rfl (fun ls hl => ?_)
    refine lv_aload_n hx hb dX12_waitTree_185 rfl (lv_at hl 1 rfl) ?_
    refine lv_bipush (v := 40) hx hb dX12_waitTree_186 (by decide) ?_
    refine mv_callv [.int 40] (rest := []) hX hC (ct_takeSign l S31 40 _ h E _) (cw_X12_takeSign hts (by omega) (by omega)) rfl hl.1 (Nat.le_of_ble_eq_true rfl) ⟨Nat.zero_le _, Nat.zero_le _⟩ dX12_waitTree_188 (fun S32 H locs hC h => ?_)
    refine lv_aload_n hx hb dX12_waitTree_191 rfl (lv_at hl 1 rfl) ?_
    refine mv_callv [] (rest := []) hX hC (hr_waitTree S32 _ h E _) (cw_X12_waitTree hts (by omega) (by omega)) rfl hl.1 (Nat.le_of_ble_eq_true rfl) ⟨Nat.zero_le _, Nat.zero_le _⟩ dX12_waitTree_192 (fun S33 H locs hC h => ?_)
    refine lv_iconst (v := 1) hx hb dX12_waitTree_195 (by decide) ?_
    refine lv_istore_n (lv' := [(3, .int 1), (1, .int r31), (0, .ref E.2.1), (2, .int x2)]) hx hb dX12_waitTree_196 rfl hl (by decide) rfl (fun ls hl => ?_)
    obtain ⟨n9, h⟩ := h
    exact cut197 n9 x2 1 S33 _ _ _ h hC (lv_sub hl [2, 3, 0] rfl)
  have cut168 : ∀ (x2 : Int32) (S : mS) (H : Heap) (locs : List Loc) (ls : Array Slot), wp_waitTree_168 r_waitTree K x2 S → mC E A s.heap S H locs → lv_has ls 4 [(0, .ref E.2.1), (2, .int x2)] → W p l e R s m args below meth c H locs 0 0 Q (F0 m 168 ls []) := by
    intro x2 S H locs ls h hC hl
    unfold wp_waitTree_168 at h
    refine lv_aload_n hx hb dX12_waitTree_168 rfl (lv_at hl 0 rfl) ?_
    refine lv_bipush (v := 28) hx hb dX12_waitTree_169 (by decide) ?_
    refine lv_iload_n hx hb dX12_waitTree_171 rfl (lv_at hl 1 rfl) ?_
    refine lv_if_eq (tgt := 179) hx hb dX12_waitTree_172 (by decide) (fun c30 => ?_) (fun c30 => ?_)
    · have h := h.1 c30
      refine lv_iconst (v := 1) hx hb dX12_waitTree_179 (by decide) ?_
      exact cut180 x2 28 1 S _ _ _ h hC (lv_sub hl [0, 1] rfl)
    · have h := h.2 c30
      refine lv_iconst (v := 0) hx hb dX12_waitTree_175 (by decide) ?_
      refine lv_goto (tgt := 180) hx hb dX12_waitTree_176 (by decide) ?_
      exact cut180 x2 28 0 S _ _ _ h hC (lv_sub hl [0, 1] rfl)
  have hl : lv_has ls 4 [(0, .ref E.2.1)] := hl
  unfold wp_waitTree at h
  refine lv_aload_n hx hb dX12_waitTree_0 rfl (lv_at hl 0 rfl) ?_
  refine lv_aload_n hx hb dX12_waitTree_1 rfl (lv_at hl 0 rfl) ?_
  refine mv_calli [] (rest := [.ref E.2.1]) hX hC (ct_isWait l S _ h E _) (cw_X12_isWait hts (by omega) (by omega)) rfl hl.1 (Nat.le_of_ble_eq_true rfl) ⟨Nat.zero_le _, Nat.zero_le _⟩ dX12_waitTree_2 (fun r1 S1 H locs hC h => ?_)
  refine mv_callv [.int r1] (rest := []) hX hC (ct_within l S1 r1 _ h E _) (cw_X12_within hts (by omega) (by omega)) rfl hl.1 (Nat.le_of_ble_eq_true rfl) ⟨Nat.zero_le _, Nat.zero_le _⟩ dX12_waitTree_5 (fun S2 H locs hC h => ?_)
  refine lv_aload_n hx hb dX12_waitTree_8 rfl (lv_at hl 0 rfl) ?_
  refine mv_get (v := .int (S2.1 4)) hX hC 8 (Nat.le_of_ble_eq_true rfl) wd_1408 rfl dX12_waitTree_9 ?_
  refine lv_if_le (tgt := 16) hx hb dX12_waitTree_12 (by decide) (fun c3 => ?_) (fun c3 => ?_)
  · have h := h.1 c3
    refine lv_aload_n hx hb dX12_waitTree_16 rfl (lv_at hl 0 rfl) ?_
    refine lv_iconst (v := 1) hx hb dX12_waitTree_17 (by decide) ?_
    refine lv_iconst (v := 0) hx hb dX12_waitTree_18 (by decide) ?_
    refine lv_iconst (v := 0) hx hb dX12_waitTree_19 (by decide) ?_
    refine mv_calli [.int 1, .int 0, .int 0] (rest := []) hX hC (ct_emit l S2 1 0 0 _ h E _) (cw_X12_emit hts (by omega) (by omega)) rfl hl.1 (Nat.le_of_ble_eq_true rfl) ⟨Nat.zero_le _, Nat.zero_le _⟩ dX12_waitTree_20 (fun r4 S4 H locs hC h => ?_)
    refine lv_istore_n (lv' := [(1, .int r4), (0, .ref E.2.1)]) hx hb dX12_waitTree_23 rfl hl (by decide) rfl (fun ls hl => ?_)
    refine lv_aload_n hx hb dX12_waitTree_24 rfl (lv_at hl 1 rfl) ?_
    refine lv_bipush (v := 13) hx hb dX12_waitTree_25 (by decide) ?_
    refine mv_calli [.int 13] (rest := []) hX hC (ct_hasWord l S4 13 _ h E _) (cw_X12_hasWord hts (by omega) (by omega)) rfl hl.1 (Nat.le_of_ble_eq_true rfl) ⟨Nat.zero_le _, Nat.zero_le _⟩ dX12_waitTree_27 (fun r5 S5 H locs hC h => ?_)
    refine lv_if_eq (tgt := 51) hx hb dX12_waitTree_30 (by decide) (fun c6 => ?_) (fun c6 => ?_)
    · have h := h.1 c6
      refine lv_aload_n hx hb dX12_waitTree_51 rfl (lv_at hl 1 rfl) ?_
      refine lv_bipush (v := 14) hx hb dX12_waitTree_52 (by decide) ?_
      refine mv_calli [.int 14] (rest := []) hX hC (ct_hasWord l S5 14 _ h E _) (cw_X12_hasWord hts (by omega) (by omega)) rfl hl.1 (Nat.le_of_ble_eq_true rfl) ⟨Nat.zero_le _, Nat.zero_le _⟩ dX12_waitTree_54 (fun r7 S7 H locs hC h => ?_)
      refine lv_if_eq (tgt := 76) hx hb dX12_waitTree_57 (by decide) (fun c8 => ?_) (fun c8 => ?_)
      · have h := h.1 c8
        refine lv_aload_n hx hb dX12_waitTree_76 rfl (lv_at hl 1 rfl) ?_
        refine lv_bipush (v := 15) hx hb dX12_waitTree_77 (by decide) ?_
        refine mv_calli [.int 15] (rest := []) hX hC (ct_hasWord l S7 15 _ h E _) (cw_X12_hasWord hts (by omega) (by omega)) rfl hl.1 (Nat.le_of_ble_eq_true rfl) ⟨Nat.zero_le _, Nat.zero_le _⟩ dX12_waitTree_79 (fun r9 S9 H locs hC h => ?_)
        refine lv_if_eq (tgt := 97) hx hb dX12_waitTree_82 (by decide) (fun c10 => ?_) (fun c10 => ?_)
        · have h := h.1 c10
          refine lv_aload_n hx hb dX12_waitTree_97 rfl (lv_at hl 1 rfl) ?_
          refine lv_bipush (v := 16) hx hb dX12_waitTree_98 (by decide) ?_
          refine mv_calli [.int 16] (rest := []) hX hC (ct_hasWord l S9 16 _ h E _) (cw_X12_hasWord hts (by omega) (by omega)) rfl hl.1 (Nat.le_of_ble_eq_true rfl) ⟨Nat.zero_le _, Nat.zero_le _⟩ dX12_waitTree_100 (fun r11 S11 H locs hC h => ?_)
          refine lv_if_eq (tgt := 113) hx hb dX12_waitTree_103 (by decide) (fun c12 => ?_) (fun c12 => ?_)
          · have h := h.1 c12
            refine lv_aload_n hx hb dX12_waitTree_113 rfl (lv_at hl 1 rfl) ?_
            refine lv_bipush (v := 19) hx hb dX12_waitTree_114 (by decide) ?_
            refine mv_calli [.int 19] (rest := []) hX hC (ct_hasWord l S11 19 _ h E _) (cw_X12_hasWord hts (by omega) (by omega)) rfl hl.1 (Nat.le_of_ble_eq_true rfl) ⟨Nat.zero_le _, Nat.zero_le _⟩ dX12_waitTree_116 (fun r13 S13 H locs hC h => ?_)
            refine lv_if_eq (tgt := 151) hx hb dX12_waitTree_119 (by decide) (fun c14 => ?_) (fun c14 => ?_)
            · have h := h.1 c14
              refine lv_aload_n hx hb dX12_waitTree_151 rfl (lv_at hl 1 rfl) ?_
              refine lv_bipush (v := 17) hx hb dX12_waitTree_152 (by decide) ?_
              refine mv_calli [.int 17] (rest := []) hX hC (ct_hasWord l S13 17 _ h E _) (cw_X12_hasWord hts (by omega) (by omega)) rfl hl.1 (Nat.le_of_ble_eq_true rfl) ⟨Nat.zero_le _, Nat.zero_le _⟩ dX12_waitTree_154 (fun r15 S15 H locs hC h => ?_)
              refine lv_istore_n (lv' := [(2, .int r15), (1, .int r4), (0, .ref E.2.1)]) hx hb dX12_waitTree_157 rfl hl (by decide) rfl (fun ls hl => ?_)
              refine lv_iload_n hx hb dX12_waitTree_158 rfl (lv_at hl 0 rfl) ?_
              refine lv_if_ne (tgt := 168) hx hb dX12_waitTree_159 (by decide) (fun c16 => ?_) (fun c16 => ?_)
              · have h := h.1 c16
                exact cut168 r15 S15 _ _ _ h hC (lv_sub hl [2, 0] rfl)
              · have h := h.2 c16
                refine lv_aload_n hx hb dX12_waitTree_162 rfl (lv_at hl 2 rfl) ?_
                refine lv_bipush (v := 18) hx hb dX12_waitTree_163 (by decide) ?_
                refine mv_callv [.int 18] (rest := []) hX hC (ct_takeWord l S15 18 _ h E _) (cw_X12_takeWord hts (by omega) (by omega)) rfl hl.1 (Nat.le_of_ble_eq_true rfl) ⟨Nat.zero_le _, Nat.zero_le _⟩ dX12_waitTree_165 (fun S17 H locs hC h => ?_)
                exact cut168 r15 S17 _ _ _ h hC (lv_sub hl [2, 0] rfl)
            · have h := h.2 c14
              refine lv_aload_n hx hb dX12_waitTree_122 rfl (lv_at hl 1 rfl) ?_
              refine mv_callv [] (rest := []) hX hC (ct_expression l S13 _ h E _) (cw_X12_expression hts (by omega) (by omega)) rfl hl.1 (Nat.le_of_ble_eq_true rfl) ⟨Nat.zero_le _, Nat.zero_le _⟩ dX12_waitTree_123 (fun S18 H locs hC h => ?_)
              refine lv_aload_n hx hb dX12_waitTree_126 rfl (lv_at hl 1 rfl) ?_
              refine lv_bipush (v := 28) hx hb dX12_waitTree_127 (by decide) ?_
              refine lv_iconst (v := 2) hx hb dX12_waitTree_129 (by decide) ?_
              refine lv_iconst (v := 0) hx hb dX12_waitTree_130 (by decide) ?_
              refine mv_calli [.int 28, .int 2, .int 0] (rest := []) hX hC (ct_emit l S18 28 2 0 _ h E _) (cw_X12_emit hts (by omega) (by omega)) rfl hl.1 (Nat.le_of_ble_eq_true rfl) ⟨Nat.zero_le _, Nat.zero_le _⟩ dX12_waitTree_131 (fun r19 S19 H locs hC h => ?_)
              refine lv_istore_n (lv' := [(1, .int r19), (0, .ref E.2.1)]) hx hb dX12_waitTree_134 rfl hl (by decide) rfl (fun ls hl => ?_)
              refine lv_aload_n hx hb dX12_waitTree_135 rfl (lv_at hl 1 rfl) ?_
              refine mv_callv [] (rest := []) hX hC (hr_waitTree S19 _ h E _) (cw_X12_waitTree hts (by omega) (by omega)) rfl hl.1 (Nat.le_of_ble_eq_true rfl) ⟨Nat.zero_le _, Nat.zero_le _⟩ dX12_waitTree_136 (fun S20 H locs hC h => ?_)
              refine lv_aload_n hx hb dX12_waitTree_139 rfl (lv_at hl 1 rfl) ?_
              refine lv_bipush (v := 29) hx hb dX12_waitTree_140 (by decide) ?_
              refine lv_iconst (v := 2) hx hb dX12_waitTree_142 (by decide) ?_
              refine lv_iconst (v := 0) hx hb dX12_waitTree_143 (by decide) ?_
              refine mv_calli [.int 29, .int 2, .int 0] (rest := []) hX hC (ct_emit l S20 29 2 0 _ h E _) (cw_X12_emit hts (by omega) (by omega)) rfl hl.1 (Nat.le_of_ble_eq_true rfl) ⟨Nat.zero_le _, Nat.zero_le _⟩ dX12_waitTree_144 (fun r21 S21 H locs hC h => ?_)
              refine lv_istore_n (lv' := [(1, .int r21), (0, .ref E.2.1)]) hx hb dX12_waitTree_147 rfl hl (by decide) rfl (fun ls hl => ?_)
              refine lv_goto (tgt := 256) hx hb dX12_waitTree_148 (by decide) ?_
              exact cut256 S21 _ _ _ h hC (lv_sub hl [1] rfl)
          · have h := h.2 c12
            refine lv_aload_n hx hb dX12_waitTree_106 rfl (lv_at hl 1 rfl) ?_
            refine mv_callv [] (rest := []) hX hC (ct_child l S11 _ h E _) (cw_X12_child hts (by omega) (by omega)) rfl hl.1 (Nat.le_of_ble_eq_true rfl) ⟨Nat.zero_le _, Nat.zero_le _⟩ dX12_waitTree_107 (fun S22 H locs hC h => ?_)
            refine lv_goto (tgt := 256) hx hb dX12_waitTree_110 (by decide) ?_
            exact cut256 S22 _ _ _ h hC (lv_sub hl [1] rfl)
        · have h := h.2 c10
          refine lv_aload_n hx hb dX12_waitTree_85 rfl (lv_at hl 1 rfl) ?_
          refine lv_bipush (v := 26) hx hb dX12_waitTree_86 (by decide) ?_
          refine lv_iconst (v := 0) hx hb dX12_waitTree_88 (by decide) ?_
          refine lv_iconst (v := 0) hx hb dX12_waitTree_89 (by decide) ?_
          refine mv_calli [.int 26, .int 0, .int 0] (rest := []) hX hC (ct_emit l S9 26 0 0 _ h E _) (cw_X12_emit hts (by omega) (by omega)) rfl hl.1 (Nat.le_of_ble_eq_true rfl) ⟨Nat.zero_le _, Nat.zero_le _⟩ dX12_waitTree_90 (fun r23 S23 H locs hC h => ?_)
          refine lv_istore_n (lv' := [(1, .int r23), (0, .ref E.2.1)]) hx hb dX12_waitTree_93 rfl hl (by decide) rfl (fun ls hl => ?_)
          refine lv_goto (tgt := 256) hx hb dX12_waitTree_94 (by decide) ?_
          exact cut256 S23 _ _ _ h hC (lv_sub hl [1] rfl)
      · have h := h.2 c8
        refine lv_aload_n hx hb dX12_waitTree_60 rfl (lv_at hl 1 rfl) ?_
        refine mv_callv [] (rest := []) hX hC (ct_expression l S7 _ h E _) (cw_X12_expression hts (by omega) (by omega)) rfl hl.1 (Nat.le_of_ble_eq_true rfl) ⟨Nat.zero_le _, Nat.zero_le _⟩ dX12_waitTree_61 (fun S24 H locs hC h => ?_)
        refine lv_aload_n hx hb dX12_waitTree_64 rfl (lv_at hl 1 rfl) ?_
        refine lv_bipush (v := 25) hx hb dX12_waitTree_65 (by decide) ?_
        refine lv_iconst (v := 0) hx hb dX12_waitTree_67 (by decide) ?_
        refine lv_iconst (v := 0) hx hb dX12_waitTree_68 (by decide) ?_
        refine mv_calli [.int 25, .int 0, .int 0] (rest := []) hX hC (ct_emit l S24 25 0 0 _ h E _) (cw_X12_emit hts (by omega) (by omega)) rfl hl.1 (Nat.le_of_ble_eq_true rfl) ⟨Nat.zero_le _, Nat.zero_le _⟩ dX12_waitTree_69 (fun r25 S25 H locs hC h => ?_)
        refine lv_istore_n (lv' := [(1, .int r25), (0, .ref E.2.1)]) hx hb dX12_waitTree_72 rfl hl (by decide) rfl (fun ls hl => ?_)
        refine lv_goto (tgt := 256) hx hb dX12_waitTree_73 (by decide) ?_
        exact cut256 S25 _ _ _ h hC (lv_sub hl [1] rfl)
    · have h := h.2 c6
      refine lv_aload_n hx hb dX12_waitTree_33 rfl (lv_at hl 1 rfl) ?_
      refine lv_bipush (v := 24) hx hb dX12_waitTree_34 (by decide) ?_
      refine lv_aload_n hx hb dX12_waitTree_36 rfl (lv_at hl 1 rfl) ?_
      refine lv_iconst (v := 0) hx hb dX12_waitTree_37 (by decide) ?_
      refine lv_bipush (v := 7) hx hb dX12_waitTree_38 (by decide) ?_
      refine mv_calli [.int 0, .int 7] (rest := [.int 24, .ref E.2.1]) hX hC (ct_takeNumber l S5 0 7 _ h E _) (cw_X12_takeNumber hts (by omega) (by omega)) rfl hl.1 (Nat.le_of_ble_eq_true rfl) ⟨Nat.zero_le _, Nat.zero_le _⟩ dX12_waitTree_40 (fun r26 S26 H locs hC h => ?_)
      refine lv_iconst (v := 0) hx hb dX12_waitTree_43 (by decide) ?_
      refine mv_calli [.int 24, .int r26, .int 0] (rest := []) hX hC (ct_emit l S26 24 r26 0 _ h E _) (cw_X12_emit hts (by omega) (by omega)) rfl hl.1 (Nat.le_of_ble_eq_true rfl) ⟨Nat.zero_le _, Nat.zero_le _⟩ dX12_waitTree_44 (fun r27 S27 H locs hC h => ?_)
      refine lv_istore_n (lv' := [(1, .int r27), (0, .ref E.2.1)]) hx hb dX12_waitTree_47 rfl hl (by decide) rfl (fun ls hl => ?_)
      refine lv_goto (tgt := 256) hx hb dX12_waitTree_48 (by decide) ?_
      exact cut256 S27 _ _ _ h hC (lv_sub hl [1] rfl)
  · have h := h.2 c3
    exact hret _ _ _ _ _ hC h dX12_waitTree_15
def wr_waitTree : Nat → mS → (mS → Prop) → Prop
  | 0 => fun _ _ => False
  | n + 1 => wp_waitTree (wr_waitTree n)
def wq_waitTree : mS → (mS → Prop) → Prop := (wr_waitTree 12)
set_option maxRecDepth 100000 in
theorem cr_waitTree (l : Launch) : ∀ n : Nat, (∀ (S : mS) (K : mS → Prop), (wr_waitTree n) S K → mMv l yX12_waitTree cX12_waitTree 4 none (1 * n + 71) (23 * n + 1538) (fun E => []) S K) := by
  intro n
  induction n with
  | zero => exact fun _ _ h => h.elim
  | succ n ih => exact fun S K h => co_waitTree l (1 * n + 71) (23 * n + 1538) _ _ (wr_waitTree n) ih (by omega) (by omega) (by omega) (by omega) S K h
theorem ct_waitTree (l : Launch) (S : mS) (K : mS → Prop) (h : wq_waitTree S K) : mMv l yX12_waitTree cX12_waitTree 4 none (1 * 12 + 71) (23 * 12 + 1538) (fun E => []) S K := (cr_waitTree l 12) S K h
def wp_wait_124 (K : mS → Prop) (x1 : Int32) (S : mS) : Prop := ((x1 < 0 → K S) ∧ (¬ x1 < 0 → wp_then 2 x1 S (fun (S21 : mS) (r21 : Int32) => K S21)))
def wp_wait_19 (K : mS → Prop) (x1 : Int32) (S : mS) : Prop := ∀ z4 : Int32, z4 = (S.1 3) + 1 → ∀ S5 : mS, S5 = sZ S 3 z4 → inR (S5.1 12) 24 ∧ ∀ z6 : Int32, z6 = S5.2.1 10 (ix (S5.1 12)) → inR (S5.1 12) 24 ∧ ∀ z7 : Int32, z7 = S5.2.1 10 (ix (S5.1 12)) → ∀ z8 : Int32, z8 = z7 + 1 → inR (S5.1 12) 24 ∧ ∀ S9 : mS, S9 = sF S5 10 (ix (S5.1 12)) z8 → wp_emit 31 0 z6 S9 (fun (S10 : mS) (r10 : Int32) => wq_waitTree S10 (fun (S11 : mS) => wp_emit 30 x1 z6 S11 (fun (S12 : mS) (r12 : Int32) => inR r10 24000 ∧ ∀ S13 : mS, S13 = sF S12 13 (ix r10) (S12.1 7) → inR r12 24000 ∧ ∀ S14 : mS, S14 = sF S13 14 (ix r12) z6 → wp_then 3 z6 S14 (fun (S15 : mS) (r15 : Int32) => ((¬ (S15.1 4) = 0 → wp_wait_124 K x1 S15) ∧ ((S15.1 4) = 0 → ∀ z17 : Int32, z17 = 17 * (S15.1 12) → ∀ z18 : Int32, z18 = z17 + z6 → inR z18 408 ∧ ∀ S19 : mS, S19 = sF S15 24 (ix z18) r15 → wp_wait_124 K x1 S19))))))
def wp_wait (a0 : Int32) (S : mS) (K : mS → Prop) : Prop := inR (S.1 12) 24 ∧ ∀ z1 : Int32, z1 = S.2.1 10 (ix (S.1 12)) → ((¬ z1 = 16 → wp_wait_19 K a0 S) ∧ (z1 = 16 → wp_wrong 5 S (fun (S3 : mS) => wp_wait_19 K a0 S3)))
set_option maxHeartbeats 4000000 in
set_option maxRecDepth 100000 in
theorem ct_wait (l : Launch) (S : mS) (a0 : Int32) (K : mS → Prop) (h : wp_wait a0 S K) : mMv l yX12_wait cX12_wait 6 none 84 1837 (fun E => [.int a0]) S K := by
  refine mv_ofv (by decide) rfl (fun _ => Nat.le_of_ble_eq_true rfl) ?_
  intro E p e R s m args below meth c A ls Q hRf hRl hX hC hl hret
  have hx := hX.1.1
  have hb := hX.1.2.1
  have hown := hX.1.2.2.2.1
  have hts := hX.1.2.2.2.2
  have cut124 : ∀ (x1 : Int32) (S : mS) (H : Heap) (locs : List Loc) (ls : Array Slot), wp_wait_124 K x1 S → mC E A s.heap S H locs → lv_has ls 6 [(0, .ref E.2.1), (1, .int x1)] → W p l e R s m args below meth c H locs 0 0 Q (F0 m 124 ls []) := by
    intro x1 S H locs ls h hC hl
    unfold wp_wait_124 at h
    refine lv_iload_n hx hb dX12_wait_124 rfl (lv_at hl 1 rfl) ?_
    refine lv_if_lt (tgt := 136) hx hb dX12_wait_125 (by decide) (fun c20 => ?_) (fun c20 => ?_)
    · have h := h.1 c20
      exact hret _ _ _ _ _ hC h dX12_wait_136
    · have h := h.2 c20
      refine lv_aload_n hx hb dX12_wait_128 rfl (lv_at hl 0 rfl) ?_
      refine lv_iconst (v := 2) hx hb dX12_wait_129 (by decide) ?_
      refine lv_iload_n hx hb dX12_wait_130 rfl (lv_at hl 1 rfl) ?_
      refine mv_calli [.int 2, .int x1] (rest := []) hX hC (ct_then l S 2 x1 _ h E _) (cw_X12_then hts (by omega) (by omega)) rfl hl.1 (Nat.le_of_ble_eq_true rfl) ⟨Nat.zero_le _, Nat.zero_le _⟩ dX12_wait_131 (fun r21 S21 H locs hC h => ?_)
      refine lv_istore (lv' := [(4, .int r21), (0, .ref E.2.1), (1, .int x1)]) hx hb dX12_wait_134 hl (by decide) rfl (fun ls hl => ?_)
      exact hret _ _ _ _ _ hC h dX12_wait_136
  have cut19 : ∀ (x1 : Int32) (S : mS) (H : Heap) (locs : List Loc) (ls : Array Slot), wp_wait_19 K x1 S → mC E A s.heap S H locs → lv_has ls 6 [(0, .ref E.2.1), (1, .int x1)] → W p l e R s m args below meth c H locs 0 0 Q (F0 m 19 ls []) := by
    intro x1 S H locs ls h hC hl
    unfold wp_wait_19 at h
    refine lv_aload_n hx hb dX12_wait_19 rfl (lv_at hl 0 rfl) ?_
    refine lv_dup hx hb dX12_wait_20 rfl ?_
    refine mv_get (v := .int (S.1 3)) hX hC 7 (Nat.le_of_ble_eq_true rfl) wd_1407 rfl dX12_wait_21 ?_
    refine lv_iconst (v := 1) hx hb dX12_wait_24 (by decide) ?_
    refine lq_iadd hx hb dX12_wait_25 h (fun z4 h => ?_)
    refine mq_put (v := z4) hX hC 7 3 (Nat.le_of_ble_eq_true rfl) wd_1407 rfl rfl rfl mz_3 dX12_wait_26 h (fun S5 H locs hC h => ?_)
    refine lv_aload_n hx hb dX12_wait_29 rfl (lv_at hl 0 rfl) ?_
    refine mv_get (v := .ref (E.2.2.1 10)) hX hC 18 (Nat.le_of_ble_eq_true rfl) wd_1418 rfl dX12_wait_30 ?_
    refine lv_aload_n hx hb dX12_wait_33 rfl (lv_at hl 0 rfl) ?_
    refine mv_get (v := .int (S5.1 12)) hX hC 62 (Nat.le_of_ble_eq_true rfl) wd_1462 rfl dX12_wait_34 ?_
    refine mq_ild (n := 24) hX hC 10 rfl rfl dX12_wait_37 h (fun z6 h => ?_)
    refine lv_istore_n (lv' := [(2, .int z6), (0, .ref E.2.1), (1, .int x1)]) hx hb dX12_wait_38 rfl hl (by decide) rfl (fun ls hl => ?_)
    refine lv_aload_n hx hb dX12_wait_39 rfl (lv_at hl 1 rfl) ?_
    refine mv_get (v := .ref (E.2.2.1 10)) hX hC 18 (Nat.le_of_ble_eq_true rfl) wd_1418 rfl dX12_wait_40 ?_
    refine lv_aload_n hx hb dX12_wait_43 rfl (lv_at hl 1 rfl) ?_
    refine mv_get (v := .int (S5.1 12)) hX hC 62 (Nat.le_of_ble_eq_true rfl) wd_1462 rfl dX12_wait_44 ?_
    refine lv_dup2_11 hx hb dX12_wait_47 rfl rfl ?_
    refine mq_ild (n := 24) hX hC 10 rfl rfl dX12_wait_48 h (fun z7 h => ?_)
    refine lv_iconst (v := 1) hx hb dX12_wait_49 (by decide) ?_
    refine lq_iadd hx hb dX12_wait_50 h (fun z8 h => ?_)
    refine mq_ist (n := 24) (v := z8) hX hC 10 rfl rfl mf_10 dX12_wait_51 h.1 h.2 (fun S9 H locs hC h => ?_)
    refine lv_aload_n hx hb dX12_wait_52 rfl (lv_at hl 1 rfl) ?_
    refine lv_bipush (v := 31) hx hb dX12_wait_53 (by decide) ?_
    refine lv_iconst (v := 0) hx hb dX12_wait_55 (by decide) ?_
    refine lv_iload_n hx hb dX12_wait_56 rfl (lv_at hl 0 rfl) ?_
    refine mv_calli [.int 31, .int 0, .int z6] (rest := []) hX hC (ct_emit l S9 31 0 z6 _ h E _) (cw_X12_emit hts (by omega) (by omega)) rfl hl.1 (Nat.le_of_ble_eq_true rfl) ⟨Nat.zero_le _, Nat.zero_le _⟩ dX12_wait_57 (fun r10 S10 H locs hC h => ?_)
    refine lv_istore_n (lv' := [(3, .int r10), (2, .int z6), (0, .ref E.2.1), (1, .int x1)]) hx hb dX12_wait_60 rfl hl (by decide) rfl (fun ls hl => ?_)
    refine lv_aload_n hx hb dX12_wait_61 rfl (lv_at hl 2 rfl) ?_
    refine mv_callv [] (rest := []) hX hC (ct_waitTree l S10 _ h E _) (cw_X12_waitTree hts (by omega) (by omega)) rfl hl.1 (Nat.le_of_ble_eq_true rfl) ⟨Nat.zero_le _, Nat.zero_le _⟩ dX12_wait_62 (fun S11 H locs hC h => ?_)
    refine lv_aload_n hx hb dX12_wait_65 rfl (lv_at hl 2 rfl) ?_
    refine lv_bipush (v := 30) hx hb dX12_wait_66 (by decide) ?_
    refine lv_iload_n hx hb dX12_wait_68 rfl (lv_at hl 3 rfl) ?_
    refine lv_iload_n hx hb dX12_wait_69 rfl (lv_at hl 1 rfl) ?_
    refine mv_calli [.int 30, .int x1, .int z6] (rest := []) hX hC (ct_emit l S11 30 x1 z6 _ h E _) (cw_X12_emit hts (by omega) (by omega)) rfl hl.1 (Nat.le_of_ble_eq_true rfl) ⟨Nat.zero_le _, Nat.zero_le _⟩ dX12_wait_70 (fun r12 S12 H locs hC h => ?_)
    refine lv_istore (lv' := [(4, .int r12), (3, .int r10), (2, .int z6), (0, .ref E.2.1), (1, .int x1)]) hx hb dX12_wait_73 hl (by decide) rfl (fun ls hl => ?_)
    refine lv_aload_n hx hb dX12_wait_75 rfl (lv_at hl 3 rfl) ?_
    refine mv_get (v := .ref (E.2.2.1 13)) hX hC 21 (Nat.le_of_ble_eq_true rfl) wd_1421 rfl dX12_wait_76 ?_
    refine lv_iload_n hx hb dX12_wait_79 rfl (lv_at hl 1 rfl) ?_
    refine lv_aload_n hx hb dX12_wait_80 rfl (lv_at hl 3 rfl) ?_
    refine mv_get (v := .int (S12.1 7)) hX hC 23 (Nat.le_of_ble_eq_true rfl) wd_1423 rfl dX12_wait_81 ?_
    refine mq_ist (n := 24000) (v := S12.1 7) hX hC 13 rfl rfl mf_13 dX12_wait_84 h.1 h.2 (fun S13 H locs hC h => ?_)
    refine lv_aload_n hx hb dX12_wait_85 rfl (lv_at hl 3 rfl) ?_
    refine mv_get (v := .ref (E.2.2.1 14)) hX hC 22 (Nat.le_of_ble_eq_true rfl) wd_1422 rfl dX12_wait_86 ?_
    refine lv_iload hx hb dX12_wait_89 (lv_at hl 0 rfl) ?_
    refine lv_iload_n hx hb dX12_wait_91 rfl (lv_at hl 2 rfl) ?_
    refine mq_ist (n := 24000) (v := z6) hX hC 14 rfl rfl mf_14 dX12_wait_92 h.1 h.2 (fun S14 H locs hC h => ?_)
    refine lv_aload_n hx hb dX12_wait_93 rfl (lv_at hl 3 rfl) ?_
    refine lv_iconst (v := 3) hx hb dX12_wait_94 (by decide) ?_
    refine lv_iload_n hx hb dX12_wait_95 rfl (lv_at hl 2 rfl) ?_
    refine mv_calli [.int 3, .int z6] (rest := []) hX hC (ct_then l S14 3 z6 _ h E _) (cw_X12_then hts (by omega) (by omega)) rfl hl.1 (Nat.le_of_ble_eq_true rfl) ⟨Nat.zero_le _, Nat.zero_le _⟩ dX12_wait_96 (fun r15 S15 H locs hC h => ?_)
    refine lv_istore (lv' := [(5, .int r15), (4, .int r12), (3, .int r10), (2, .int z6), (0, .ref E.2.1), (1, .int x1)]) hx hb dX12_wait_99 hl (by decide) rfl (fun ls hl => ?_)
    refine lv_aload_n hx hb dX12_wait_101 rfl (lv_at hl 4 rfl) ?_
    refine mv_get (v := .int (S15.1 4)) hX hC 8 (Nat.le_of_ble_eq_true rfl) wd_1408 rfl dX12_wait_102 ?_
    refine lv_if_ne (tgt := 124) hx hb dX12_wait_105 (by decide) (fun c16 => ?_) (fun c16 => ?_)
    · have h := h.1 c16
      exact cut124 x1 S15 _ _ _ h hC (lv_sub hl [4, 5] rfl)
    · have h := h.2 c16
      refine lv_aload_n hx hb dX12_wait_108 rfl (lv_at hl 4 rfl) ?_
      refine mv_get (v := .ref (E.2.2.1 24)) hX hC 34 (Nat.le_of_ble_eq_true rfl) wd_1434 rfl dX12_wait_109 ?_
      refine lv_bipush (v := 17) hx hb dX12_wait_112 (by decide) ?_
      refine lv_aload_n hx hb dX12_wait_114 rfl (lv_at hl 4 rfl) ?_
      refine mv_get (v := .int (S15.1 12)) hX hC 62 (Nat.le_of_ble_eq_true rfl) wd_1462 rfl dX12_wait_115 ?_
      refine lq_imul hx hb dX12_wait_118 h (fun z17 h => ?_)
      refine lv_iload_n hx hb dX12_wait_119 rfl (lv_at hl 3 rfl) ?_
      refine lq_iadd hx hb dX12_wait_120 h (fun z18 h => ?_)
      refine lv_iload hx hb dX12_wait_121 (lv_at hl 0 rfl) ?_
      refine mq_ist (n := 408) (v := r15) hX hC 24 rfl rfl mf_24 dX12_wait_123 h.1 h.2 (fun S19 H locs hC h => ?_)
      exact cut124 x1 S19 _ _ _ h hC (lv_sub hl [4, 5] rfl)
  have hl : lv_has ls 6 [(0, .ref E.2.1), (1, .int a0)] := hl
  unfold wp_wait at h
  refine lv_aload_n hx hb dX12_wait_0 rfl (lv_at hl 0 rfl) ?_
  refine mv_get (v := .ref (E.2.2.1 10)) hX hC 18 (Nat.le_of_ble_eq_true rfl) wd_1418 rfl dX12_wait_1 ?_
  refine lv_aload_n hx hb dX12_wait_4 rfl (lv_at hl 0 rfl) ?_
  refine mv_get (v := .int (S.1 12)) hX hC 62 (Nat.le_of_ble_eq_true rfl) wd_1462 rfl dX12_wait_5 ?_
  refine mq_ild (n := 24) hX hC 10 rfl rfl dX12_wait_8 h (fun z1 h => ?_)
  refine lv_bipush (v := 16) hx hb dX12_wait_9 (by decide) ?_
  refine lv_icmp_ne (tgt := 19) hx hb dX12_wait_11 (by decide) (fun c2 => ?_) (fun c2 => ?_)
  · have h := h.1 c2
    exact cut19 a0 S _ _ _ h hC (lv_sub hl [0, 1] rfl)
  · have h := h.2 c2
    refine lv_aload_n hx hb dX12_wait_14 rfl (lv_at hl 0 rfl) ?_
    refine lv_iconst (v := 5) hx hb dX12_wait_15 (by decide) ?_
    refine mv_callv [.int 5] (rest := []) hX hC (ct_wrong l S 5 _ h E _) (cw_X12_wrong hts (by omega) (by omega)) rfl hl.1 (Nat.le_of_ble_eq_true rfl) ⟨Nat.zero_le _, Nat.zero_le _⟩ dX12_wait_16 (fun S3 H locs hC h => ?_)
    exact cut19 a0 S3 _ _ _ h hC (lv_sub hl [0, 1] rfl)
def wp_sets (S : mS) (K : mS → Prop) : Prop := wp_isName S (fun (S1 : mS) (r1 : Int32) => ((¬ r1 = 0 → wp_takeCell S1 (fun (S3 : mS) (r3 : Int32) => wp_takeSign 61 S3 (fun (S4 : mS) => wp_isWord 1 S4 (fun (S5 : mS) (r5 : Int32) => ((r5 = 0 → wq_expression S5 (fun (S7 : mS) => wp_emit 13 r3 0 S7 (fun (S8 : mS) (r8 : Int32) => wp_then 2 r3 S8 (fun (S9 : mS) (r9 : Int32) => K S9)))) ∧ (¬ r5 = 0 → wp_wait r3 S5 (fun (S10 : mS) => K S10))))))) ∧ (r1 = 0 → wp_wrong 1 S1 (fun (S11 : mS) => K S11))))
theorem cw_X12_wait {R : Room} {s : State} {args : Array Value} {fr lo : Nat} (hts : ∀ w ∈ tb, w.before args s = true) (h1 : fr + 1 ≤ R.frames) (h2 : 8 + (6 + 11) + lo ≤ R.locals) : CallW R s args RX12 RX12 483 yX12_wait cX12_wait 6 none (.code yX12_wait cX12_wait 6 none :: tb) (mRm fr lo) 0 0 1 := cwV 1 hts (gd_V wd_1930 wd_1932 sl_X12_wait wd_15 wd_1933) rfl rfl rfl (by decide +kernel) ⟨h1, h2⟩
set_option maxHeartbeats 4000000 in
set_option maxRecDepth 100000 in
theorem ct_sets (l : Launch) (S : mS) (K : mS → Prop) (h : wp_sets S K) : mMv l yX12_sets cX12_sets 3 none 85 1862 (fun E => []) S K := by
  refine mv_ofv (by decide) rfl (fun _ => Nat.le_of_ble_eq_true rfl) ?_
  intro E p e R s m args below meth c A ls Q hRf hRl hX hC hl hret
  have hx := hX.1.1
  have hb := hX.1.2.1
  have hown := hX.1.2.2.2.1
  have hts := hX.1.2.2.2.2
  have hl : lv_has ls 3 [(0, .ref E.2.1)] := hl
  unfold wp_sets at h
  refine lv_aload_n hx hb dX12_sets_0 rfl (lv_at hl 0 rfl) ?_
  refine mv_calli [] (rest := []) hX hC (ct_isName l S _ h E _) (cw_X12_isName hts (by omega) (by omega)) rfl hl.1 (Nat.le_of_ble_eq_true rfl) ⟨Nat.zero_le _, Nat.zero_le _⟩ dX12_sets_1 (fun r1 S1 H locs hC h => ?_)
  refine lv_if_ne (tgt := 13) hx hb dX12_sets_4 (by decide) (fun c2 => ?_) (fun c2 => ?_)
  · have h := h.1 c2
    refine lv_aload_n hx hb dX12_sets_13 rfl (lv_at hl 0 rfl) ?_
    refine mv_calli [] (rest := []) hX hC (ct_takeCell l S1 _ h E _) (cw_X12_takeCell hts (by omega) (by omega)) rfl hl.1 (Nat.le_of_ble_eq_true rfl) ⟨Nat.zero_le _, Nat.zero_le _⟩ dX12_sets_14 (fun r3 S3 H locs hC h => ?_)
    refine lv_istore_n (lv' := [(1, .int r3), (0, .ref E.2.1)]) hx hb dX12_sets_17 rfl hl (by decide) rfl (fun ls hl => ?_)
    refine lv_aload_n hx hb dX12_sets_18 rfl (lv_at hl 1 rfl) ?_
    refine lv_bipush (v := 61) hx hb dX12_sets_19 (by decide) ?_
    refine mv_callv [.int 61] (rest := []) hX hC (ct_takeSign l S3 61 _ h E _) (cw_X12_takeSign hts (by omega) (by omega)) rfl hl.1 (Nat.le_of_ble_eq_true rfl) ⟨Nat.zero_le _, Nat.zero_le _⟩ dX12_sets_21 (fun S4 H locs hC h => ?_)
    refine lv_aload_n hx hb dX12_sets_24 rfl (lv_at hl 1 rfl) ?_
    refine lv_iconst (v := 1) hx hb dX12_sets_25 (by decide) ?_
    refine mv_calli [.int 1] (rest := []) hX hC (ct_isWord l S4 1 _ h E _) (cw_X12_isWord hts (by omega) (by omega)) rfl hl.1 (Nat.le_of_ble_eq_true rfl) ⟨Nat.zero_le _, Nat.zero_le _⟩ dX12_sets_26 (fun r5 S5 H locs hC h => ?_)
    refine lv_if_eq (tgt := 38) hx hb dX12_sets_29 (by decide) (fun c6 => ?_) (fun c6 => ?_)
    · have h := h.1 c6
      refine lv_aload_n hx hb dX12_sets_38 rfl (lv_at hl 1 rfl) ?_
      refine mv_callv [] (rest := []) hX hC (ct_expression l S5 _ h E _) (cw_X12_expression hts (by omega) (by omega)) rfl hl.1 (Nat.le_of_ble_eq_true rfl) ⟨Nat.zero_le _, Nat.zero_le _⟩ dX12_sets_39 (fun S7 H locs hC h => ?_)
      refine lv_aload_n hx hb dX12_sets_42 rfl (lv_at hl 1 rfl) ?_
      refine lv_bipush (v := 13) hx hb dX12_sets_43 (by decide) ?_
      refine lv_iload_n hx hb dX12_sets_45 rfl (lv_at hl 0 rfl) ?_
      refine lv_iconst (v := 0) hx hb dX12_sets_46 (by decide) ?_
      refine mv_calli [.int 13, .int r3, .int 0] (rest := []) hX hC (ct_emit l S7 13 r3 0 _ h E _) (cw_X12_emit hts (by omega) (by omega)) rfl hl.1 (Nat.le_of_ble_eq_true rfl) ⟨Nat.zero_le _, Nat.zero_le _⟩ dX12_sets_47 (fun r8 S8 H locs hC h => ?_)
      refine lv_istore_n (lv' := [(2, .int r8), (1, .int r3), (0, .ref E.2.1)]) hx hb dX12_sets_50 rfl hl (by decide) rfl (fun ls hl => ?_)
      refine lv_aload_n hx hb dX12_sets_51 rfl (lv_at hl 2 rfl) ?_
      refine lv_iconst (v := 2) hx hb dX12_sets_52 (by decide) ?_
      refine lv_iload_n hx hb dX12_sets_53 rfl (lv_at hl 1 rfl) ?_
      refine mv_calli [.int 2, .int r3] (rest := []) hX hC (ct_then l S8 2 r3 _ h E _) (cw_X12_then hts (by omega) (by omega)) rfl hl.1 (Nat.le_of_ble_eq_true rfl) ⟨Nat.zero_le _, Nat.zero_le _⟩ dX12_sets_54 (fun r9 S9 H locs hC h => ?_)
      refine lv_istore_n (lv' := [(2, .int r9), (1, .int r3), (0, .ref E.2.1)]) hx hb dX12_sets_57 rfl hl (by decide) rfl (fun ls hl => ?_)
      exact hret _ _ _ _ _ hC h dX12_sets_58
    · have h := h.2 c6
      refine lv_aload_n hx hb dX12_sets_32 rfl (lv_at hl 1 rfl) ?_
      refine lv_iload_n hx hb dX12_sets_33 rfl (lv_at hl 0 rfl) ?_
      refine mv_callv [.int r3] (rest := []) hX hC (ct_wait l S5 r3 _ h E _) (cw_X12_wait hts (by omega) (by omega)) rfl hl.1 (Nat.le_of_ble_eq_true rfl) ⟨Nat.zero_le _, Nat.zero_le _⟩ dX12_sets_34 (fun S10 H locs hC h => ?_)
      exact hret _ _ _ _ _ hC h dX12_sets_37
  · have h := h.2 c2
    refine lv_aload_n hx hb dX12_sets_7 rfl (lv_at hl 0 rfl) ?_
    refine lv_iconst (v := 1) hx hb dX12_sets_8 (by decide) ?_
    refine mv_callv [.int 1] (rest := []) hX hC (ct_wrong l S1 1 _ h E _) (cw_X12_wrong hts (by omega) (by omega)) rfl hl.1 (Nat.le_of_ble_eq_true rfl) ⟨Nat.zero_le _, Nat.zero_le _⟩ dX12_sets_9 (fun S11 H locs hC h => ?_)
    exact hret _ _ _ _ _ hC h dX12_sets_12
def wp_plain_115 (K : mS → Prop) (S : mS) : Prop := ∀ z23 : Int32, z23 = (S.1 3) + 1 → ∀ S24 : mS, S24 = sZ S 3 z23 → wq_expression S24 (fun (S25 : mS) => wp_emit 18 0 0 S25 (fun (S26 : mS) (r26 : Int32) => wp_then 10 0 S26 (fun (S27 : mS) (r27 : Int32) => wp_marks_r (-1) S27 (fun (S28 : mS) => ∀ S29 : mS, S29 = sZ S28 19 (-1) → K S29))))
def wp_plain_81 (K : mS → Prop) (S : mS) : Prop := wp_isWord 6 S (fun (S30 : mS) (r30 : Int32) => wp_leaves r30 S30 (fun (S31 : mS) => K S31))
def wp_plain (S : mS) (K : mS → Prop) : Prop := wp_hasWord 2 S (fun (S1 : mS) (r1 : Int32) => ((r1 = 0 → wp_hasWord 9 S1 (fun (S3 : mS) (r3 : Int32) => ((r3 = 0 → wp_isWord 6 S3 (fun (S5 : mS) (r5 : Int32) => ((¬ r5 = 0 → wp_plain_81 K S5) ∧ (r5 = 0 → wp_isWord 7 S5 (fun (S7 : mS) (r7 : Int32) => ((r7 = 0 → wp_isWord 8 S7 (fun (S9 : mS) (r9 : Int32) => ((r9 = 0 → wp_isWord 1 S9 (fun (S11 : mS) (r11 : Int32) => ((r11 = 0 → wp_sets S11 (fun (S13 : mS) => K S13)) ∧ (¬ r11 = 0 → wp_wait (-1) S11 (fun (S14 : mS) => K S14))))) ∧ (¬ r9 = 0 → ((¬ (S9.1 20) = 0 → wp_plain_115 K S9) ∧ ((S9.1 20) = 0 → wp_wrong 1 S9 (fun (S16 : mS) => wp_plain_115 K S16))))))) ∧ (¬ r7 = 0 → wp_plain_81 K S7))))))) ∧ (¬ r3 = 0 → wp_takeNumber 1 9 S3 (fun (S17 : mS) (r17 : Int32) => wp_emit 17 r17 0 S17 (fun (S18 : mS) (r18 : Int32) => wp_then 5 0 S18 (fun (S19 : mS) (r19 : Int32) => ∀ S20 : mS, S20 = sZ S19 19 (-1) → K S20))))))) ∧ (¬ r1 = 0 → wq_expression S1 (fun (S21 : mS) => wp_emit 14 0 0 S21 (fun (S22 : mS) (r22 : Int32) => K S22)))))
theorem cw_X12_sets {R : Room} {s : State} {args : Array Value} {fr lo : Nat} (hts : ∀ w ∈ tb, w.before args s = true) (h1 : fr + 1 ≤ R.frames) (h2 : 8 + (3 + 11) + lo ≤ R.locals) : CallW R s args RX12 RX12 486 yX12_sets cX12_sets 3 none (.code yX12_sets cX12_sets 3 none :: tb) (mRm fr lo) 0 0 0 := cwV 0 hts (gd_V wd_1950 wd_1952 sl_X12_sets wd_15 wd_1953) rfl rfl rfl (by decide +kernel) ⟨h1, h2⟩
theorem cw_X12_leaves {R : Room} {s : State} {args : Array Value} {fr lo : Nat} (hts : ∀ w ∈ tb, w.before args s = true) (h1 : fr + 1 ≤ R.frames) (h2 : 8 + (3 + 11) + lo ≤ R.locals) : CallW R s args RX12 RX12 476 yX12_leaves cX12_leaves 3 none (.code yX12_leaves cX12_leaves 3 none :: tb) (mRm fr lo) 0 0 1 := cwV 1 hts (gd_V wd_1922 wd_1924 sl_X12_leaves wd_15 wd_1925) rfl rfl rfl (by decide +kernel) ⟨h1, h2⟩
set_option maxHeartbeats 4000000 in
set_option maxRecDepth 100000 in
theorem ct_plain (l : Launch) (S : mS) (K : mS → Prop) (h : wp_plain S K) : mMv l yX12_plain cX12_plain 2 none 86 1884 (fun E => []) S K := by
  refine mv_ofv (by decide) rfl (fun _ => Nat.le_of_ble_eq_true rfl) ?_
  intro E p e R s m args below meth c A ls Q hRf hRl hX hC hl hret
  have hx := hX.1.1
  have hb := hX.1.2.1
  have hown := hX.1.2.2.2.1
  have hts := hX.1.2.2.2.2
  have cut115 : ∀ (S : mS) (H : Heap) (locs : List Loc) (ls : Array Slot), wp_plain_115 K S → mC E A s.heap S H locs → lv_has ls 2 [(0, .ref E.2.1)] → W p l e R s m args below meth c H locs 0 0 Q (F0 m 115 ls []) := by
    intro S H locs ls h hC hl
    unfold wp_plain_115 at h
    refine lv_aload_n hx hb dX12_plain_115 rfl (lv_at hl 0 rfl) ?_
    refine lv_dup hx hb dX12_plain_116 rfl ?_
    refine mv_get (v := .int (S.1 3)) hX hC 7 (Nat.le_of_ble_eq_true rfl) wd_1407 rfl dX12_plain_117 ?_
    refine lv_iconst (v := 1) hx hb dX12_plain_120 (by decide) ?_
    refine lq_iadd hx hb dX12_plain_121 h (fun z23 h => ?_)
    refine mq_put (v := z23) hX hC 7 3 (Nat.le_of_ble_eq_true rfl) wd_1407 rfl rfl rfl mz_3 dX12_plain_122 h (fun S24 H locs hC h => ?_)
    refine lv_aload_n hx hb dX12_plain_125 rfl (lv_at hl 0 rfl) ?_
    refine mv_callv [] (rest := []) hX hC (ct_expression l S24 _ h E _) (cw_X12_expression hts (by omega) (by omega)) rfl hl.1 (Nat.le_of_ble_eq_true rfl) ⟨Nat.zero_le _, Nat.zero_le _⟩ dX12_plain_126 (fun S25 H locs hC h => ?_)
    refine lv_aload_n hx hb dX12_plain_129 rfl (lv_at hl 0 rfl) ?_
    refine lv_bipush (v := 18) hx hb dX12_plain_130 (by decide) ?_
    refine lv_iconst (v := 0) hx hb dX12_plain_132 (by decide) ?_
    refine lv_iconst (v := 0) hx hb dX12_plain_133 (by decide) ?_
    refine mv_calli [.int 18, .int 0, .int 0] (rest := []) hX hC (ct_emit l S25 18 0 0 _ h E _) (cw_X12_emit hts (by omega) (by omega)) rfl hl.1 (Nat.le_of_ble_eq_true rfl) ⟨Nat.zero_le _, Nat.zero_le _⟩ dX12_plain_134 (fun r26 S26 H locs hC h => ?_)
    refine lv_istore_n (lv' := [(1, .int r26), (0, .ref E.2.1)]) hx hb dX12_plain_137 rfl hl (by decide) rfl (fun ls hl => ?_)
    refine lv_aload_n hx hb dX12_plain_138 rfl (lv_at hl 1 rfl) ?_
    refine lv_bipush (v := 10) hx hb dX12_plain_139 (by decide) ?_
    refine lv_iconst (v := 0) hx hb dX12_plain_141 (by decide) ?_
    refine mv_calli [.int 10, .int 0] (rest := []) hX hC (ct_then l S26 10 0 _ h E _) (cw_X12_then hts (by omega) (by omega)) rfl hl.1 (Nat.le_of_ble_eq_true rfl) ⟨Nat.zero_le _, Nat.zero_le _⟩ dX12_plain_142 (fun r27 S27 H locs hC h => ?_)
    refine lv_istore_n (lv' := [(1, .int r27), (0, .ref E.2.1)]) hx hb dX12_plain_145 rfl hl (by decide) rfl (fun ls hl => ?_)
    refine lv_aload_n hx hb dX12_plain_146 rfl (lv_at hl 1 rfl) ?_
    refine lv_aload_n hx hb dX12_plain_147 rfl (lv_at hl 1 rfl) ?_
    refine mv_get (v := .ref (E.2.2.1 39)) hX hC 50 (Nat.le_of_ble_eq_true rfl) wd_1450 rfl dX12_plain_148 ?_
    refine lv_iconst (v := -1) hx hb dX12_plain_151 (by decide) ?_
    refine mv_callv [.ref (E.2.2.1 39), .int (-1)] (rest := []) hX hC (ct_marks_r l S27 (-1) _ h E _) (cw_X12_marks hts (by omega) (by omega)) rfl hl.1 (Nat.le_of_ble_eq_true rfl) ⟨Nat.zero_le _, Nat.zero_le _⟩ dX12_plain_152 (fun S28 H locs hC h => ?_)
    refine lv_aload_n hx hb dX12_plain_155 rfl (lv_at hl 1 rfl) ?_
    refine lv_iconst (v := -1) hx hb dX12_plain_156 (by decide) ?_
    refine mq_put (v := -1) hX hC 69 19 (Nat.le_of_ble_eq_true rfl) wd_1469 rfl rfl rfl mz_19 dX12_plain_157 h (fun S29 H locs hC h => ?_)
    refine lv_goto (tgt := 183) hx hb dX12_plain_160 (by decide) ?_
    exact hret _ _ _ _ _ hC h dX12_plain_183
  have cut81 : ∀ (S : mS) (H : Heap) (locs : List Loc) (ls : Array Slot), wp_plain_81 K S → mC E A s.heap S H locs → lv_has ls 2 [(0, .ref E.2.1)] → W p l e R s m args below meth c H locs 0 0 Q (F0 m 81 ls []) := by
    intro S H locs ls h hC hl
    unfold wp_plain_81 at h
    refine lv_aload_n hx hb dX12_plain_81 rfl (lv_at hl 0 rfl) ?_
    refine lv_aload_n hx hb dX12_plain_82 rfl (lv_at hl 0 rfl) ?_
    refine lv_bipush (v := 6) hx hb dX12_plain_83 (by decide) ?_
    refine mv_calli [.int 6] (rest := [.ref E.2.1]) hX hC (ct_isWord l S 6 _ h E _) (cw_X12_isWord hts (by omega) (by omega)) rfl hl.1 (Nat.le_of_ble_eq_true rfl) ⟨Nat.zero_le _, Nat.zero_le _⟩ dX12_plain_85 (fun r30 S30 H locs hC h => ?_)
    refine mv_callv [.int r30] (rest := []) hX hC (ct_leaves l S30 r30 _ h E _) (cw_X12_leaves hts (by omega) (by omega)) rfl hl.1 (Nat.le_of_ble_eq_true rfl) ⟨Nat.zero_le _, Nat.zero_le _⟩ dX12_plain_88 (fun S31 H locs hC h => ?_)
    refine lv_goto (tgt := 183) hx hb dX12_plain_91 (by decide) ?_
    exact hret _ _ _ _ _ hC h dX12_plain_183
  have hl : lv_has ls 2 [(0, .ref E.2.1)] := hl
  unfold wp_plain at h
  refine lv_aload_n hx hb dX12_plain_0 rfl (lv_at hl 0 rfl) ?_
  refine lv_iconst (v := 2) hx hb dX12_plain_1 (by decide) ?_
  refine mv_calli [.int 2] (rest := []) hX hC (ct_hasWord l S 2 _ h E _) (cw_X12_hasWord hts (by omega) (by omega)) rfl hl.1 (Nat.le_of_ble_eq_true rfl) ⟨Nat.zero_le _, Nat.zero_le _⟩ dX12_plain_2 (fun r1 S1 H locs hC h => ?_)
  refine lv_if_eq (tgt := 24) hx hb dX12_plain_5 (by decide) (fun c2 => ?_) (fun c2 => ?_)
  · have h := h.1 c2
    refine lv_aload_n hx hb dX12_plain_24 rfl (lv_at hl 0 rfl) ?_
    refine lv_bipush (v := 9) hx hb dX12_plain_25 (by decide) ?_
    refine mv_calli [.int 9] (rest := []) hX hC (ct_hasWord l S1 9 _ h E _) (cw_X12_hasWord hts (by omega) (by omega)) rfl hl.1 (Nat.le_of_ble_eq_true rfl) ⟨Nat.zero_le _, Nat.zero_le _⟩ dX12_plain_27 (fun r3 S3 H locs hC h => ?_)
    refine lv_if_eq (tgt := 63) hx hb dX12_plain_30 (by decide) (fun c4 => ?_) (fun c4 => ?_)
    · have h := h.1 c4
      refine lv_aload_n hx hb dX12_plain_63 rfl (lv_at hl 0 rfl) ?_
      refine lv_bipush (v := 6) hx hb dX12_plain_64 (by decide) ?_
      refine mv_calli [.int 6] (rest := []) hX hC (ct_isWord l S3 6 _ h E _) (cw_X12_isWord hts (by omega) (by omega)) rfl hl.1 (Nat.le_of_ble_eq_true rfl) ⟨Nat.zero_le _, Nat.zero_le _⟩ dX12_plain_66 (fun r5 S5 H locs hC h => ?_)
      refine lv_if_ne (tgt := 81) hx hb dX12_plain_69 (by decide) (fun c6 => ?_) (fun c6 => ?_)
      · have h := h.1 c6
        exact cut81 S5 _ _ _ h hC (lv_sub hl [0] rfl)
      · have h := h.2 c6
        refine lv_aload_n hx hb dX12_plain_72 rfl (lv_at hl 0 rfl) ?_
        refine lv_bipush (v := 7) hx hb dX12_plain_73 (by decide) ?_
        refine mv_calli [.int 7] (rest := []) hX hC (ct_isWord l S5 7 _ h E _) (cw_X12_isWord hts (by omega) (by omega)) rfl hl.1 (Nat.le_of_ble_eq_true rfl) ⟨Nat.zero_le _, Nat.zero_le _⟩ dX12_plain_75 (fun r7 S7 H locs hC h => ?_)
        refine lv_if_eq (tgt := 94) hx hb dX12_plain_78 (by decide) (fun c8 => ?_) (fun c8 => ?_)
        · have h := h.1 c8
          refine lv_aload_n hx hb dX12_plain_94 rfl (lv_at hl 0 rfl) ?_
          refine lv_bipush (v := 8) hx hb dX12_plain_95 (by decide) ?_
          refine mv_calli [.int 8] (rest := []) hX hC (ct_isWord l S7 8 _ h E _) (cw_X12_isWord hts (by omega) (by omega)) rfl hl.1 (Nat.le_of_ble_eq_true rfl) ⟨Nat.zero_le _, Nat.zero_le _⟩ dX12_plain_97 (fun r9 S9 H locs hC h => ?_)
          refine lv_if_eq (tgt := 163) hx hb dX12_plain_100 (by decide) (fun c10 => ?_) (fun c10 => ?_)
          · have h := h.1 c10
            refine lv_aload_n hx hb dX12_plain_163 rfl (lv_at hl 0 rfl) ?_
            refine lv_iconst (v := 1) hx hb dX12_plain_164 (by decide) ?_
            refine mv_calli [.int 1] (rest := []) hX hC (ct_isWord l S9 1 _ h E _) (cw_X12_isWord hts (by omega) (by omega)) rfl hl.1 (Nat.le_of_ble_eq_true rfl) ⟨Nat.zero_le _, Nat.zero_le _⟩ dX12_plain_165 (fun r11 S11 H locs hC h => ?_)
            refine lv_if_eq (tgt := 179) hx hb dX12_plain_168 (by decide) (fun c12 => ?_) (fun c12 => ?_)
            · have h := h.1 c12
              refine lv_aload_n hx hb dX12_plain_179 rfl (lv_at hl 0 rfl) ?_
              refine mv_callv [] (rest := []) hX hC (ct_sets l S11 _ h E _) (cw_X12_sets hts (by omega) (by omega)) rfl hl.1 (Nat.le_of_ble_eq_true rfl) ⟨Nat.zero_le _, Nat.zero_le _⟩ dX12_plain_180 (fun S13 H locs hC h => ?_)
              exact hret _ _ _ _ _ hC h dX12_plain_183
            · have h := h.2 c12
              refine lv_aload_n hx hb dX12_plain_171 rfl (lv_at hl 0 rfl) ?_
              refine lv_iconst (v := -1) hx hb dX12_plain_172 (by decide) ?_
              refine mv_callv [.int (-1)] (rest := []) hX hC (ct_wait l S11 (-1) _ h E _) (cw_X12_wait hts (by omega) (by omega)) rfl hl.1 (Nat.le_of_ble_eq_true rfl) ⟨Nat.zero_le _, Nat.zero_le _⟩ dX12_plain_173 (fun S14 H locs hC h => ?_)
              refine lv_goto (tgt := 183) hx hb dX12_plain_176 (by decide) ?_
              exact hret _ _ _ _ _ hC h dX12_plain_183
          · have h := h.2 c10
            refine lv_aload_n hx hb dX12_plain_103 rfl (lv_at hl 0 rfl) ?_
            refine mv_get (v := .int (S9.1 20)) hX hC 70 (Nat.le_of_ble_eq_true rfl) wd_1470 rfl dX12_plain_104 ?_
            refine lv_if_ne (tgt := 115) hx hb dX12_plain_107 (by decide) (fun c15 => ?_) (fun c15 => ?_)
            · have h := h.1 c15
              exact cut115 S9 _ _ _ h hC (lv_sub hl [0] rfl)
            · have h := h.2 c15
              refine lv_aload_n hx hb dX12_plain_110 rfl (lv_at hl 0 rfl) ?_
              refine lv_iconst (v := 1) hx hb dX12_plain_111 (by decide) ?_
              refine mv_callv [.int 1] (rest := []) hX hC (ct_wrong l S9 1 _ h E _) (cw_X12_wrong hts (by omega) (by omega)) rfl hl.1 (Nat.le_of_ble_eq_true rfl) ⟨Nat.zero_le _, Nat.zero_le _⟩ dX12_plain_112 (fun S16 H locs hC h => ?_)
              exact cut115 S16 _ _ _ h hC (lv_sub hl [0] rfl)
        · have h := h.2 c8
          exact cut81 S7 _ _ _ h hC (lv_sub hl [0] rfl)
    · have h := h.2 c4
      refine lv_aload_n hx hb dX12_plain_33 rfl (lv_at hl 0 rfl) ?_
      refine lv_bipush (v := 17) hx hb dX12_plain_34 (by decide) ?_
      refine lv_aload_n hx hb dX12_plain_36 rfl (lv_at hl 0 rfl) ?_
      refine lv_iconst (v := 1) hx hb dX12_plain_37 (by decide) ?_
      refine lv_bipush (v := 9) hx hb dX12_plain_38 (by decide) ?_
      refine mv_calli [.int 1, .int 9] (rest := [.int 17, .ref E.2.1]) hX hC (ct_takeNumber l S3 1 9 _ h E _) (cw_X12_takeNumber hts (by omega) (by omega)) rfl hl.1 (Nat.le_of_ble_eq_true rfl) ⟨Nat.zero_le _, Nat.zero_le _⟩ dX12_plain_40 (fun r17 S17 H locs hC h => ?_)
      refine lv_iconst (v := 0) hx hb dX12_plain_43 (by decide) ?_
      refine mv_calli [.int 17, .int r17, .int 0] (rest := []) hX hC (ct_emit l S17 17 r17 0 _ h E _) (cw_X12_emit hts (by omega) (by omega)) rfl hl.1 (Nat.le_of_ble_eq_true rfl) ⟨Nat.zero_le _, Nat.zero_le _⟩ dX12_plain_44 (fun r18 S18 H locs hC h => ?_)
      refine lv_istore_n (lv' := [(1, .int r18), (0, .ref E.2.1)]) hx hb dX12_plain_47 rfl hl (by decide) rfl (fun ls hl => ?_)
      refine lv_aload_n hx hb dX12_plain_48 rfl (lv_at hl 1 rfl) ?_
      refine lv_iconst (v := 5) hx hb dX12_plain_49 (by decide) ?_
      refine lv_iconst (v := 0) hx hb dX12_plain_50 (by decide) ?_
      refine mv_calli [.int 5, .int 0] (rest := []) hX hC (ct_then l S18 5 0 _ h E _) (cw_X12_then hts (by omega) (by omega)) rfl hl.1 (Nat.le_of_ble_eq_true rfl) ⟨Nat.zero_le _, Nat.zero_le _⟩ dX12_plain_51 (fun r19 S19 H locs hC h => ?_)
      refine lv_istore_n (lv' := [(1, .int r19), (0, .ref E.2.1)]) hx hb dX12_plain_54 rfl hl (by decide) rfl (fun ls hl => ?_)
      refine lv_aload_n hx hb dX12_plain_55 rfl (lv_at hl 1 rfl) ?_
      refine lv_iconst (v := -1) hx hb dX12_plain_56 (by decide) ?_
      refine mq_put (v := -1) hX hC 69 19 (Nat.le_of_ble_eq_true rfl) wd_1469 rfl rfl rfl mz_19 dX12_plain_57 h (fun S20 H locs hC h => ?_)
      refine lv_goto (tgt := 183) hx hb dX12_plain_60 (by decide) ?_
      exact hret _ _ _ _ _ hC h dX12_plain_183
  · have h := h.2 c2
    refine lv_aload_n hx hb dX12_plain_8 rfl (lv_at hl 0 rfl) ?_
    refine mv_callv [] (rest := []) hX hC (ct_expression l S1 _ h E _) (cw_X12_expression hts (by omega) (by omega)) rfl hl.1 (Nat.le_of_ble_eq_true rfl) ⟨Nat.zero_le _, Nat.zero_le _⟩ dX12_plain_9 (fun S21 H locs hC h => ?_)
    refine lv_aload_n hx hb dX12_plain_12 rfl (lv_at hl 0 rfl) ?_
    refine lv_bipush (v := 14) hx hb dX12_plain_13 (by decide) ?_
    refine lv_iconst (v := 0) hx hb dX12_plain_15 (by decide) ?_
    refine lv_iconst (v := 0) hx hb dX12_plain_16 (by decide) ?_
    refine mv_calli [.int 14, .int 0, .int 0] (rest := []) hX hC (ct_emit l S21 14 0 0 _ h E _) (cw_X12_emit hts (by omega) (by omega)) rfl hl.1 (Nat.le_of_ble_eq_true rfl) ⟨Nat.zero_le _, Nat.zero_le _⟩ dX12_plain_17 (fun r22 S22 H locs hC h => ?_)
    refine lv_istore_n (lv' := [(1, .int r22), (0, .ref E.2.1)]) hx hb dX12_plain_20 rfl hl (by decide) rfl (fun ls hl => ?_)
    refine lv_goto (tgt := 183) hx hb dX12_plain_21 (by decide) ?_
    exact hret _ _ _ _ _ hC h dX12_plain_183
