theorem wd_1499 : (Jvm.Cond.fieldLink "SleepersModel" (548 : Nat) "SleepersModel" "clock" "I") ∈ tb := tb_at 1499 (by decide +kernel) (by decide +kernel)
theorem wd_1500 : (Jvm.Cond.fieldLink "SleepersModel" (596 : Nat) "SleepersModel" "steps" "I") ∈ tb := tb_at 1500 (by decide +kernel) (by decide +kernel)
theorem wd_1501 : (Jvm.Cond.fieldLink "SleepersModel" (551 : Nat) "SleepersModel" "latest" "I") ∈ tb := tb_at 1501 (by decide +kernel) (by decide +kernel)
theorem dX12_count_0 : decode cX12_count 0 = .ok (.aload_n 0, 1) := by decide +kernel
theorem dX12_count_1 : decode cX12_count 1 = .ok (.iconst 0, 1) := by decide +kernel
theorem dX12_count_2 : decode cX12_count 2 = .ok (.putfield 1, 3) := by decide +kernel
theorem dX12_count_5 : decode cX12_count 5 = .ok (.iconst 0, 1) := by decide +kernel
theorem dX12_count_6 : decode cX12_count 6 = .ok (.istore_n 2, 1) := by decide +kernel
theorem dX12_count_7 : decode cX12_count 7 = .ok (.iconst 0, 1) := by decide +kernel
theorem dX12_count_8 : decode cX12_count 8 = .ok (.istore_n 3, 1) := by decide +kernel
theorem dX12_count_9 : decode cX12_count 9 = .ok (.iconst 0, 1) := by decide +kernel
theorem dX12_count_10 : decode cX12_count 10 = .ok (.istore 4, 2) := by decide +kernel
theorem dX12_count_12 : decode cX12_count 12 = .ok (.iload 4, 2) := by decide +kernel
theorem dX12_count_14 : decode cX12_count 14 = .ok (.aload_n 0, 1) := by decide +kernel
theorem dX12_count_15 : decode cX12_count 15 = .ok (.getfield 542, 3) := by decide +kernel
theorem dX12_count_18 : decode cX12_count 18 = .ok (.if_icmp .ge 58, 3) := by decide +kernel
theorem dX12_count_21 : decode cX12_count 21 = .ok (.iload_n 2, 1) := by decide +kernel
theorem dX12_count_22 : decode cX12_count 22 = .ok (.aload_n 0, 1) := by decide +kernel
theorem dX12_count_23 : decode cX12_count 23 = .ok (.getfield 195, 3) := by decide +kernel
theorem dX12_count_26 : decode cX12_count 26 = .ok (.iload 4, 2) := by decide +kernel
theorem dX12_count_28 : decode cX12_count 28 = .ok (.iaload, 1) := by decide +kernel
theorem dX12_count_29 : decode cX12_count 29 = .ok (.iconst 3, 1) := by decide +kernel
theorem dX12_count_30 : decode cX12_count 30 = .ok (.if_icmp .ne 7, 3) := by decide +kernel
theorem dX12_count_33 : decode cX12_count 33 = .ok (.iconst 1, 1) := by decide +kernel
theorem dX12_count_34 : decode cX12_count 34 = .ok (.goto 4, 3) := by decide +kernel
theorem dX12_count_37 : decode cX12_count 37 = .ok (.iconst 0, 1) := by decide +kernel
theorem dX12_count_38 : decode cX12_count 38 = .ok (.iadd, 1) := by decide +kernel
theorem dX12_count_39 : decode cX12_count 39 = .ok (.istore_n 2, 1) := by decide +kernel
theorem dX12_count_40 : decode cX12_count 40 = .ok (.iload_n 3, 1) := by decide +kernel
theorem dX12_count_41 : decode cX12_count 41 = .ok (.aload_n 0, 1) := by decide +kernel
theorem dX12_count_42 : decode cX12_count 42 = .ok (.getfield 195, 3) := by decide +kernel
theorem dX12_count_45 : decode cX12_count 45 = .ok (.iload 4, 2) := by decide +kernel
theorem dX12_count_47 : decode cX12_count 47 = .ok (.iaload, 1) := by decide +kernel
theorem dX12_count_48 : decode cX12_count 48 = .ok (.iconst 1, 1) := by decide +kernel
theorem dX12_count_49 : decode cX12_count 49 = .ok (.if_icmp .eq 14, 3) := by decide +kernel
theorem dX12_count_52 : decode cX12_count 52 = .ok (.aload_n 0, 1) := by decide +kernel
theorem dX12_count_53 : decode cX12_count 53 = .ok (.getfield 195, 3) := by decide +kernel
theorem dX12_count_56 : decode cX12_count 56 = .ok (.iload 4, 2) := by decide +kernel
theorem dX12_count_58 : decode cX12_count 58 = .ok (.iaload, 1) := by decide +kernel
theorem dX12_count_59 : decode cX12_count 59 = .ok (.iconst 2, 1) := by decide +kernel
theorem dX12_count_60 : decode cX12_count 60 = .ok (.if_icmp .ne 7, 3) := by decide +kernel
theorem dX12_count_63 : decode cX12_count 63 = .ok (.iconst 1, 1) := by decide +kernel
theorem dX12_count_64 : decode cX12_count 64 = .ok (.goto 4, 3) := by decide +kernel
theorem dX12_count_67 : decode cX12_count 67 = .ok (.iconst 0, 1) := by decide +kernel
theorem dX12_count_68 : decode cX12_count 68 = .ok (.iadd, 1) := by decide +kernel
theorem dX12_count_69 : decode cX12_count 69 = .ok (.istore_n 3, 1) := by decide +kernel
theorem dX12_count_70 : decode cX12_count 70 = .ok (.iinc 4 1, 3) := by decide +kernel
theorem dX12_count_73 : decode cX12_count 73 = .ok (.goto (-61), 3) := by decide +kernel
theorem dX12_count_76 : decode cX12_count 76 = .ok (.iconst 0, 1) := by decide +kernel
theorem dX12_count_77 : decode cX12_count 77 = .ok (.istore 4, 2) := by decide +kernel
theorem dX12_count_79 : decode cX12_count 79 = .ok (.iconst 0, 1) := by decide +kernel
theorem dX12_count_80 : decode cX12_count 80 = .ok (.istore 5, 2) := by decide +kernel
theorem dX12_count_82 : decode cX12_count 82 = .ok (.iload 5, 2) := by decide +kernel
theorem dX12_count_84 : decode cX12_count 84 = .ok (.bipush 8, 2) := by decide +kernel
theorem dX12_count_86 : decode cX12_count 86 = .ok (.if_icmp .ge 21, 3) := by decide +kernel
theorem dX12_count_89 : decode cX12_count 89 = .ok (.iload 4, 2) := by decide +kernel
theorem dX12_count_91 : decode cX12_count 91 = .ok (.aload_n 0, 1) := by decide +kernel
theorem dX12_count_92 : decode cX12_count 92 = .ok (.getfield 267, 3) := by decide +kernel
theorem dX12_count_95 : decode cX12_count 95 = .ok (.iload 5, 2) := by decide +kernel
theorem dX12_count_97 : decode cX12_count 97 = .ok (.iaload, 1) := by decide +kernel
theorem dX12_count_98 : decode cX12_count 98 = .ok (.iadd, 1) := by decide +kernel
theorem dX12_count_99 : decode cX12_count 99 = .ok (.istore 4, 2) := by decide +kernel
theorem dX12_count_101 : decode cX12_count 101 = .ok (.iinc 5 1, 3) := by decide +kernel
theorem dX12_count_104 : decode cX12_count 104 = .ok (.goto (-22), 3) := by decide +kernel
theorem dX12_count_107 : decode cX12_count 107 = .ok (.iload_n 1, 1) := by decide +kernel
theorem dX12_count_108 : decode cX12_count 108 = .ok (.tableswitch 121 0 11 #[64, 74, 79, 81, 86, 88, 93, 98, 103, 108, 113, 116], 64) := by decide +kernel
theorem dX12_count_172 : decode cX12_count 172 = .ok (.aload_n 0, 1) := by decide +kernel
theorem dX12_count_173 : decode cX12_count 173 = .ok (.getfield 43, 3) := by decide +kernel
theorem dX12_count_176 : decode cX12_count 176 = .ok (.aload_n 0, 1) := by decide +kernel
theorem dX12_count_177 : decode cX12_count 177 = .ok (.getfield 356, 3) := by decide +kernel
theorem dX12_count_180 : decode cX12_count 180 = .ok (.iaload, 1) := by decide +kernel
theorem dX12_count_181 : decode cX12_count 181 = .ok (.ireturn, 1) := by decide +kernel
theorem dX12_count_182 : decode cX12_count 182 = .ok (.aload_n 0, 1) := by decide +kernel
theorem dX12_count_183 : decode cX12_count 183 = .ok (.getfield 542, 3) := by decide +kernel
theorem dX12_count_186 : decode cX12_count 186 = .ok (.ireturn, 1) := by decide +kernel
theorem dX12_count_187 : decode cX12_count 187 = .ok (.iload_n 2, 1) := by decide +kernel
theorem dX12_count_188 : decode cX12_count 188 = .ok (.ireturn, 1) := by decide +kernel
theorem dX12_count_189 : decode cX12_count 189 = .ok (.aload_n 0, 1) := by decide +kernel
theorem dX12_count_190 : decode cX12_count 190 = .ok (.getfield 545, 3) := by decide +kernel
theorem dX12_count_193 : decode cX12_count 193 = .ok (.ireturn, 1) := by decide +kernel
theorem dX12_count_194 : decode cX12_count 194 = .ok (.iload_n 3, 1) := by decide +kernel
theorem dX12_count_195 : decode cX12_count 195 = .ok (.ireturn, 1) := by decide +kernel
theorem dX12_count_196 : decode cX12_count 196 = .ok (.aload_n 0, 1) := by decide +kernel
theorem dX12_count_197 : decode cX12_count 197 = .ok (.getfield 554, 3) := by decide +kernel
theorem dX12_count_200 : decode cX12_count 200 = .ok (.ireturn, 1) := by decide +kernel
theorem dX12_count_201 : decode cX12_count 201 = .ok (.aload_n 0, 1) := by decide +kernel
theorem dX12_count_202 : decode cX12_count 202 = .ok (.getfield 557, 3) := by decide +kernel
theorem dX12_count_205 : decode cX12_count 205 = .ok (.ireturn, 1) := by decide +kernel
theorem dX12_count_206 : decode cX12_count 206 = .ok (.aload_n 0, 1) := by decide +kernel
theorem dX12_count_207 : decode cX12_count 207 = .ok (.getfield 548, 3) := by decide +kernel
theorem dX12_count_210 : decode cX12_count 210 = .ok (.ireturn, 1) := by decide +kernel
theorem dX12_count_211 : decode cX12_count 211 = .ok (.aload_n 0, 1) := by decide +kernel
theorem dX12_count_212 : decode cX12_count 212 = .ok (.getfield 596, 3) := by decide +kernel
theorem dX12_count_215 : decode cX12_count 215 = .ok (.ireturn, 1) := by decide +kernel
theorem dX12_count_216 : decode cX12_count 216 = .ok (.aload_n 0, 1) := by decide +kernel
theorem dX12_count_217 : decode cX12_count 217 = .ok (.getfield 551, 3) := by decide +kernel
theorem dX12_count_220 : decode cX12_count 220 = .ok (.ireturn, 1) := by decide +kernel
theorem dX12_count_221 : decode cX12_count 221 = .ok (.iload 4, 2) := by decide +kernel
theorem dX12_count_223 : decode cX12_count 223 = .ok (.ireturn, 1) := by decide +kernel
theorem dX12_count_224 : decode cX12_count 224 = .ok (.aload_n 0, 1) := by decide +kernel
theorem dX12_count_225 : decode cX12_count 225 = .ok (.getfield 11, 3) := by decide +kernel
theorem dX12_count_228 : decode cX12_count 228 = .ok (.ireturn, 1) := by decide +kernel
theorem dX12_count_229 : decode cX12_count 229 = .ok (.iconst (-1), 1) := by decide +kernel
theorem dX12_count_230 : decode cX12_count 230 = .ok (.ireturn, 1) := by decide +kernel
theorem dX12_isDigit_0 : decode cX12_isDigit 0 = .ok (.iload_n 0, 1) := by decide +kernel
theorem dX12_isDigit_1 : decode cX12_isDigit 1 = .ok (.bipush 48, 2) := by decide +kernel
theorem dX12_isDigit_3 : decode cX12_isDigit 3 = .ok (.if_icmp .lt 13, 3) := by decide +kernel
theorem dX12_isDigit_6 : decode cX12_isDigit 6 = .ok (.iload_n 0, 1) := by decide +kernel
theorem dX12_isDigit_7 : decode cX12_isDigit 7 = .ok (.bipush 57, 2) := by decide +kernel
theorem dX12_isDigit_9 : decode cX12_isDigit 9 = .ok (.if_icmp .gt 7, 3) := by decide +kernel
theorem dX12_isDigit_12 : decode cX12_isDigit 12 = .ok (.iconst 1, 1) := by decide +kernel
theorem dX12_isDigit_13 : decode cX12_isDigit 13 = .ok (.goto 4, 3) := by decide +kernel
theorem dX12_isDigit_16 : decode cX12_isDigit 16 = .ok (.iconst 0, 1) := by decide +kernel
theorem dX12_isDigit_17 : decode cX12_isDigit 17 = .ok (.ireturn, 1) := by decide +kernel
theorem dX12_isSignOf_0 : decode cX12_isSignOf 0 = .ok (.iload_n 0, 1) := by decide +kernel
theorem dX12_isSignOf_1 : decode cX12_isSignOf 1 = .ok (.bipush 123, 2) := by decide +kernel
theorem dX12_isSignOf_3 : decode cX12_isSignOf 3 = .ok (.if_icmp .eq 75, 3) := by decide +kernel
theorem dX12_isSignOf_6 : decode cX12_isSignOf 6 = .ok (.iload_n 0, 1) := by decide +kernel
theorem dX12_isSignOf_7 : decode cX12_isSignOf 7 = .ok (.bipush 125, 2) := by decide +kernel
theorem dX12_isSignOf_9 : decode cX12_isSignOf 9 = .ok (.if_icmp .eq 69, 3) := by decide +kernel
theorem dX12_isSignOf_12 : decode cX12_isSignOf 12 = .ok (.iload_n 0, 1) := by decide +kernel
theorem dX12_isSignOf_13 : decode cX12_isSignOf 13 = .ok (.bipush 40, 2) := by decide +kernel
theorem dX12_isSignOf_15 : decode cX12_isSignOf 15 = .ok (.if_icmp .eq 63, 3) := by decide +kernel
theorem dX12_isSignOf_18 : decode cX12_isSignOf 18 = .ok (.iload_n 0, 1) := by decide +kernel
theorem dX12_isSignOf_19 : decode cX12_isSignOf 19 = .ok (.bipush 41, 2) := by decide +kernel
theorem dX12_isSignOf_21 : decode cX12_isSignOf 21 = .ok (.if_icmp .eq 57, 3) := by decide +kernel
theorem dX12_isSignOf_24 : decode cX12_isSignOf 24 = .ok (.iload_n 0, 1) := by decide +kernel
theorem dX12_isSignOf_25 : decode cX12_isSignOf 25 = .ok (.bipush 44, 2) := by decide +kernel
theorem dX12_isSignOf_27 : decode cX12_isSignOf 27 = .ok (.if_icmp .eq 51, 3) := by decide +kernel
theorem dX12_isSignOf_30 : decode cX12_isSignOf 30 = .ok (.iload_n 0, 1) := by decide +kernel
theorem dX12_isSignOf_31 : decode cX12_isSignOf 31 = .ok (.bipush 59, 2) := by decide +kernel
theorem dX12_isSignOf_33 : decode cX12_isSignOf 33 = .ok (.if_icmp .eq 45, 3) := by decide +kernel
theorem dX12_isSignOf_36 : decode cX12_isSignOf 36 = .ok (.iload_n 0, 1) := by decide +kernel
theorem dX12_isSignOf_37 : decode cX12_isSignOf 37 = .ok (.bipush 61, 2) := by decide +kernel
theorem dX12_isSignOf_39 : decode cX12_isSignOf 39 = .ok (.if_icmp .eq 39, 3) := by decide +kernel
theorem dX12_isSignOf_42 : decode cX12_isSignOf 42 = .ok (.iload_n 0, 1) := by decide +kernel
theorem dX12_isSignOf_43 : decode cX12_isSignOf 43 = .ok (.bipush 60, 2) := by decide +kernel
theorem dX12_isSignOf_45 : decode cX12_isSignOf 45 = .ok (.if_icmp .eq 33, 3) := by decide +kernel
theorem dX12_isSignOf_48 : decode cX12_isSignOf 48 = .ok (.iload_n 0, 1) := by decide +kernel
theorem dX12_isSignOf_49 : decode cX12_isSignOf 49 = .ok (.bipush 43, 2) := by decide +kernel
theorem dX12_isSignOf_51 : decode cX12_isSignOf 51 = .ok (.if_icmp .eq 27, 3) := by decide +kernel
theorem dX12_isSignOf_54 : decode cX12_isSignOf 54 = .ok (.iload_n 0, 1) := by decide +kernel
theorem dX12_isSignOf_55 : decode cX12_isSignOf 55 = .ok (.bipush 45, 2) := by decide +kernel
theorem dX12_isSignOf_57 : decode cX12_isSignOf 57 = .ok (.if_icmp .eq 21, 3) := by decide +kernel
theorem dX12_isSignOf_60 : decode cX12_isSignOf 60 = .ok (.iload_n 0, 1) := by decide +kernel
theorem dX12_isSignOf_61 : decode cX12_isSignOf 61 = .ok (.bipush 42, 2) := by decide +kernel
theorem dX12_isSignOf_63 : decode cX12_isSignOf 63 = .ok (.if_icmp .eq 15, 3) := by decide +kernel
theorem dX12_isSignOf_66 : decode cX12_isSignOf 66 = .ok (.iload_n 0, 1) := by decide +kernel
theorem dX12_isSignOf_67 : decode cX12_isSignOf 67 = .ok (.bipush 47, 2) := by decide +kernel
theorem dX12_isSignOf_69 : decode cX12_isSignOf 69 = .ok (.if_icmp .eq 9, 3) := by decide +kernel
theorem dX12_isSignOf_72 : decode cX12_isSignOf 72 = .ok (.iload_n 0, 1) := by decide +kernel
theorem dX12_isSignOf_73 : decode cX12_isSignOf 73 = .ok (.bipush 37, 2) := by decide +kernel
theorem dX12_isSignOf_75 : decode cX12_isSignOf 75 = .ok (.if_icmp .ne 7, 3) := by decide +kernel
theorem dX12_isSignOf_78 : decode cX12_isSignOf 78 = .ok (.iconst 1, 1) := by decide +kernel
theorem dX12_isSignOf_79 : decode cX12_isSignOf 79 = .ok (.goto 4, 3) := by decide +kernel
theorem dX12_isSignOf_82 : decode cX12_isSignOf 82 = .ok (.iconst 0, 1) := by decide +kernel
theorem dX12_isSignOf_83 : decode cX12_isSignOf 83 = .ok (.ireturn, 1) := by decide +kernel
def wp_count_82 (K : mS → Int32 → Prop) (k82 : Int32 × Int32 × Int32 × Int32 × Int32 × mS → Prop) (x1 : Int32) (x2 : Int32) (x3 : Int32) (x4 : Int32) (x5 : Int32) (S : mS) : Prop := ((8 ≤ x5 → ((x1 = 0 → inR (S.1 5) 2 ∧ ∀ z14 : Int32, z14 = S.2.1 5 (ix (S.1 5)) → K S z14) ∧ (¬ x1 = 0 → ((x1 = 1 → K S (S.1 22)) ∧ (¬ x1 = 1 → ((x1 = 2 → K S x2) ∧ (¬ x1 = 2 → ((x1 = 3 → K S (S.1 23)) ∧ (¬ x1 = 3 → ((x1 = 4 → K S x3) ∧ (¬ x1 = 4 → ((x1 = 5 → K S (S.1 27)) ∧ (¬ x1 = 5 → ((x1 = 6 → K S (S.1 28)) ∧ (¬ x1 = 6 → ((x1 = 7 → K S (S.1 24)) ∧ (¬ x1 = 7 → ((x1 = 8 → K S (S.1 25)) ∧ (¬ x1 = 8 → ((x1 = 9 → K S (S.1 26)) ∧ (¬ x1 = 9 → ((x1 = 10 → K S x4) ∧ (¬ x1 = 10 → ((x1 = 11 → K S (S.1 1)) ∧ (¬ x1 = 11 → K S (-1)))))))))))))))))))))))))) ∧ (¬ 8 ≤ x5 → inR x5 8 ∧ ∀ z26 : Int32, z26 = S.2.1 78 (ix x5) → ∀ z27 : Int32, z27 = x4 + z26 → ∀ z28 : Int32, z28 = x5 + 1 → k82 (x1, x2, x3, z27, z28, S)))
def ls_count_82 (K : mS → Int32 → Prop) (k82 : Int32 × Int32 × Int32 × Int32 × Int32 × mS → Prop) (u : Int32 × Int32 × Int32 × Int32 × Int32 × mS) : Prop := wp_count_82 K k82 u.1 u.2.1 u.2.2.1 u.2.2.2.1 u.2.2.2.2.1 u.2.2.2.2.2
def wp_count_68 (K : mS → Int32 → Prop) (k12 : Int32 × Int32 × Int32 × Int32 × mS → Prop) (x1 : Int32) (x2 : Int32) (x4 : Int32) (y0 : Int32) (y1 : Int32) (S : mS) : Prop := ∀ z10 : Int32, z10 = y0 + y1 → ∀ z11 : Int32, z11 = x4 + 1 → k12 (x1, x2, z10, z11, S)
def wp_count_63 (K : mS → Int32 → Prop) (k12 : Int32 × Int32 × Int32 × Int32 × mS → Prop) (x1 : Int32) (x2 : Int32) (x4 : Int32) (y0 : Int32) (S : mS) : Prop := wp_count_68 K k12 x1 x2 x4 y0 1 S
def wp_count_38 (K : mS → Int32 → Prop) (k12 : Int32 × Int32 × Int32 × Int32 × mS → Prop) (x1 : Int32) (x3 : Int32) (x4 : Int32) (y0 : Int32) (y1 : Int32) (S : mS) : Prop := ∀ z5 : Int32, z5 = y0 + y1 → inR x4 200 ∧ ∀ z6 : Int32, z6 = S.2.1 54 (ix x4) → ((z6 = 1 → wp_count_63 K k12 x1 z5 x4 x3 S) ∧ (¬ z6 = 1 → inR x4 200 ∧ ∀ z8 : Int32, z8 = S.2.1 54 (ix x4) → ((¬ z8 = 2 → wp_count_68 K k12 x1 z5 x4 x3 0 S) ∧ (z8 = 2 → wp_count_63 K k12 x1 z5 x4 x3 S))))
def wp_count_12 (K : mS → Int32 → Prop) (k12 : Int32 × Int32 × Int32 × Int32 × mS → Prop) (x1 : Int32) (x2 : Int32) (x3 : Int32) (x4 : Int32) (S : mS) : Prop := (((S.1 22) ≤ x4 → (∃ n9, it (ls_count_82 K) n9 (x1, x2, x3, 0, 0, S))) ∧ (¬ (S.1 22) ≤ x4 → inR x4 200 ∧ ∀ z3 : Int32, z3 = S.2.1 54 (ix x4) → ((¬ z3 = 3 → wp_count_38 K k12 x1 x3 x4 x2 0 S) ∧ (z3 = 3 → wp_count_38 K k12 x1 x3 x4 x2 1 S))))
def ls_count_12 (K : mS → Int32 → Prop) (k12 : Int32 × Int32 × Int32 × Int32 × mS → Prop) (u : Int32 × Int32 × Int32 × Int32 × mS) : Prop := wp_count_12 K k12 u.1 u.2.1 u.2.2.1 u.2.2.2.1 u.2.2.2.2
def wp_count (a0 : Int32) (S : mS) (K : mS → Int32 → Prop) : Prop := ∀ S1 : mS, S1 = sZ S 0 0 → (∃ n9, it (ls_count_12 K) n9 (a0, 0, 0, 0, S1))
set_option maxHeartbeats 4000000 in
set_option maxRecDepth 100000 in
theorem ct_count (l : Launch) (S : mS) (a0 : Int32) (K : mS → Int32 → Prop) (h : wp_count a0 S K) : mMi l yX12_count cX12_count 6 (some .int) 0 0 (fun E => [.int a0]) S K := by
  refine mv_ofi (by decide) rfl (fun _ => Nat.le_of_ble_eq_true rfl) ?_
  intro E p e R s m args below meth c A ls Q hRf hRl hX hC hl hret
  have hx := hX.1.1
  have hb := hX.1.2.1
  have hown := hX.1.2.2.2.1
  have hts := hX.1.2.2.2.2
  have cut82 : ∀ (n82 : Nat) (x1 : Int32) (x2 : Int32) (x3 : Int32) (x4 : Int32) (x5 : Int32) (S : mS) (H : Heap) (locs : List Loc) (ls : Array Slot), it (ls_count_82 K) n82 (x1, x2, x3, x4, x5, S) → mC E A s.heap S H locs → lv_has ls 6 [(0, .ref E.2.1), (1, .int x1), (2, .int x2), (3, .int x3), (4, .int x4), (5, .int x5)] → W p l e R s m args below meth c H locs 0 0 Q (F0 m 82 ls []) := by
    intro n82
    induction n82 with
    | zero => intro x1 x2 x3 x4 x5 S H locs ls h hC hl; exact h.elim
    | succ n82 ih82 =>
      intro x1 x2 x3 x4 x5 S H locs ls h hC hl
      have h : wp_count_82 K (it (ls_count_82 K) n82) x1 x2 x3 x4 x5 S := h
      unfold wp_count_82 at h
      refine lv_iload hx hb dX12_count_82 (lv_at hl 5 rfl) ?_
      refine lv_bipush (v := 8) hx hb dX12_count_84 (by decide) ?_
      refine lv_icmp_ge (tgt := 107) hx hb dX12_count_86 (by decide) (fun c12 => ?_) (fun c12 => ?_)
      · have h := h.1 c12
        refine lv_iload_n hx hb dX12_count_107 rfl (lv_at hl 1 rfl) ?_
        rcases Decidable.em (x1 = 0) with c13 | c13
        · have h := h.1 c13
          refine lv_tableIn (tgt := 172) hx hb dX12_count_108 (by rw [c13]; decide) (by rw [c13]; decide) (by rw [c13]; rfl) (by decide) ?_
          refine lv_aload_n hx hb dX12_count_172 rfl (lv_at hl 0 rfl) ?_
          refine mv_get (v := .ref (E.2.2.1 5)) hX hC 13 (Nat.le_of_ble_eq_true rfl) wd_1413 rfl dX12_count_173 ?_
          refine lv_aload_n hx hb dX12_count_176 rfl (lv_at hl 0 rfl) ?_
          refine mv_get (v := .int (S.1 5)) hX hC 11 (Nat.le_of_ble_eq_true rfl) wd_1411 rfl dX12_count_177 ?_
          refine mq_ild (n := 2) hX hC 5 rfl rfl dX12_count_180 h (fun z14 h => ?_)
          exact hret _ _ _ _ _ _ hC h dX12_count_181
        have h := h.2 c13
        rcases Decidable.em (x1 = 1) with c15 | c15
        · have h := h.1 c15
          refine lv_tableIn (tgt := 182) hx hb dX12_count_108 (by rw [c15]; decide) (by rw [c15]; decide) (by rw [c15]; rfl) (by decide) ?_
          refine lv_aload_n hx hb dX12_count_182 rfl (lv_at hl 0 rfl) ?_
          refine mv_get (v := .int (S.1 22)) hX hC 74 (Nat.le_of_ble_eq_true rfl) wd_1474 rfl dX12_count_183 ?_
          exact hret _ _ _ _ _ _ hC h dX12_count_186
        have h := h.2 c15
        rcases Decidable.em (x1 = 2) with c16 | c16
        · have h := h.1 c16
          refine lv_tableIn (tgt := 187) hx hb dX12_count_108 (by rw [c16]; decide) (by rw [c16]; decide) (by rw [c16]; rfl) (by decide) ?_
          refine lv_iload_n hx hb dX12_count_187 rfl (lv_at hl 2 rfl) ?_
          exact hret _ _ _ _ _ _ hC h dX12_count_188
        have h := h.2 c16
        rcases Decidable.em (x1 = 3) with c17 | c17
        · have h := h.1 c17
          refine lv_tableIn (tgt := 189) hx hb dX12_count_108 (by rw [c17]; decide) (by rw [c17]; decide) (by rw [c17]; rfl) (by decide) ?_
          refine lv_aload_n hx hb dX12_count_189 rfl (lv_at hl 0 rfl) ?_
          refine mv_get (v := .int (S.1 23)) hX hC 98 (Nat.le_of_ble_eq_true rfl) wd_1498 rfl dX12_count_190 ?_
          exact hret _ _ _ _ _ _ hC h dX12_count_193
        have h := h.2 c17
        rcases Decidable.em (x1 = 4) with c18 | c18
        · have h := h.1 c18
          refine lv_tableIn (tgt := 194) hx hb dX12_count_108 (by rw [c18]; decide) (by rw [c18]; decide) (by rw [c18]; rfl) (by decide) ?_
          refine lv_iload_n hx hb dX12_count_194 rfl (lv_at hl 3 rfl) ?_
          exact hret _ _ _ _ _ _ hC h dX12_count_195
        have h := h.2 c18
        rcases Decidable.em (x1 = 5) with c19 | c19
        · have h := h.1 c19
          refine lv_tableIn (tgt := 196) hx hb dX12_count_108 (by rw [c19]; decide) (by rw [c19]; decide) (by rw [c19]; rfl) (by decide) ?_
          refine lv_aload_n hx hb dX12_count_196 rfl (lv_at hl 0 rfl) ?_
          refine mv_get (v := .int (S.1 27)) hX hC 102 (Nat.le_of_ble_eq_true rfl) wd_1502 rfl dX12_count_197 ?_
          exact hret _ _ _ _ _ _ hC h dX12_count_200
        have h := h.2 c19
        rcases Decidable.em (x1 = 6) with c20 | c20
        · have h := h.1 c20
          refine lv_tableIn (tgt := 201) hx hb dX12_count_108 (by rw [c20]; decide) (by rw [c20]; decide) (by rw [c20]; rfl) (by decide) ?_
          refine lv_aload_n hx hb dX12_count_201 rfl (lv_at hl 0 rfl) ?_
          refine mv_get (v := .int (S.1 28)) hX hC 105 (Nat.le_of_ble_eq_true rfl) wd_1505 rfl dX12_count_202 ?_
          exact hret _ _ _ _ _ _ hC h dX12_count_205
        have h := h.2 c20
        rcases Decidable.em (x1 = 7) with c21 | c21
        · have h := h.1 c21
          refine lv_tableIn (tgt := 206) hx hb dX12_count_108 (by rw [c21]; decide) (by rw [c21]; decide) (by rw [c21]; rfl) (by decide) ?_
          refine lv_aload_n hx hb dX12_count_206 rfl (lv_at hl 0 rfl) ?_
          refine mv_get (v := .int (S.1 24)) hX hC 99 (Nat.le_of_ble_eq_true rfl) wd_1499 rfl dX12_count_207 ?_
          exact hret _ _ _ _ _ _ hC h dX12_count_210
        have h := h.2 c21
        rcases Decidable.em (x1 = 8) with c22 | c22
        · have h := h.1 c22
          refine lv_tableIn (tgt := 211) hx hb dX12_count_108 (by rw [c22]; decide) (by rw [c22]; decide) (by rw [c22]; rfl) (by decide) ?_
          refine lv_aload_n hx hb dX12_count_211 rfl (lv_at hl 0 rfl) ?_
          refine mv_get (v := .int (S.1 25)) hX hC 100 (Nat.le_of_ble_eq_true rfl) wd_1500 rfl dX12_count_212 ?_
          exact hret _ _ _ _ _ _ hC h dX12_count_215
        have h := h.2 c22
        rcases Decidable.em (x1 = 9) with c23 | c23
        · have h := h.1 c23
          refine lv_tableIn (tgt := 216) hx hb dX12_count_108 (by rw [c23]; decide) (by rw [c23]; decide) (by rw [c23]; rfl) (by decide) ?_
          refine lv_aload_n hx hb dX12_count_216 rfl (lv_at hl 0 rfl) ?_
          refine mv_get (v := .int (S.1 26)) hX hC 101 (Nat.le_of_ble_eq_true rfl) wd_1501 rfl dX12_count_217 ?_
          exact hret _ _ _ _ _ _ hC h dX12_count_220
        have h := h.2 c23
        rcases Decidable.em (x1 = 10) with c24 | c24
        · have h := h.1 c24
          refine lv_tableIn (tgt := 221) hx hb dX12_count_108 (by rw [c24]; decide) (by rw [c24]; decide) (by rw [c24]; rfl) (by decide) ?_
          refine lv_iload hx hb dX12_count_221 (lv_at hl 4 rfl) ?_
          exact hret _ _ _ _ _ _ hC h dX12_count_223
        have h := h.2 c24
        rcases Decidable.em (x1 = 11) with c25 | c25
        · have h := h.1 c25
          refine lv_tableIn (tgt := 224) hx hb dX12_count_108 (by rw [c25]; decide) (by rw [c25]; decide) (by rw [c25]; rfl) (by decide) ?_
          refine lv_aload_n hx hb dX12_count_224 rfl (lv_at hl 0 rfl) ?_
          refine mv_get (v := .int (S.1 1)) hX hC 2 (Nat.le_of_ble_eq_true rfl) wd_1402 rfl dX12_count_225 ?_
          exact hret _ _ _ _ _ _ hC h dX12_count_228
        have h := h.2 c25
        refine lv_tableOut (tgt := 229) hx hb dX12_count_108 (by have nc13 := lv_neT c13 (show (0 : Int32).toInt = 0 by decide); have nc15 := lv_neT c15 (show (1 : Int32).toInt = 1 by decide); have nc16 := lv_neT c16 (show (2 : Int32).toInt = 2 by decide); have nc17 := lv_neT c17 (show (3 : Int32).toInt = 3 by decide); have nc18 := lv_neT c18 (show (4 : Int32).toInt = 4 by decide); have nc19 := lv_neT c19 (show (5 : Int32).toInt = 5 by decide); have nc20 := lv_neT c20 (show (6 : Int32).toInt = 6 by decide); have nc21 := lv_neT c21 (show (7 : Int32).toInt = 7 by decide); have nc22 := lv_neT c22 (show (8 : Int32).toInt = 8 by decide); have nc23 := lv_neT c23 (show (9 : Int32).toInt = 9 by decide); have nc24 := lv_neT c24 (show (10 : Int32).toInt = 10 by decide); have nc25 := lv_neT c25 (show (11 : Int32).toInt = 11 by decide); omega) (by decide) ?_
        refine lv_iconst (v := -1) hx hb dX12_count_229 (by decide) ?_
        exact hret _ _ _ _ _ _ hC h dX12_count_230
      · have h := h.2 c12
        refine lv_iload hx hb dX12_count_89 (lv_at hl 4 rfl) ?_
        refine lv_aload_n hx hb dX12_count_91 rfl (lv_at hl 0 rfl) ?_
        refine mv_get (v := .ref (E.2.2.1 78)) hX hC 108 (Nat.le_of_ble_eq_true rfl) wd_1508 rfl dX12_count_92 ?_
        refine lv_iload hx hb dX12_count_95 (lv_at hl 5 rfl) ?_
        refine mq_ild (n := 8) hX hC 78 rfl rfl dX12_count_97 h (fun z26 h => ?_)
        refine lq_iadd hx hb dX12_count_98 h (fun z27 h => ?_)
        refine lv_istore (lv' := [(4, .int z27), (0, .ref E.2.1), (1, .int x1), (2, .int x2), (3, .int x3), (5, .int x5)]) hx hb dX12_count_99 hl (by decide) rfl (fun ls hl => ?_)
        obtain ⟨z28, ez28⟩ : ∃ y : Int32, y = x5 + 1 := ⟨_, rfl⟩
        have h := h z28 ez28
        refine lv_iinc (v := z28) (lv' := [(5, .int z28), (4, .int z27), (0, .ref E.2.1), (1, .int x1), (2, .int x2), (3, .int x3)]) hx hb dX12_count_101 hl (k := 5) rfl (by rw [ez28]; rfl) (by decide) rfl (fun ls hl => ?_)
        refine lv_goto (tgt := 82) hx hb dX12_count_104 (by decide) ?_
        exact ih82 x1 x2 x3 z27 z28 S _ _ _ h hC (lv_sub hl [2, 3, 4, 5, 1, 0] rfl)
  have cut12 : ∀ (n12 : Nat) (x1 : Int32) (x2 : Int32) (x3 : Int32) (x4 : Int32) (S : mS) (H : Heap) (locs : List Loc) (ls : Array Slot), it (ls_count_12 K) n12 (x1, x2, x3, x4, S) → mC E A s.heap S H locs → lv_has ls 6 [(0, .ref E.2.1), (1, .int x1), (2, .int x2), (3, .int x3), (4, .int x4)] → W p l e R s m args below meth c H locs 0 0 Q (F0 m 12 ls []) := by
    intro n12
    induction n12 with
    | zero => intro x1 x2 x3 x4 S H locs ls h hC hl; exact h.elim
    | succ n12 ih12 =>
      have cut68 : ∀ (x1 : Int32) (x2 : Int32) (x4 : Int32) (y0 : Int32) (y1 : Int32) (S : mS) (H : Heap) (locs : List Loc) (ls : Array Slot), wp_count_68 K (it (ls_count_12 K) n12) x1 x2 x4 y0 y1 S → mC E A s.heap S H locs → lv_has ls 6 [(0, .ref E.2.1), (1, .int x1), (2, .int x2), (4, .int x4)] → W p l e R s m args below meth c H locs 0 0 Q (F0 m 68 ls [.int y1, .int y0]) := by
        intro x1 x2 x4 y0 y1 S H locs ls h hC hl
        unfold wp_count_68 at h
        refine lq_iadd hx hb dX12_count_68 h (fun z10 h => ?_)
        refine lv_istore_n (lv' := [(3, .int z10), (0, .ref E.2.1), (1, .int x1), (2, .int x2), (4, .int x4)]) hx hb dX12_count_69 rfl hl (by decide) rfl (fun ls hl => ?_)
        obtain ⟨z11, ez11⟩ : ∃ y : Int32, y = x4 + 1 := ⟨_, rfl⟩
        have h := h z11 ez11
        refine lv_iinc (v := z11) (lv' := [(4, .int z11), (3, .int z10), (0, .ref E.2.1), (1, .int x1), (2, .int x2)]) hx hb dX12_count_70 hl (k := 4) rfl (by rw [ez11]; rfl) (by decide) rfl (fun ls hl => ?_)
        refine lv_goto (tgt := 12) hx hb dX12_count_73 (by decide) ?_
        exact ih12 x1 x2 z10 z11 S _ _ _ h hC (lv_sub hl [2, 3, 4, 1, 0] rfl)
      have cut63 : ∀ (x1 : Int32) (x2 : Int32) (x4 : Int32) (y0 : Int32) (S : mS) (H : Heap) (locs : List Loc) (ls : Array Slot), wp_count_63 K (it (ls_count_12 K) n12) x1 x2 x4 y0 S → mC E A s.heap S H locs → lv_has ls 6 [(0, .ref E.2.1), (1, .int x1), (2, .int x2), (4, .int x4)] → W p l e R s m args below meth c H locs 0 0 Q (F0 m 63 ls [.int y0]) := by
        intro x1 x2 x4 y0 S H locs ls h hC hl
        unfold wp_count_63 at h
        refine lv_iconst (v := 1) hx hb dX12_count_63 (by decide) ?_
        refine lv_goto (tgt := 68) hx hb dX12_count_64 (by decide) ?_
        exact cut68 x1 x2 x4 y0 1 S _ _ _ h hC (lv_sub hl [0, 1, 2, 3] rfl)
      have cut38 : ∀ (x1 : Int32) (x3 : Int32) (x4 : Int32) (y0 : Int32) (y1 : Int32) (S : mS) (H : Heap) (locs : List Loc) (ls : Array Slot), wp_count_38 K (it (ls_count_12 K) n12) x1 x3 x4 y0 y1 S → mC E A s.heap S H locs → lv_has ls 6 [(0, .ref E.2.1), (1, .int x1), (3, .int x3), (4, .int x4)] → W p l e R s m args below meth c H locs 0 0 Q (F0 m 38 ls [.int y1, .int y0]) := by
        intro x1 x3 x4 y0 y1 S H locs ls h hC hl
        unfold wp_count_38 at h
        refine lq_iadd hx hb dX12_count_38 h (fun z5 h => ?_)
        refine lv_istore_n (lv' := [(2, .int z5), (0, .ref E.2.1), (1, .int x1), (3, .int x3), (4, .int x4)]) hx hb dX12_count_39 rfl hl (by decide) rfl (fun ls hl => ?_)
        refine lv_iload_n hx hb dX12_count_40 rfl (lv_at hl 3 rfl) ?_
        refine lv_aload_n hx hb dX12_count_41 rfl (lv_at hl 1 rfl) ?_
        refine mv_get (v := .ref (E.2.2.1 54)) hX hC 78 (Nat.le_of_ble_eq_true rfl) wd_1478 rfl dX12_count_42 ?_
        refine lv_iload hx hb dX12_count_45 (lv_at hl 4 rfl) ?_
        refine mq_ild (n := 200) hX hC 54 rfl rfl dX12_count_47 h (fun z6 h => ?_)
        refine lv_iconst (v := 1) hx hb dX12_count_48 (by decide) ?_
        refine lv_icmp_eq (tgt := 63) hx hb dX12_count_49 (by decide) (fun c7 => ?_) (fun c7 => ?_)
        · have h := h.1 c7
          exact cut63 x1 z5 x4 x3 S _ _ _ h hC (lv_sub hl [1, 2, 0, 4] rfl)
        · have h := h.2 c7
          refine lv_aload_n hx hb dX12_count_52 rfl (lv_at hl 1 rfl) ?_
          refine mv_get (v := .ref (E.2.2.1 54)) hX hC 78 (Nat.le_of_ble_eq_true rfl) wd_1478 rfl dX12_count_53 ?_
          refine lv_iload hx hb dX12_count_56 (lv_at hl 4 rfl) ?_
          refine mq_ild (n := 200) hX hC 54 rfl rfl dX12_count_58 h (fun z8 h => ?_)
          refine lv_iconst (v := 2) hx hb dX12_count_59 (by decide) ?_
          refine lv_icmp_ne (tgt := 67) hx hb dX12_count_60 (by decide) (fun c9 => ?_) (fun c9 => ?_)
          · have h := h.1 c9
            refine lv_iconst (v := 0) hx hb dX12_count_67 (by decide) ?_
            exact cut68 x1 z5 x4 x3 0 S _ _ _ h hC (lv_sub hl [1, 2, 0, 4] rfl)
          · have h := h.2 c9
            exact cut63 x1 z5 x4 x3 S _ _ _ h hC (lv_sub hl [1, 2, 0, 4] rfl)
      intro x1 x2 x3 x4 S H locs ls h hC hl
      have h : wp_count_12 K (it (ls_count_12 K) n12) x1 x2 x3 x4 S := h
      unfold wp_count_12 at h
      refine lv_iload hx hb dX12_count_12 (lv_at hl 4 rfl) ?_
      refine lv_aload_n hx hb dX12_count_14 rfl (lv_at hl 0 rfl) ?_
      refine mv_get (v := .int (S.1 22)) hX hC 74 (Nat.le_of_ble_eq_true rfl) wd_1474 rfl dX12_count_15 ?_
      refine lv_icmp_ge (tgt := 76) hx hb dX12_count_18 (by decide) (fun c2 => ?_) (fun c2 => ?_)
      · have h := h.1 c2
        refine lv_iconst (v := 0) hx hb dX12_count_76 (by decide) ?_
        refine lv_istore (lv' := [(4, .int 0), (0, .ref E.2.1), (1, .int x1), (2, .int x2), (3, .int x3)]) hx hb dX12_count_77 hl (by decide) rfl (fun ls hl => ?_)
        refine lv_iconst (v := 0) hx hb dX12_count_79 (by decide) ?_
        refine lv_istore (lv' := [(5, .int 0), (4, .int 0), (0, .ref E.2.1), (1, .int x1), (2, .int x2), (3, .int x3)]) hx hb dX12_count_80 hl (by decide) rfl (fun ls hl => ?_)
        obtain ⟨n9, h⟩ := h
        exact cut82 n9 x1 x2 x3 0 0 S _ _ _ h hC (lv_sub hl [2, 3, 4, 5, 1, 0] rfl)
      · have h := h.2 c2
        refine lv_iload_n hx hb dX12_count_21 rfl (lv_at hl 2 rfl) ?_
        refine lv_aload_n hx hb dX12_count_22 rfl (lv_at hl 0 rfl) ?_
        refine mv_get (v := .ref (E.2.2.1 54)) hX hC 78 (Nat.le_of_ble_eq_true rfl) wd_1478 rfl dX12_count_23 ?_
        refine lv_iload hx hb dX12_count_26 (lv_at hl 4 rfl) ?_
        refine mq_ild (n := 200) hX hC 54 rfl rfl dX12_count_28 h (fun z3 h => ?_)
        refine lv_iconst (v := 3) hx hb dX12_count_29 (by decide) ?_
        refine lv_icmp_ne (tgt := 37) hx hb dX12_count_30 (by decide) (fun c4 => ?_) (fun c4 => ?_)
        · have h := h.1 c4
          refine lv_iconst (v := 0) hx hb dX12_count_37 (by decide) ?_
          exact cut38 x1 x3 x4 x2 0 S _ _ _ h hC (lv_sub hl [0, 1, 3, 4] rfl)
        · have h := h.2 c4
          refine lv_iconst (v := 1) hx hb dX12_count_33 (by decide) ?_
          refine lv_goto (tgt := 38) hx hb dX12_count_34 (by decide) ?_
          exact cut38 x1 x3 x4 x2 1 S _ _ _ h hC (lv_sub hl [0, 1, 3, 4] rfl)
  have hl : lv_has ls 6 [(0, .ref E.2.1), (1, .int a0)] := hl
  unfold wp_count at h
  refine lv_aload_n hx hb dX12_count_0 rfl (lv_at hl 0 rfl) ?_
  refine lv_iconst (v := 0) hx hb dX12_count_1 (by decide) ?_
  refine mq_put (v := 0) hX hC 0 0 (Nat.le_of_ble_eq_true rfl) wd_1400 rfl rfl rfl mz_0 dX12_count_2 h (fun S1 H locs hC h => ?_)
  refine lv_iconst (v := 0) hx hb dX12_count_5 (by decide) ?_
  refine lv_istore_n (lv' := [(2, .int 0), (0, .ref E.2.1), (1, .int a0)]) hx hb dX12_count_6 rfl hl (by decide) rfl (fun ls hl => ?_)
  refine lv_iconst (v := 0) hx hb dX12_count_7 (by decide) ?_
  refine lv_istore_n (lv' := [(3, .int 0), (2, .int 0), (0, .ref E.2.1), (1, .int a0)]) hx hb dX12_count_8 rfl hl (by decide) rfl (fun ls hl => ?_)
  refine lv_iconst (v := 0) hx hb dX12_count_9 (by decide) ?_
  refine lv_istore (lv' := [(4, .int 0), (3, .int 0), (2, .int 0), (0, .ref E.2.1), (1, .int a0)]) hx hb dX12_count_10 hl (by decide) rfl (fun ls hl => ?_)
  obtain ⟨n9, h⟩ := h
  exact cut12 n9 a0 0 0 0 S1 _ _ _ h hC (lv_sub hl [3, 4, 2, 1, 0] rfl)
def wp_isDigit (a0 : Int32) (S : mS) (K : mS → Int32 → Prop) : Prop := ((a0 < 48 → K S 0) ∧ (¬ a0 < 48 → ((57 < a0 → K S 0) ∧ (¬ 57 < a0 → K S 1))))
set_option maxHeartbeats 4000000 in
set_option maxRecDepth 100000 in
theorem ct_isDigit (l : Launch) (S : mS) (a0 : Int32) (K : mS → Int32 → Prop) (h : wp_isDigit a0 S K) : mMs1 l yX12_isDigit cX12_isDigit 1 (some .boolean) 0 0 (fun E => [.int a0]) S K := by
  refine mv_ofsz (by decide) rfl (fun _ => Nat.le_of_ble_eq_true rfl) ?_
  intro E p e R s m args below meth c A ls Q hRf hRl hX hC hl hret
  have hx := hX.1.1
  have hb := hX.1.2.1
  have hown := hX.1.2.2.2.1
  have hts := hX.1.2.2.2.2
  have hl : lv_has ls 1 [(0, .int a0)] := hl
  unfold wp_isDigit at h
  refine lv_iload_n hx hb dX12_isDigit_0 rfl (lv_at hl 0 rfl) ?_
  refine lv_bipush (v := 48) hx hb dX12_isDigit_1 (by decide) ?_
  refine lv_icmp_lt (tgt := 16) hx hb dX12_isDigit_3 (by decide) (fun c1 => ?_) (fun c1 => ?_)
  · have h := h.1 c1
    refine lv_iconst (v := 0) hx hb dX12_isDigit_16 (by decide) ?_
    exact hret _ _ _ _ _ _ hC (Or.inl rfl) h dX12_isDigit_17
  · have h := h.2 c1
    refine lv_iload_n hx hb dX12_isDigit_6 rfl (lv_at hl 0 rfl) ?_
    refine lv_bipush (v := 57) hx hb dX12_isDigit_7 (by decide) ?_
    refine lv_icmp_gt (tgt := 16) hx hb dX12_isDigit_9 (by decide) (fun c2 => ?_) (fun c2 => ?_)
    · have h := h.1 c2
      refine lv_iconst (v := 0) hx hb dX12_isDigit_16 (by decide) ?_
      exact hret _ _ _ _ _ _ hC (Or.inl rfl) h dX12_isDigit_17
    · have h := h.2 c2
      refine lv_iconst (v := 1) hx hb dX12_isDigit_12 (by decide) ?_
      refine lv_goto (tgt := 17) hx hb dX12_isDigit_13 (by decide) ?_
      exact hret _ _ _ _ _ _ hC (Or.inr rfl) h dX12_isDigit_17
def wp_isLetter (a0 : Int32) (S : mS) (K : mS → Int32 → Prop) : Prop := ((a0 < 97 → K S 0) ∧ (¬ a0 < 97 → ((122 < a0 → K S 0) ∧ (¬ 122 < a0 → K S 1))))
set_option maxHeartbeats 4000000 in
set_option maxRecDepth 100000 in
theorem ct_isLetter (l : Launch) (S : mS) (a0 : Int32) (K : mS → Int32 → Prop) (h : wp_isLetter a0 S K) : mMs1 l yX12_isLetter cX12_isLetter 1 (some .boolean) 0 0 (fun E => [.int a0]) S K := by
  refine mv_ofsz (by decide) rfl (fun _ => Nat.le_of_ble_eq_true rfl) ?_
  intro E p e R s m args below meth c A ls Q hRf hRl hX hC hl hret
  have hx := hX.1.1
  have hb := hX.1.2.1
  have hown := hX.1.2.2.2.1
  have hts := hX.1.2.2.2.2
  have hl : lv_has ls 1 [(0, .int a0)] := hl
  unfold wp_isLetter at h
  refine lv_iload_n hx hb dX12_isLetter_0 rfl (lv_at hl 0 rfl) ?_
  refine lv_bipush (v := 97) hx hb dX12_isLetter_1 (by decide) ?_
  refine lv_icmp_lt (tgt := 16) hx hb dX12_isLetter_3 (by decide) (fun c1 => ?_) (fun c1 => ?_)
  · have h := h.1 c1
    refine lv_iconst (v := 0) hx hb dX12_isLetter_16 (by decide) ?_
    exact hret _ _ _ _ _ _ hC (Or.inl rfl) h dX12_isLetter_17
  · have h := h.2 c1
    refine lv_iload_n hx hb dX12_isLetter_6 rfl (lv_at hl 0 rfl) ?_
    refine lv_bipush (v := 122) hx hb dX12_isLetter_7 (by decide) ?_
    refine lv_icmp_gt (tgt := 16) hx hb dX12_isLetter_9 (by decide) (fun c2 => ?_) (fun c2 => ?_)
    · have h := h.1 c2
      refine lv_iconst (v := 0) hx hb dX12_isLetter_16 (by decide) ?_
      exact hret _ _ _ _ _ _ hC (Or.inl rfl) h dX12_isLetter_17
    · have h := h.2 c2
      refine lv_iconst (v := 1) hx hb dX12_isLetter_12 (by decide) ?_
      refine lv_goto (tgt := 17) hx hb dX12_isLetter_13 (by decide) ?_
      exact hret _ _ _ _ _ _ hC (Or.inr rfl) h dX12_isLetter_17
def wp_isSignOf (a0 : Int32) (S : mS) (K : mS → Int32 → Prop) : Prop := ((a0 = 123 → K S 1) ∧ (¬ a0 = 123 → ((a0 = 125 → K S 1) ∧ (¬ a0 = 125 → ((a0 = 40 → K S 1) ∧ (¬ a0 = 40 → ((a0 = 41 → K S 1) ∧ (¬ a0 = 41 → ((a0 = 44 → K S 1) ∧ (¬ a0 = 44 → ((a0 = 59 → K S 1) ∧ (¬ a0 = 59 → ((a0 = 61 → K S 1) ∧ (¬ a0 = 61 → ((a0 = 60 → K S 1) ∧ (¬ a0 = 60 → ((a0 = 43 → K S 1) ∧ (¬ a0 = 43 → ((a0 = 45 → K S 1) ∧ (¬ a0 = 45 → ((a0 = 42 → K S 1) ∧ (¬ a0 = 42 → ((a0 = 47 → K S 1) ∧ (¬ a0 = 47 → ((¬ a0 = 37 → K S 0) ∧ (a0 = 37 → K S 1))))))))))))))))))))))))))
set_option maxHeartbeats 4000000 in
set_option maxRecDepth 100000 in
theorem ct_isSignOf (l : Launch) (S : mS) (a0 : Int32) (K : mS → Int32 → Prop) (h : wp_isSignOf a0 S K) : mMs1 l yX12_isSignOf cX12_isSignOf 1 (some .boolean) 0 0 (fun E => [.int a0]) S K := by
  refine mv_ofsz (by decide) rfl (fun _ => Nat.le_of_ble_eq_true rfl) ?_
  intro E p e R s m args below meth c A ls Q hRf hRl hX hC hl hret
  have hx := hX.1.1
  have hb := hX.1.2.1
  have hown := hX.1.2.2.2.1
  have hts := hX.1.2.2.2.2
  have hl : lv_has ls 1 [(0, .int a0)] := hl
  unfold wp_isSignOf at h
  refine lv_iload_n hx hb dX12_isSignOf_0 rfl (lv_at hl 0 rfl) ?_
  refine lv_bipush (v := 123) hx hb dX12_isSignOf_1 (by decide) ?_
  refine lv_icmp_eq (tgt := 78) hx hb dX12_isSignOf_3 (by decide) (fun c1 => ?_) (fun c1 => ?_)
  · have h := h.1 c1
    refine lv_iconst (v := 1) hx hb dX12_isSignOf_78 (by decide) ?_
    refine lv_goto (tgt := 83) hx hb dX12_isSignOf_79 (by decide) ?_
    exact hret _ _ _ _ _ _ hC (Or.inr rfl) h dX12_isSignOf_83
  · have h := h.2 c1
    refine lv_iload_n hx hb dX12_isSignOf_6 rfl (lv_at hl 0 rfl) ?_
    refine lv_bipush (v := 125) hx hb dX12_isSignOf_7 (by decide) ?_
    refine lv_icmp_eq (tgt := 78) hx hb dX12_isSignOf_9 (by decide) (fun c2 => ?_) (fun c2 => ?_)
    · have h := h.1 c2
      refine lv_iconst (v := 1) hx hb dX12_isSignOf_78 (by decide) ?_
      refine lv_goto (tgt := 83) hx hb dX12_isSignOf_79 (by decide) ?_
      exact hret _ _ _ _ _ _ hC (Or.inr rfl) h dX12_isSignOf_83
    · have h := h.2 c2
      refine lv_iload_n hx hb dX12_isSignOf_12 rfl (lv_at hl 0 rfl) ?_
      refine lv_bipush (v := 40) hx hb dX12_isSignOf_13 (by decide) ?_
      refine lv_icmp_eq (tgt := 78) hx hb dX12_isSignOf_15 (by decide) (fun c3 => ?_) (fun c3 => ?_)
      · have h := h.1 c3
        refine lv_iconst (v := 1) hx hb dX12_isSignOf_78 (by decide) ?_
        refine lv_goto (tgt := 83) hx hb dX12_isSignOf_79 (by decide) ?_
        exact hret _ _ _ _ _ _ hC (Or.inr rfl) h dX12_isSignOf_83
      · have h := h.2 c3
        refine lv_iload_n hx hb dX12_isSignOf_18 rfl (lv_at hl 0 rfl) ?_
        refine lv_bipush (v := 41) hx hb dX12_isSignOf_19 (by decide) ?_
        refine lv_icmp_eq (tgt := 78) hx hb dX12_isSignOf_21 (by decide) (fun c4 => ?_) (fun c4 => ?_)
        · have h := h.1 c4
          refine lv_iconst (v := 1) hx hb dX12_isSignOf_78 (by decide) ?_
          refine lv_goto (tgt := 83) hx hb dX12_isSignOf_79 (by decide) ?_
          exact hret _ _ _ _ _ _ hC (Or.inr rfl) h dX12_isSignOf_83
        · have h := h.2 c4
          refine lv_iload_n hx hb dX12_isSignOf_24 rfl (lv_at hl 0 rfl) ?_
          refine lv_bipush (v := 44) hx hb dX12_isSignOf_25 (by decide) ?_
          refine lv_icmp_eq (tgt := 78) hx hb dX12_isSignOf_27 (by decide) (fun c5 => ?_) (fun c5 => ?_)
          · have h := h.1 c5
            refine lv_iconst (v := 1) hx hb dX12_isSignOf_78 (by decide) ?_
            refine lv_goto (tgt := 83) hx hb dX12_isSignOf_79 (by decide) ?_
            exact hret _ _ _ _ _ _ hC (Or.inr rfl) h dX12_isSignOf_83
          · have h := h.2 c5
            refine lv_iload_n hx hb dX12_isSignOf_30 rfl (lv_at hl 0 rfl) ?_
            refine lv_bipush (v := 59) hx hb dX12_isSignOf_31 (by decide) ?_
            refine lv_icmp_eq (tgt := 78) hx hb dX12_isSignOf_33 (by decide) (fun c6 => ?_) (fun c6 => ?_)
            · have h := h.1 c6
              refine lv_iconst (v := 1) hx hb dX12_isSignOf_78 (by decide) ?_
              refine lv_goto (tgt := 83) hx hb dX12_isSignOf_79 (by decide) ?_
              exact hret _ _ _ _ _ _ hC (Or.inr rfl) h dX12_isSignOf_83
            · have h := h.2 c6
              refine lv_iload_n hx hb dX12_isSignOf_36 rfl (lv_at hl 0 rfl) ?_
              refine lv_bipush (v := 61) hx hb dX12_isSignOf_37 (by decide) ?_
              refine lv_icmp_eq (tgt := 78) hx hb dX12_isSignOf_39 (by decide) (fun c7 => ?_) (fun c7 => ?_)
              · have h := h.1 c7
                refine lv_iconst (v := 1) hx hb dX12_isSignOf_78 (by decide) ?_
                refine lv_goto (tgt := 83) hx hb dX12_isSignOf_79 (by decide) ?_
                exact hret _ _ _ _ _ _ hC (Or.inr rfl) h dX12_isSignOf_83
              · have h := h.2 c7
                refine lv_iload_n hx hb dX12_isSignOf_42 rfl (lv_at hl 0 rfl) ?_
                refine lv_bipush (v := 60) hx hb dX12_isSignOf_43 (by decide) ?_
                refine lv_icmp_eq (tgt := 78) hx hb dX12_isSignOf_45 (by decide) (fun c8 => ?_) (fun c8 => ?_)
                · have h := h.1 c8
                  refine lv_iconst (v := 1) hx hb dX12_isSignOf_78 (by decide) ?_
                  refine lv_goto (tgt := 83) hx hb dX12_isSignOf_79 (by decide) ?_
                  exact hret _ _ _ _ _ _ hC (Or.inr rfl) h dX12_isSignOf_83
                · have h := h.2 c8
                  refine lv_iload_n hx hb dX12_isSignOf_48 rfl (lv_at hl 0 rfl) ?_
                  refine lv_bipush (v := 43) hx hb dX12_isSignOf_49 (by decide) ?_
                  refine lv_icmp_eq (tgt := 78) hx hb dX12_isSignOf_51 (by decide) (fun c9 => ?_) (fun c9 => ?_)
                  · have h := h.1 c9
                    refine lv_iconst (v := 1) hx hb dX12_isSignOf_78 (by decide) ?_
                    refine lv_goto (tgt := 83) hx hb dX12_isSignOf_79 (by decide) ?_
                    exact hret _ _ _ _ _ _ hC (Or.inr rfl) h dX12_isSignOf_83
                  · have h := h.2 c9
                    refine lv_iload_n hx hb dX12_isSignOf_54 rfl (lv_at hl 0 rfl) ?_
                    refine lv_bipush (v := 45) hx hb dX12_isSignOf_55 (by decide) ?_
                    refine lv_icmp_eq (tgt := 78) hx hb dX12_isSignOf_57 (by decide) (fun c10 => ?_) (fun c10 => ?_)
                    · have h := h.1 c10
                      refine lv_iconst (v := 1) hx hb dX12_isSignOf_78 (by decide) ?_
                      refine lv_goto (tgt := 83) hx hb dX12_isSignOf_79 (by decide) ?_
                      exact hret _ _ _ _ _ _ hC (Or.inr rfl) h dX12_isSignOf_83
                    · have h := h.2 c10
                      refine lv_iload_n hx hb dX12_isSignOf_60 rfl (lv_at hl 0 rfl) ?_
                      refine lv_bipush (v := 42) hx hb dX12_isSignOf_61 (by decide) ?_
                      refine lv_icmp_eq (tgt := 78) hx hb dX12_isSignOf_63 (by decide) (fun c11 => ?_) (fun c11 => ?_)
                      · have h := h.1 c11
                        refine lv_iconst (v := 1) hx hb dX12_isSignOf_78 (by decide) ?_
                        refine lv_goto (tgt := 83) hx hb dX12_isSignOf_79 (by decide) ?_
                        exact hret _ _ _ _ _ _ hC (Or.inr rfl) h dX12_isSignOf_83
                      · have h := h.2 c11
                        refine lv_iload_n hx hb dX12_isSignOf_66 rfl (lv_at hl 0 rfl) ?_
                        refine lv_bipush (v := 47) hx hb dX12_isSignOf_67 (by decide) ?_
                        refine lv_icmp_eq (tgt := 78) hx hb dX12_isSignOf_69 (by decide) (fun c12 => ?_) (fun c12 => ?_)
                        · have h := h.1 c12
                          refine lv_iconst (v := 1) hx hb dX12_isSignOf_78 (by decide) ?_
                          refine lv_goto (tgt := 83) hx hb dX12_isSignOf_79 (by decide) ?_
                          exact hret _ _ _ _ _ _ hC (Or.inr rfl) h dX12_isSignOf_83
                        · have h := h.2 c12
                          refine lv_iload_n hx hb dX12_isSignOf_72 rfl (lv_at hl 0 rfl) ?_
                          refine lv_bipush (v := 37) hx hb dX12_isSignOf_73 (by decide) ?_
                          refine lv_icmp_ne (tgt := 82) hx hb dX12_isSignOf_75 (by decide) (fun c13 => ?_) (fun c13 => ?_)
                          · have h := h.1 c13
                            refine lv_iconst (v := 0) hx hb dX12_isSignOf_82 (by decide) ?_
                            exact hret _ _ _ _ _ _ hC (Or.inl rfl) h dX12_isSignOf_83
                          · have h := h.2 c13
                            refine lv_iconst (v := 1) hx hb dX12_isSignOf_78 (by decide) ?_
                            refine lv_goto (tgt := 83) hx hb dX12_isSignOf_79 (by decide) ?_
                            exact hret _ _ _ _ _ _ hC (Or.inr rfl) h dX12_isSignOf_83
def wp_rank (a0 : Int32) (S : mS) (K : mS → Int32 → Prop) : Prop := wp_isLetter a0 S (fun (S1 : mS) (r1 : Int32) => ((r1 = 0 → ∀ z3 : Int32, z3 = a0 - 21 → K S1 z3) ∧ (¬ r1 = 0 → ∀ z4 : Int32, z4 = a0 - 96 → K S1 z4)))
theorem cw_X12_isLetter {R : Room} {s : State} {args : Array Value} {fr lo : Nat} (hts : ∀ w ∈ tb, w.before args s = true) (h1 : fr + 1 ≤ R.frames) (h2 : 8 + (1 + 11) + lo ≤ R.locals) : CallB R s args RX12 317 yX12_isLetter cX12_isLetter 1 (some .boolean) (.code yX12_isLetter cX12_isLetter 1 (some .boolean) :: tb) (mRm fr lo) 0 0 1 ∧ (Cond.static yX12_isLetter).before args s = true := cwS 1 hts (gd_S wd_1397 wd_1398 wd_15 wd_1399) rfl rfl rfl (by decide +kernel) ⟨h1, h2⟩
set_option maxHeartbeats 4000000 in
set_option maxRecDepth 100000 in
theorem ct_rank (l : Launch) (S : mS) (a0 : Int32) (K : mS → Int32 → Prop) (h : wp_rank a0 S K) : mMs1 l yX12_rank cX12_rank 1 (some .int) 1 20 (fun E => [.int a0]) S K := by
  refine mv_ofsi (by decide) rfl (fun _ => Nat.le_of_ble_eq_true rfl) ?_
  intro E p e R s m args below meth c A ls Q hRf hRl hX hC hl hret
  have hx := hX.1.1
  have hb := hX.1.2.1
  have hown := hX.1.2.2.2.1
  have hts := hX.1.2.2.2.2
  have hl : lv_has ls 1 [(0, .int a0)] := hl
  unfold wp_rank at h
  refine lv_iload_n hx hb dX12_rank_0 rfl (lv_at hl 0 rfl) ?_
  refine mv_calls1 [.int a0] (rest := []) hX hC (ct_isLetter l S a0 _ h E _) (cw_X12_isLetter hts (by omega) (by omega)) rfl hl.1 (Nat.le_of_ble_eq_true rfl) ⟨Nat.zero_le _, Nat.zero_le _⟩ dX12_rank_1 (fun r1 S1 H locs hC h => ?_)
  refine lv_if_eq (tgt := 14) hx hb dX12_rank_4 (by decide) (fun c2 => ?_) (fun c2 => ?_)
  · have h := h.1 c2
    refine lv_iload_n hx hb dX12_rank_14 rfl (lv_at hl 0 rfl) ?_
    refine lv_bipush (v := 21) hx hb dX12_rank_15 (by decide) ?_
    refine lq_isub hx hb dX12_rank_17 h (fun z3 h => ?_)
    exact hret _ _ _ _ _ _ hC h dX12_rank_18
  · have h := h.2 c2
    refine lv_iload_n hx hb dX12_rank_7 rfl (lv_at hl 0 rfl) ?_
    refine lv_bipush (v := 96) hx hb dX12_rank_8 (by decide) ?_
    refine lq_isub hx hb dX12_rank_10 h (fun z4 h => ?_)
    refine lv_goto (tgt := 18) hx hb dX12_rank_11 (by decide) ?_
    exact hret _ _ _ _ _ _ hC h dX12_rank_18
