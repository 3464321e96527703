theorem wd_1504 : (Jvm.Cond.fieldLink "SleepersModel" (596 : Nat) "SleepersModel" "steps" "I") ∈ tb := tb_at 1504 (by decide +kernel) (by decide +kernel)
theorem dX12_box_0 : decode cX12_box 0 = .ok (.aload_n 0, 1) := by decide +kernel
theorem dX12_box_1 : decode cX12_box 1 = .ok (.iconst 0, 1) := by decide +kernel
theorem dX12_box_2 : decode cX12_box 2 = .ok (.putfield 1, 3) := by decide +kernel
theorem dX12_box_5 : decode cX12_box 5 = .ok (.iload_n 1, 1) := by decide +kernel
theorem dX12_box_6 : decode cX12_box 6 = .ok (.ifCond .lt 23, 3) := by decide +kernel
theorem dX12_box_9 : decode cX12_box 9 = .ok (.iload_n 1, 1) := by decide +kernel
theorem dX12_box_10 : decode cX12_box 10 = .ok (.bipush 7, 2) := by decide +kernel
theorem dX12_box_12 : decode cX12_box 12 = .ok (.if_icmp .gt 17, 3) := by decide +kernel
theorem dX12_box_15 : decode cX12_box 15 = .ok (.iload_n 2, 1) := by decide +kernel
theorem dX12_box_16 : decode cX12_box 16 = .ok (.ifCond .lt 13, 3) := by decide +kernel
theorem dX12_box_19 : decode cX12_box 19 = .ok (.iload_n 2, 1) := by decide +kernel
theorem dX12_box_20 : decode cX12_box 20 = .ok (.aload_n 0, 1) := by decide +kernel
theorem dX12_box_21 : decode cX12_box 21 = .ok (.getfield 267, 3) := by decide +kernel
theorem dX12_box_24 : decode cX12_box 24 = .ok (.iload_n 1, 1) := by decide +kernel
theorem dX12_box_25 : decode cX12_box 25 = .ok (.iaload, 1) := by decide +kernel
theorem dX12_box_26 : decode cX12_box 26 = .ok (.if_icmp .lt 7, 3) := by decide +kernel
theorem dX12_box_29 : decode cX12_box 29 = .ok (.iconst 0, 1) := by decide +kernel
theorem dX12_box_30 : decode cX12_box 30 = .ok (.goto 14, 3) := by decide +kernel
theorem dX12_box_33 : decode cX12_box 33 = .ok (.aload_n 0, 1) := by decide +kernel
theorem dX12_box_34 : decode cX12_box 34 = .ok (.getfield 270, 3) := by decide +kernel
theorem dX12_box_37 : decode cX12_box 37 = .ok (.bipush 50, 2) := by decide +kernel
theorem dX12_box_39 : decode cX12_box 39 = .ok (.iload_n 1, 1) := by decide +kernel
theorem dX12_box_40 : decode cX12_box 40 = .ok (.imul, 1) := by decide +kernel
theorem dX12_box_41 : decode cX12_box 41 = .ok (.iload_n 2, 1) := by decide +kernel
theorem dX12_box_42 : decode cX12_box 42 = .ok (.iadd, 1) := by decide +kernel
theorem dX12_box_43 : decode cX12_box 43 = .ok (.iaload, 1) := by decide +kernel
theorem dX12_box_44 : decode cX12_box 44 = .ok (.ireturn, 1) := by decide +kernel
theorem dX12_count_0 : decode cX12_count 0 = .ok (.aload_n 0, 1) := by decide +kernel
theorem dX12_count_1 : decode cX12_count 1 = .ok (.iconst 0, 1) := by decide +kernel
theorem dX12_count_2 : decode cX12_count 2 = .ok (.putfield 1, 3) := by decide +kernel
theorem dX12_count_5 : decode cX12_count 5 = .ok (.iconst 0, 1) := by decide +kernel
theorem dX12_count_6 : decode cX12_count 6 = .ok (.istore_n 2, 1) := by decide +kernel
theorem dX12_count_7 : decode cX12_count 7 = .ok (.iconst 0, 1) := by decide +kernel
theorem dX12_count_8 : decode cX12_count 8 = .ok (.istore_n 3, 1) := by decide +kernel
theorem dX12_count_9 : decode cX12_count 9 = .ok (.iconst 0, 1) := by decide +kernel
theorem dX12_count_10 : decode cX12_count 10 = .ok (.istore 4, 2) := by decide +kernel
theorem dX12_count_12 : decode cX12_count 12 = .ok (.iload 4, 2) := by decide +kernel
theorem dX12_count_14 : decode cX12_count 14 = .ok (.aload_n 0, 1) := by decide +kernel
theorem dX12_count_15 : decode cX12_count 15 = .ok (.getfield 542, 3) := by decide +kernel
theorem dX12_count_18 : decode cX12_count 18 = .ok (.if_icmp .ge 58, 3) := by decide +kernel
theorem dX12_count_21 : decode cX12_count 21 = .ok (.iload_n 2, 1) := by decide +kernel
theorem dX12_count_22 : decode cX12_count 22 = .ok (.aload_n 0, 1) := by decide +kernel
theorem dX12_count_23 : decode cX12_count 23 = .ok (.getfield 195, 3) := by decide +kernel
theorem dX12_count_26 : decode cX12_count 26 = .ok (.iload 4, 2) := by decide +kernel
theorem dX12_count_28 : decode cX12_count 28 = .ok (.iaload, 1) := by decide +kernel
theorem dX12_count_29 : decode cX12_count 29 = .ok (.iconst 3, 1) := by decide +kernel
theorem dX12_count_30 : decode cX12_count 30 = .ok (.if_icmp .ne 7, 3) := by decide +kernel
theorem dX12_count_33 : decode cX12_count 33 = .ok (.iconst 1, 1) := by decide +kernel
theorem dX12_count_34 : decode cX12_count 34 = .ok (.goto 4, 3) := by decide +kernel
theorem dX12_count_37 : decode cX12_count 37 = .ok (.iconst 0, 1) := by decide +kernel
theorem dX12_count_38 : decode cX12_count 38 = .ok (.iadd, 1) := by decide +kernel
theorem dX12_count_39 : decode cX12_count 39 = .ok (.istore_n 2, 1) := by decide +kernel
theorem dX12_count_40 : decode cX12_count 40 = .ok (.iload_n 3, 1) := by decide +kernel
theorem dX12_count_41 : decode cX12_count 41 = .ok (.aload_n 0, 1) := by decide +kernel
theorem dX12_count_42 : decode cX12_count 42 = .ok (.getfield 195, 3) := by decide +kernel
theorem dX12_count_45 : decode cX12_count 45 = .ok (.iload 4, 2) := by decide +kernel
theorem dX12_count_47 : decode cX12_count 47 = .ok (.iaload, 1) := by decide +kernel
theorem dX12_count_48 : decode cX12_count 48 = .ok (.iconst 1, 1) := by decide +kernel
theorem dX12_count_49 : decode cX12_count 49 = .ok (.if_icmp .eq 14, 3) := by decide +kernel
theorem dX12_count_52 : decode cX12_count 52 = .ok (.aload_n 0, 1) := by decide +kernel
theorem dX12_count_53 : decode cX12_count 53 = .ok (.getfield 195, 3) := by decide +kernel
theorem dX12_count_56 : decode cX12_count 56 = .ok (.iload 4, 2) := by decide +kernel
theorem dX12_count_58 : decode cX12_count 58 = .ok (.iaload, 1) := by decide +kernel
theorem dX12_count_59 : decode cX12_count 59 = .ok (.iconst 2, 1) := by decide +kernel
theorem dX12_count_60 : decode cX12_count 60 = .ok (.if_icmp .ne 7, 3) := by decide +kernel
theorem dX12_count_63 : decode cX12_count 63 = .ok (.iconst 1, 1) := by decide +kernel
theorem dX12_count_64 : decode cX12_count 64 = .ok (.goto 4, 3) := by decide +kernel
theorem dX12_count_67 : decode cX12_count 67 = .ok (.iconst 0, 1) := by decide +kernel
theorem dX12_count_68 : decode cX12_count 68 = .ok (.iadd, 1) := by decide +kernel
theorem dX12_count_69 : decode cX12_count 69 = .ok (.istore_n 3, 1) := by decide +kernel
theorem dX12_count_70 : decode cX12_count 70 = .ok (.iinc 4 1, 3) := by decide +kernel
theorem dX12_count_73 : decode cX12_count 73 = .ok (.goto (-61), 3) := by decide +kernel
theorem dX12_count_76 : decode cX12_count 76 = .ok (.iconst 0, 1) := by decide +kernel
theorem dX12_count_77 : decode cX12_count 77 = .ok (.istore 4, 2) := by decide +kernel
theorem dX12_count_79 : decode cX12_count 79 = .ok (.iconst 0, 1) := by decide +kernel
theorem dX12_count_80 : decode cX12_count 80 = .ok (.istore 5, 2) := by decide +kernel
theorem dX12_count_82 : decode cX12_count 82 = .ok (.iload 5, 2) := by decide +kernel
theorem dX12_count_84 : decode cX12_count 84 = .ok (.bipush 8, 2) := by decide +kernel
theorem dX12_count_86 : decode cX12_count 86 = .ok (.if_icmp .ge 21, 3) := by decide +kernel
theorem dX12_count_89 : decode cX12_count 89 = .ok (.iload 4, 2) := by decide +kernel
theorem dX12_count_91 : decode cX12_count 91 = .ok (.aload_n 0, 1) := by decide +kernel
theorem dX12_count_92 : decode cX12_count 92 = .ok (.getfield 267, 3) := by decide +kernel
theorem dX12_count_95 : decode cX12_count 95 = .ok (.iload 5, 2) := by decide +kernel
theorem dX12_count_97 : decode cX12_count 97 = .ok (.iaload, 1) := by decide +kernel
theorem dX12_count_98 : decode cX12_count 98 = .ok (.iadd, 1) := by decide +kernel
theorem dX12_count_99 : decode cX12_count 99 = .ok (.istore 4, 2) := by decide +kernel
theorem dX12_count_101 : decode cX12_count 101 = .ok (.iinc 5 1, 3) := by decide +kernel
theorem dX12_count_104 : decode cX12_count 104 = .ok (.goto (-22), 3) := by decide +kernel
theorem dX12_count_107 : decode cX12_count 107 = .ok (.iload_n 1, 1) := by decide +kernel
theorem dX12_count_108 : decode cX12_count 108 = .ok (.tableswitch 121 0 11 #[64, 74, 79, 81, 86, 88, 93, 98, 103, 108, 113, 116], 64) := by decide +kernel
theorem dX12_count_172 : decode cX12_count 172 = .ok (.aload_n 0, 1) := by decide +kernel
theorem dX12_count_173 : decode cX12_count 173 = .ok (.getfield 43, 3) := by decide +kernel
theorem dX12_count_176 : decode cX12_count 176 = .ok (.aload_n 0, 1) := by decide +kernel
theorem dX12_count_177 : decode cX12_count 177 = .ok (.getfield 356, 3) := by decide +kernel
theorem dX12_count_180 : decode cX12_count 180 = .ok (.iaload, 1) := by decide +kernel
theorem dX12_count_181 : decode cX12_count 181 = .ok (.ireturn, 1) := by decide +kernel
theorem dX12_count_182 : decode cX12_count 182 = .ok (.aload_n 0, 1) := by decide +kernel
theorem dX12_count_183 : decode cX12_count 183 = .ok (.getfield 542, 3) := by decide +kernel
theorem dX12_count_186 : decode cX12_count 186 = .ok (.ireturn, 1) := by decide +kernel
theorem dX12_count_187 : decode cX12_count 187 = .ok (.iload_n 2, 1) := by decide +kernel
theorem dX12_count_188 : decode cX12_count 188 = .ok (.ireturn, 1) := by decide +kernel
theorem dX12_count_189 : decode cX12_count 189 = .ok (.aload_n 0, 1) := by decide +kernel
theorem dX12_count_190 : decode cX12_count 190 = .ok (.getfield 545, 3) := by decide +kernel
theorem dX12_count_193 : decode cX12_count 193 = .ok (.ireturn, 1) := by decide +kernel
theorem dX12_count_194 : decode cX12_count 194 = .ok (.iload_n 3, 1) := by decide +kernel
theorem dX12_count_195 : decode cX12_count 195 = .ok (.ireturn, 1) := by decide +kernel
theorem dX12_count_196 : decode cX12_count 196 = .ok (.aload_n 0, 1) := by decide +kernel
theorem dX12_count_197 : decode cX12_count 197 = .ok (.getfield 554, 3) := by decide +kernel
theorem dX12_count_200 : decode cX12_count 200 = .ok (.ireturn, 1) := by decide +kernel
theorem dX12_count_201 : decode cX12_count 201 = .ok (.aload_n 0, 1) := by decide +kernel
theorem dX12_count_202 : decode cX12_count 202 = .ok (.getfield 557, 3) := by decide +kernel
theorem dX12_count_205 : decode cX12_count 205 = .ok (.ireturn, 1) := by decide +kernel
theorem dX12_count_206 : decode cX12_count 206 = .ok (.aload_n 0, 1) := by decide +kernel
theorem dX12_count_207 : decode cX12_count 207 = .ok (.getfield 548, 3) := by decide +kernel
theorem dX12_count_210 : decode cX12_count 210 = .ok (.ireturn, 1) := by decide +kernel
theorem dX12_count_211 : decode cX12_count 211 = .ok (.aload_n 0, 1) := by decide +kernel
theorem dX12_count_212 : decode cX12_count 212 = .ok (.getfield 596, 3) := by decide +kernel
theorem dX12_count_215 : decode cX12_count 215 = .ok (.ireturn, 1) := by decide +kernel
theorem dX12_count_216 : decode cX12_count 216 = .ok (.aload_n 0, 1) := by decide +kernel
theorem dX12_count_217 : decode cX12_count 217 = .ok (.getfield 551, 3) := by decide +kernel
theorem dX12_count_220 : decode cX12_count 220 = .ok (.ireturn, 1) := by decide +kernel
theorem dX12_count_221 : decode cX12_count 221 = .ok (.iload 4, 2) := by decide +kernel
theorem dX12_count_223 : decode cX12_count 223 = .ok (.ireturn, 1) := by decide +kernel
theorem dX12_count_224 : decode cX12_count 224 = .ok (.aload_n 0, 1) := by decide +kernel
theorem dX12_count_225 : decode cX12_count 225 = .ok (.getfield 11, 3) := by decide +kernel
theorem dX12_count_228 : decode cX12_count 228 = .ok (.ireturn, 1) := by decide +kernel
theorem dX12_count_229 : decode cX12_count 229 = .ok (.iconst (-1), 1) := by decide +kernel
theorem dX12_count_230 : decode cX12_count 230 = .ok (.ireturn, 1) := by decide +kernel
theorem dX12_stands_0 : decode cX12_stands 0 = .ok (.aload_n 0, 1) := by decide +kernel
theorem dX12_stands_1 : decode cX12_stands 1 = .ok (.iconst 0, 1) := by decide +kernel
theorem dX12_stands_2 : decode cX12_stands 2 = .ok (.putfield 1, 3) := by decide +kernel
theorem dX12_stands_5 : decode cX12_stands 5 = .ok (.iload_n 2, 1) := by decide +kernel
theorem dX12_stands_6 : decode cX12_stands 6 = .ok (.istore_n 3, 1) := by decide +kernel
theorem dX12_stands_7 : decode cX12_stands 7 = .ok (.iconst 0, 1) := by decide +kernel
theorem dX12_stands_8 : decode cX12_stands 8 = .ok (.istore 4, 2) := by decide +kernel
theorem dX12_stands_10 : decode cX12_stands 10 = .ok (.iload 4, 2) := by decide +kernel
theorem dX12_stands_12 : decode cX12_stands 12 = .ok (.aload_n 0, 1) := by decide +kernel
theorem dX12_stands_13 : decode cX12_stands 13 = .ok (.getfield 563, 3) := by decide +kernel
theorem dX12_stands_16 : decode cX12_stands 16 = .ok (.if_icmp .ge 59, 3) := by decide +kernel
theorem dX12_stands_19 : decode cX12_stands 19 = .ok (.iload_n 2, 1) := by decide +kernel
theorem dX12_stands_20 : decode cX12_stands 20 = .ok (.ifCond .lt 55, 3) := by decide +kernel
theorem dX12_stands_23 : decode cX12_stands 23 = .ok (.aload_n 0, 1) := by decide +kernel
theorem dX12_stands_24 : decode cX12_stands 24 = .ok (.getfield 295, 3) := by decide +kernel
theorem dX12_stands_27 : decode cX12_stands 27 = .ok (.iload 4, 2) := by decide +kernel
theorem dX12_stands_29 : decode cX12_stands 29 = .ok (.iaload, 1) := by decide +kernel
theorem dX12_stands_30 : decode cX12_stands 30 = .ok (.istore 5, 2) := by decide +kernel
theorem dX12_stands_32 : decode cX12_stands 32 = .ok (.aload_n 0, 1) := by decide +kernel
theorem dX12_stands_33 : decode cX12_stands 33 = .ok (.getfield 274, 3) := by decide +kernel
theorem dX12_stands_36 : decode cX12_stands 36 = .ok (.iload 5, 2) := by decide +kernel
theorem dX12_stands_38 : decode cX12_stands 38 = .ok (.iaload, 1) := by decide +kernel
theorem dX12_stands_39 : decode cX12_stands 39 = .ok (.iconst 3, 1) := by decide +kernel
theorem dX12_stands_40 : decode cX12_stands 40 = .ok (.if_icmp .ne 29, 3) := by decide +kernel
theorem dX12_stands_43 : decode cX12_stands 43 = .ok (.aload_n 0, 1) := by decide +kernel
theorem dX12_stands_44 : decode cX12_stands 44 = .ok (.getfield 286, 3) := by decide +kernel
theorem dX12_stands_47 : decode cX12_stands 47 = .ok (.iload 5, 2) := by decide +kernel
theorem dX12_stands_49 : decode cX12_stands 49 = .ok (.iaload, 1) := by decide +kernel
theorem dX12_stands_50 : decode cX12_stands 50 = .ok (.iload_n 1, 1) := by decide +kernel
theorem dX12_stands_51 : decode cX12_stands 51 = .ok (.if_icmp .ne 18, 3) := by decide +kernel
theorem dX12_stands_54 : decode cX12_stands 54 = .ok (.iload_n 3, 1) := by decide +kernel
theorem dX12_stands_55 : decode cX12_stands 55 = .ok (.ifCond .ne 11, 3) := by decide +kernel
theorem dX12_stands_58 : decode cX12_stands 58 = .ok (.aload_n 0, 1) := by decide +kernel
theorem dX12_stands_59 : decode cX12_stands 59 = .ok (.getfield 289, 3) := by decide +kernel
theorem dX12_stands_62 : decode cX12_stands 62 = .ok (.iload 5, 2) := by decide +kernel
theorem dX12_stands_64 : decode cX12_stands 64 = .ok (.iaload, 1) := by decide +kernel
theorem dX12_stands_65 : decode cX12_stands 65 = .ok (.ireturn, 1) := by decide +kernel
theorem dX12_stands_66 : decode cX12_stands 66 = .ok (.iinc 3 (-1), 3) := by decide +kernel
theorem dX12_stands_69 : decode cX12_stands 69 = .ok (.iinc 4 1, 3) := by decide +kernel
theorem dX12_stands_72 : decode cX12_stands 72 = .ok (.goto (-62), 3) := by decide +kernel
theorem dX12_stands_75 : decode cX12_stands 75 = .ok (.iconst (-1), 1) := by decide +kernel
theorem dX12_stands_76 : decode cX12_stands 76 = .ok (.ireturn, 1) := by decide +kernel
set_option maxHeartbeats 4000000 in
set_option maxRecDepth 100000 in
theorem ct_X12_box (l : Launch) (dC : Nat → ClassId) (dI : Nat → Nat → Nat) (h0 : Nat) (q : Nat → Nat) (ks : Nat) (k_letters : ClassId) (i : Int32) (j : Int32) (sz : Nat) : Met l yX12_box (.code yX12_box cX12_box 3 (some .int) :: tb) ({ frames := 0, cells := 0, slots := 0, locals := 0 }) (va_Pc [.ref h0, .int i, .int j] (fun U => U.heap.size = sz ∧ va_P (dC, dI) vwCl [(h0, .inr (12, [.int 0, .ref (q 0), .int 0, .int 0, .ref (q 1), .ref (q 2), .ref (q 3), .int 0, .int 0, .ref ks, .ref (q 4), .int 0, .int 0, .ref (q 5), .ref (q 6), .ref (q 7), .ref (q 8), .ref (q 9), .ref (q 10), .ref (q 11), .ref (q 12), .ref (q 13), .ref (q 14), .int 0, .ref (q 15), .ref (q 16), .ref (q 17), .ref (q 18), .ref (q 19), .ref (q 20), .ref (q 21), .int 0, .ref (q 22), .ref (q 23), .ref (q 24), .int 0, .ref (q 25), .ref (q 26), .ref (q 27), .ref (q 28), .ref (q 29), .ref (q 30), .ref (q 31), .ref (q 32), .ref (q 33), .ref (q 34), .ref (q 35), .ref (q 36), .ref (q 37), .ref (q 38), .ref (q 39), .int 0, .ref (q 40), .ref (q 41), .ref (q 42), .ref (q 43), .ref (q 44), .ref (q 45), .ref (q 46), .ref (q 47), .ref (q 48), .int 0, .int 0, .int 0, .int 0, .int 0, .int 0, .int 0, .int 0, .int 0, .int 1, .ref (q 49), .ref (q 50), .int 0, .int 0, .ref (q 51), .ref (q 52), .ref (q 53), .ref (q 54), .ref (q 55), .ref (q 56), .ref (q 57), .ref (q 58), .ref (q 59), .ref (q 60), .ref (q 61), .ref (q 62), .ref (q 63), .ref (q 64), .ref (q 65), .ref (q 66), .ref (q 67), .ref (q 68), .ref (q 69), .ref (q 70), .ref (q 71), .ref (q 72), .ref (q 73), .int 0, .int 0, .int 0, .int 0, .int 0, .ref (q 74), .ref (q 75), .int 0, .ref (q 76), .ref (q 77), .ref (q 78), .ref (q 79), .int 0, .ref (q 80), .ref (q 81), .ref (q 82), .ref (q 83), .ref (q 84), .ref (q 85), .ref (q 86), .ref (q 87), .int 0, .ref (q 88), .int 0, .int 0, .int 0, .int 0, .int 0, .int 0, .int 0])), (q 78, .inl (k_letters, 8, .inl (fun _ => 0)))] U.heap ∧ va_K (dC, dI) vwCl [(k_letters, .int)] U ∧ va_D (fun _ => True) [(h0, .inr (12, [.int 0, .ref (q 0), .int 0, .int 0, .ref (q 1), .ref (q 2), .ref (q 3), .int 0, .int 0, .ref ks, .ref (q 4), .int 0, .int 0, .ref (q 5), .ref (q 6), .ref (q 7), .ref (q 8), .ref (q 9), .ref (q 10), .ref (q 11), .ref (q 12), .ref (q 13), .ref (q 14), .int 0, .ref (q 15), .ref (q 16), .ref (q 17), .ref (q 18), .ref (q 19), .ref (q 20), .ref (q 21), .int 0, .ref (q 22), .ref (q 23), .ref (q 24), .int 0, .ref (q 25), .ref (q 26), .ref (q 27), .ref (q 28), .ref (q 29), .ref (q 30), .ref (q 31), .ref (q 32), .ref (q 33), .ref (q 34), .ref (q 35), .ref (q 36), .ref (q 37), .ref (q 38), .ref (q 39), .int 0, .ref (q 40), .ref (q 41), .ref (q 42), .ref (q 43), .ref (q 44), .ref (q 45), .ref (q 46), .ref (q 47), .ref (q 48), .int 0, .int 0, .int 0, .int 0, .int 0, .int 0, .int 0, .int 0, .int 0, .int 1, .ref (q 49), .ref (q 50), .int 0, .int 0, .ref (q 51), .ref (q 52), .ref (q 53), .ref (q 54), .ref (q 55), .ref (q 56), .ref (q 57), .ref (q 58), .ref (q 59), .ref (q 60), .ref (q 61), .ref (q 62), .ref (q 63), .ref (q 64), .ref (q 65), .ref (q 66), .ref (q 67), .ref (q 68), .ref (q 69), .ref (q 70), .ref (q 71), .ref (q 72), .ref (q 73), .int 0, .int 0, .int 0, .int 0, .int 0, .ref (q 74), .ref (q 75), .int 0, .ref (q 76), .ref (q 77), .ref (q 78), .ref (q 79), .int 0, .ref (q 80), .ref (q 81), .ref (q 82), .ref (q 83), .ref (q 84), .ref (q 85), .ref (q 86), .ref (q 87), .int 0, .ref (q 88), .int 0, .int 0, .int 0, .int 0, .int 0, .int 0, .int 0])), (q 78, .inl (k_letters, 8, .inl (fun _ => 0)))])) (va_Qi (fun (r : Int32) (_ : Unit) => r = 0) (fun (_ : Unit) t => va_P (dC, dI) vwCl [] t.heap ∧ va_K (dC, dI) vwCl [] t ∧ va_D (va_A [(h0, .inr (12, [.int 0, .ref (q 0), .int 0, .int 0, .ref (q 1), .ref (q 2), .ref (q 3), .int 0, .int 0, .ref ks, .ref (q 4), .int 0, .int 0, .ref (q 5), .ref (q 6), .ref (q 7), .ref (q 8), .ref (q 9), .ref (q 10), .ref (q 11), .ref (q 12), .ref (q 13), .ref (q 14), .int 0, .ref (q 15), .ref (q 16), .ref (q 17), .ref (q 18), .ref (q 19), .ref (q 20), .ref (q 21), .int 0, .ref (q 22), .ref (q 23), .ref (q 24), .int 0, .ref (q 25), .ref (q 26), .ref (q 27), .ref (q 28), .ref (q 29), .ref (q 30), .ref (q 31), .ref (q 32), .ref (q 33), .ref (q 34), .ref (q 35), .ref (q 36), .ref (q 37), .ref (q 38), .ref (q 39), .int 0, .ref (q 40), .ref (q 41), .ref (q 42), .ref (q 43), .ref (q 44), .ref (q 45), .ref (q 46), .ref (q 47), .ref (q 48), .int 0, .int 0, .int 0, .int 0, .int 0, .int 0, .int 0, .int 0, .int 0, .int 1, .ref (q 49), .ref (q 50), .int 0, .int 0, .ref (q 51), .ref (q 52), .ref (q 53), .ref (q 54), .ref (q 55), .ref (q 56), .ref (q 57), .ref (q 58), .ref (q 59), .ref (q 60), .ref (q 61), .ref (q 62), .ref (q 63), .ref (q 64), .ref (q 65), .ref (q 66), .ref (q 67), .ref (q 68), .ref (q 69), .ref (q 70), .ref (q 71), .ref (q 72), .ref (q 73), .int 0, .int 0, .int 0, .int 0, .int 0, .ref (q 74), .ref (q 75), .int 0, .ref (q 76), .ref (q 77), .ref (q 78), .ref (q 79), .int 0, .ref (q 80), .ref (q 81), .ref (q 82), .ref (q 83), .ref (q 84), .ref (q 85), .ref (q 86), .ref (q 87), .int 0, .ref (q 88), .int 0, .int 0, .int 0, .int 0, .int 0, .int 0, .int 0])), (q 78, .inl (k_letters, 8, .inl (fun _ => 0)))] sz) []) (va_A [(h0, .inr (12, [.int 0, .ref (q 0), .int 0, .int 0, .ref (q 1), .ref (q 2), .ref (q 3), .int 0, .int 0, .ref ks, .ref (q 4), .int 0, .int 0, .ref (q 5), .ref (q 6), .ref (q 7), .ref (q 8), .ref (q 9), .ref (q 10), .ref (q 11), .ref (q 12), .ref (q 13), .ref (q 14), .int 0, .ref (q 15), .ref (q 16), .ref (q 17), .ref (q 18), .ref (q 19), .ref (q 20), .ref (q 21), .int 0, .ref (q 22), .ref (q 23), .ref (q 24), .int 0, .ref (q 25), .ref (q 26), .ref (q 27), .ref (q 28), .ref (q 29), .ref (q 30), .ref (q 31), .ref (q 32), .ref (q 33), .ref (q 34), .ref (q 35), .ref (q 36), .ref (q 37), .ref (q 38), .ref (q 39), .int 0, .ref (q 40), .ref (q 41), .ref (q 42), .ref (q 43), .ref (q 44), .ref (q 45), .ref (q 46), .ref (q 47), .ref (q 48), .int 0, .int 0, .int 0, .int 0, .int 0, .int 0, .int 0, .int 0, .int 0, .int 1, .ref (q 49), .ref (q 50), .int 0, .int 0, .ref (q 51), .ref (q 52), .ref (q 53), .ref (q 54), .ref (q 55), .ref (q 56), .ref (q 57), .ref (q 58), .ref (q 59), .ref (q 60), .ref (q 61), .ref (q 62), .ref (q 63), .ref (q 64), .ref (q 65), .ref (q 66), .ref (q 67), .ref (q 68), .ref (q 69), .ref (q 70), .ref (q 71), .ref (q 72), .ref (q 73), .int 0, .int 0, .int 0, .int 0, .int 0, .ref (q 74), .ref (q 75), .int 0, .ref (q 76), .ref (q 77), .ref (q 78), .ref (q 79), .int 0, .ref (q 80), .ref (q 81), .ref (q 82), .ref (q 83), .ref (q 84), .ref (q 85), .ref (q 86), .ref (q 87), .int 0, .ref (q 88), .int 0, .int 0, .int 0, .int 0, .int 0, .int 0, .int 0])), (q 78, .inl (k_letters, 8, .inl (fun _ => 0)))] sz)) 0 0 (va_A [(h0, .inr (12, [.int 0, .ref (q 0), .int 0, .int 0, .ref (q 1), .ref (q 2), .ref (q 3), .int 0, .int 0, .ref ks, .ref (q 4), .int 0, .int 0, .ref (q 5), .ref (q 6), .ref (q 7), .ref (q 8), .ref (q 9), .ref (q 10), .ref (q 11), .ref (q 12), .ref (q 13), .ref (q 14), .int 0, .ref (q 15), .ref (q 16), .ref (q 17), .ref (q 18), .ref (q 19), .ref (q 20), .ref (q 21), .int 0, .ref (q 22), .ref (q 23), .ref (q 24), .int 0, .ref (q 25), .ref (q 26), .ref (q 27), .ref (q 28), .ref (q 29), .ref (q 30), .ref (q 31), .ref (q 32), .ref (q 33), .ref (q 34), .ref (q 35), .ref (q 36), .ref (q 37), .ref (q 38), .ref (q 39), .int 0, .ref (q 40), .ref (q 41), .ref (q 42), .ref (q 43), .ref (q 44), .ref (q 45), .ref (q 46), .ref (q 47), .ref (q 48), .int 0, .int 0, .int 0, .int 0, .int 0, .int 0, .int 0, .int 0, .int 0, .int 1, .ref (q 49), .ref (q 50), .int 0, .int 0, .ref (q 51), .ref (q 52), .ref (q 53), .ref (q 54), .ref (q 55), .ref (q 56), .ref (q 57), .ref (q 58), .ref (q 59), .ref (q 60), .ref (q 61), .ref (q 62), .ref (q 63), .ref (q 64), .ref (q 65), .ref (q 66), .ref (q 67), .ref (q 68), .ref (q 69), .ref (q 70), .ref (q 71), .ref (q 72), .ref (q 73), .int 0, .int 0, .int 0, .int 0, .int 0, .ref (q 74), .ref (q 75), .int 0, .ref (q 76), .ref (q 77), .ref (q 78), .ref (q 79), .int 0, .ref (q 80), .ref (q 81), .ref (q 82), .ref (q 83), .ref (q 84), .ref (q 85), .ref (q 86), .ref (q 87), .int 0, .ref (q 88), .int 0, .int 0, .int 0, .int 0, .int 0, .int 0, .int 0])), (q 78, .inl (k_letters, 8, .inl (fun _ => 0)))] sz) := by
  refine Met.ofW (cc := cX12_box) (maxL := 3) (ret := (some .int)) (by decide) rfl ?_
  intro p e s m args below meth c s₁ B hml hv
  obtain ⟨rfl, hsz, hP, hK, hD0⟩ := hv
  have hx := B.exec
  have hb := B.bytes
  have hr := B.returns
  have hts : ∀ w ∈ tb, w.before _ s = true := fun w h => atoms_spec (ws := (.code yX12_box cX12_box 3 (some .int) :: tb)) B.pre w (List.mem_cons_of_mem _ h)
  have hown : s.vm.findClass RX12 = some m.cls := findClass_of_methodNamed B.named
  have hlocks := B.notSynchronized
  subst hsz
  have hD := hD0.self (sz := s.heap.size)
  generalize hAe : va_A [(h0, .inr (12, [.int 0, .ref (q 0), .int 0, .int 0, .ref (q 1), .ref (q 2), .ref (q 3), .int 0, .int 0, .ref ks, .ref (q 4), .int 0, .int 0, .ref (q 5), .ref (q 6), .ref (q 7), .ref (q 8), .ref (q 9), .ref (q 10), .ref (q 11), .ref (q 12), .ref (q 13), .ref (q 14), .int 0, .ref (q 15), .ref (q 16), .ref (q 17), .ref (q 18), .ref (q 19), .ref (q 20), .ref (q 21), .int 0, .ref (q 22), .ref (q 23), .ref (q 24), .int 0, .ref (q 25), .ref (q 26), .ref (q 27), .ref (q 28), .ref (q 29), .ref (q 30), .ref (q 31), .ref (q 32), .ref (q 33), .ref (q 34), .ref (q 35), .ref (q 36), .ref (q 37), .ref (q 38), .ref (q 39), .int 0, .ref (q 40), .ref (q 41), .ref (q 42), .ref (q 43), .ref (q 44), .ref (q 45), .ref (q 46), .ref (q 47), .ref (q 48), .int 0, .int 0, .int 0, .int 0, .int 0, .int 0, .int 0, .int 0, .int 0, .int 1, .ref (q 49), .ref (q 50), .int 0, .int 0, .ref (q 51), .ref (q 52), .ref (q 53), .ref (q 54), .ref (q 55), .ref (q 56), .ref (q 57), .ref (q 58), .ref (q 59), .ref (q 60), .ref (q 61), .ref (q 62), .ref (q 63), .ref (q 64), .ref (q 65), .ref (q 66), .ref (q 67), .ref (q 68), .ref (q 69), .ref (q 70), .ref (q 71), .ref (q 72), .ref (q 73), .int 0, .int 0, .int 0, .int 0, .int 0, .ref (q 74), .ref (q 75), .int 0, .ref (q 76), .ref (q 77), .ref (q 78), .ref (q 79), .int 0, .ref (q 80), .ref (q 81), .ref (q 82), .ref (q 83), .ref (q 84), .ref (q 85), .ref (q 86), .ref (q 87), .int 0, .ref (q 88), .int 0, .int 0, .int 0, .int 0, .int 0, .int 0, .int 0])), (q 78, .inl (k_letters, 8, .inl (fun _ => 0)))] s.heap.size = A at hD ⊢
  have hA : ∀ q : Nat, s.heap.size ≤ q → A q := fun q h => by rw [← hAe]; exact Or.inr h
  have hS : va_S A s.heap s.heap [] := va_S.rf
  have hP : va_P (dC, dI) vwCl [(h0, .inr (12, [.int 0, .ref (q 0), .int 0, .int 0, .ref (q 1), .ref (q 2), .ref (q 3), .int 0, .int 0, .ref ks, .ref (q 4), .int 0, .int 0, .ref (q 5), .ref (q 6), .ref (q 7), .ref (q 8), .ref (q 9), .ref (q 10), .ref (q 11), .ref (q 12), .ref (q 13), .ref (q 14), .int 0, .ref (q 15), .ref (q 16), .ref (q 17), .ref (q 18), .ref (q 19), .ref (q 20), .ref (q 21), .int 0, .ref (q 22), .ref (q 23), .ref (q 24), .int 0, .ref (q 25), .ref (q 26), .ref (q 27), .ref (q 28), .ref (q 29), .ref (q 30), .ref (q 31), .ref (q 32), .ref (q 33), .ref (q 34), .ref (q 35), .ref (q 36), .ref (q 37), .ref (q 38), .ref (q 39), .int 0, .ref (q 40), .ref (q 41), .ref (q 42), .ref (q 43), .ref (q 44), .ref (q 45), .ref (q 46), .ref (q 47), .ref (q 48), .int 0, .int 0, .int 0, .int 0, .int 0, .int 0, .int 0, .int 0, .int 0, .int 1, .ref (q 49), .ref (q 50), .int 0, .int 0, .ref (q 51), .ref (q 52), .ref (q 53), .ref (q 54), .ref (q 55), .ref (q 56), .ref (q 57), .ref (q 58), .ref (q 59), .ref (q 60), .ref (q 61), .ref (q 62), .ref (q 63), .ref (q 64), .ref (q 65), .ref (q 66), .ref (q 67), .ref (q 68), .ref (q 69), .ref (q 70), .ref (q 71), .ref (q 72), .ref (q 73), .int 0, .int 0, .int 0, .int 0, .int 0, .ref (q 74), .ref (q 75), .int 0, .ref (q 76), .ref (q 77), .ref (q 78), .ref (q 79), .int 0, .ref (q 80), .ref (q 81), .ref (q 82), .ref (q 83), .ref (q 84), .ref (q 85), .ref (q 86), .ref (q 87), .int 0, .ref (q 88), .int 0, .int 0, .int 0, .int 0, .int 0, .int 0, .int 0])), (q 78, .inl (k_letters, 8, .inl (fun _ => 0)))] s.heap := hP
  have hl := lv_entry ([.ref h0, .int i, .int j]) (n := 3) (Nat.le_of_ble_eq_true rfl)
  rw [lg_entry_eq]
  generalize (lg_sl ([.ref h0, .int i, .int j]) ++ List.replicate (3 - (lg_sl ([.ref h0, .int i, .int j])).length) Slot.unset).toArray = ls at hl ⊢
  have hl : lv_has ls 3 [(0, .ref h0), (1, .int i), (2, .int j)] := hl
  refine lv_aload_n hx hb dX12_box_0 rfl (lv_at hl 0 rfl) ?_
  refine lv_iconst (v := 0) hx hb dX12_box_1 (by decide) ?_
  refine va_put (D := (dC, dI)) (ci := 12) (v := .int 0) (ty := (tyX12 0)) (C := RX12) (T := TX12) (N := 128) hx hb hts in_X12 tyX12 tyX12_ok nmX12 hown hK hP hD hS 0 rfl rfl 0 (by decide) (hts _ wd_1404) (fun _ h9 => h9) rfl (tyX12_ok 0 (by decide)) rfl rfl (Nat.le_of_ble_eq_true rfl) dX12_box_2 (fun H locs hP hD hS => ?_)
  have hP : va_P (dC, dI) vwCl [(h0, .inr (12, [.int 0, .ref (q 0), .int 0, .int 0, .ref (q 1), .ref (q 2), .ref (q 3), .int 0, .int 0, .ref ks, .ref (q 4), .int 0, .int 0, .ref (q 5), .ref (q 6), .ref (q 7), .ref (q 8), .ref (q 9), .ref (q 10), .ref (q 11), .ref (q 12), .ref (q 13), .ref (q 14), .int 0, .ref (q 15), .ref (q 16), .ref (q 17), .ref (q 18), .ref (q 19), .ref (q 20), .ref (q 21), .int 0, .ref (q 22), .ref (q 23), .ref (q 24), .int 0, .ref (q 25), .ref (q 26), .ref (q 27), .ref (q 28), .ref (q 29), .ref (q 30), .ref (q 31), .ref (q 32), .ref (q 33), .ref (q 34), .ref (q 35), .ref (q 36), .ref (q 37), .ref (q 38), .ref (q 39), .int 0, .ref (q 40), .ref (q 41), .ref (q 42), .ref (q 43), .ref (q 44), .ref (q 45), .ref (q 46), .ref (q 47), .ref (q 48), .int 0, .int 0, .int 0, .int 0, .int 0, .int 0, .int 0, .int 0, .int 0, .int 1, .ref (q 49), .ref (q 50), .int 0, .int 0, .ref (q 51), .ref (q 52), .ref (q 53), .ref (q 54), .ref (q 55), .ref (q 56), .ref (q 57), .ref (q 58), .ref (q 59), .ref (q 60), .ref (q 61), .ref (q 62), .ref (q 63), .ref (q 64), .ref (q 65), .ref (q 66), .ref (q 67), .ref (q 68), .ref (q 69), .ref (q 70), .ref (q 71), .ref (q 72), .ref (q 73), .int 0, .int 0, .int 0, .int 0, .int 0, .ref (q 74), .ref (q 75), .int 0, .ref (q 76), .ref (q 77), .ref (q 78), .ref (q 79), .int 0, .ref (q 80), .ref (q 81), .ref (q 82), .ref (q 83), .ref (q 84), .ref (q 85), .ref (q 86), .ref (q 87), .int 0, .ref (q 88), .int 0, .int 0, .int 0, .int 0, .int 0, .int 0, .int 0])), (q 78, .inl (k_letters, 8, .inl (fun _ => 0)))] H := hP
  have hD : va_D A [(h0, .inr (12, [.int 0, .ref (q 0), .int 0, .int 0, .ref (q 1), .ref (q 2), .ref (q 3), .int 0, .int 0, .ref ks, .ref (q 4), .int 0, .int 0, .ref (q 5), .ref (q 6), .ref (q 7), .ref (q 8), .ref (q 9), .ref (q 10), .ref (q 11), .ref (q 12), .ref (q 13), .ref (q 14), .int 0, .ref (q 15), .ref (q 16), .ref (q 17), .ref (q 18), .ref (q 19), .ref (q 20), .ref (q 21), .int 0, .ref (q 22), .ref (q 23), .ref (q 24), .int 0, .ref (q 25), .ref (q 26), .ref (q 27), .ref (q 28), .ref (q 29), .ref (q 30), .ref (q 31), .ref (q 32), .ref (q 33), .ref (q 34), .ref (q 35), .ref (q 36), .ref (q 37), .ref (q 38), .ref (q 39), .int 0, .ref (q 40), .ref (q 41), .ref (q 42), .ref (q 43), .ref (q 44), .ref (q 45), .ref (q 46), .ref (q 47), .ref (q 48), .int 0, .int 0, .int 0, .int 0, .int 0, .int 0, .int 0, .int 0, .int 0, .int 1, .ref (q 49), .ref (q 50), .int 0, .int 0, .ref (q 51), .ref (q 52), .ref (q 53), .ref (q 54), .ref (q 55), .ref (q 56), .ref (q 57), .ref (q 58), .ref (q 59), .ref (q 60), .ref (q 61), .ref (q 62), .ref (q 63), .ref (q 64), .ref (q 65), .ref (q 66), .ref (q 67), .ref (q 68), .ref (q 69), .ref (q 70), .ref (q 71), .ref (q 72), .ref (q 73), .int 0, .int 0, .int 0, .int 0, .int 0, .ref (q 74), .ref (q 75), .int 0, .ref (q 76), .ref (q 77), .ref (q 78), .ref (q 79), .int 0, .ref (q 80), .ref (q 81), .ref (q 82), .ref (q 83), .ref (q 84), .ref (q 85), .ref (q 86), .ref (q 87), .int 0, .ref (q 88), .int 0, .int 0, .int 0, .int 0, .int 0, .int 0, .int 0])), (q 78, .inl (k_letters, 8, .inl (fun _ => 0)))] := hD
  refine lv_iload_n hx hb dX12_box_5 rfl (lv_at hl 1 rfl) ?_
  refine lv_if_lt (tgt := 29) hx hb dX12_box_6 (by decide) (fun c1 => ?_) (fun c1 => ?_)
  · refine lv_iconst (v := 0) hx hb dX12_box_29 (by decide) ?_
    refine lv_goto (tgt := 44) hx hb dX12_box_30 (by decide) ?_
    have hP9 := hP.sub (ws' := []) [] rfl
    have hD9 := hD.sub (ws' := []) [] (by decide) rfl
    have hK9 := hK.sub (tys' := []) [] rfl
    refine W.widen (k := 0) (n := 0) (Nat.le_of_ble_eq_true rfl) (Nat.le_of_ble_eq_true rfl) ?_
    exact W.iret (v := 0) hx hb hr (fun t ht hW => ⟨⟨0, (), rfl, rfl, by rw [ht]; exact hP9, va_K.moved hW.alike hK9, hD9⟩, hS.F ht⟩) hS.2.2 dX12_box_44
  · refine lv_iload_n hx hb dX12_box_9 rfl (lv_at hl 1 rfl) ?_
    refine lv_bipush (v := 7) hx hb dX12_box_10 (by decide) ?_
    refine lv_icmp_gt (tgt := 29) hx hb dX12_box_12 (by decide) (fun c2 => ?_) (fun c2 => ?_)
    · refine lv_iconst (v := 0) hx hb dX12_box_29 (by decide) ?_
      refine lv_goto (tgt := 44) hx hb dX12_box_30 (by decide) ?_
      have hP9 := hP.sub (ws' := []) [] rfl
      have hD9 := hD.sub (ws' := []) [] (by decide) rfl
      have hK9 := hK.sub (tys' := []) [] rfl
      refine W.widen (k := 0) (n := 0) (Nat.le_of_ble_eq_true rfl) (Nat.le_of_ble_eq_true rfl) ?_
      exact W.iret (v := 0) hx hb hr (fun t ht hW => ⟨⟨0, (), rfl, rfl, by rw [ht]; exact hP9, va_K.moved hW.alike hK9, hD9⟩, hS.F ht⟩) hS.2.2 dX12_box_44
    · refine lv_iload_n hx hb dX12_box_15 rfl (lv_at hl 2 rfl) ?_
      refine lv_if_lt (tgt := 29) hx hb dX12_box_16 (by decide) (fun c3 => ?_) (fun c3 => ?_)
      · refine lv_iconst (v := 0) hx hb dX12_box_29 (by decide) ?_
        refine lv_goto (tgt := 44) hx hb dX12_box_30 (by decide) ?_
        have hP9 := hP.sub (ws' := []) [] rfl
        have hD9 := hD.sub (ws' := []) [] (by decide) rfl
        have hK9 := hK.sub (tys' := []) [] rfl
        refine W.widen (k := 0) (n := 0) (Nat.le_of_ble_eq_true rfl) (Nat.le_of_ble_eq_true rfl) ?_
        exact W.iret (v := 0) hx hb hr (fun t ht hW => ⟨⟨0, (), rfl, rfl, by rw [ht]; exact hP9, va_K.moved hW.alike hK9, hD9⟩, hS.F ht⟩) hS.2.2 dX12_box_44
      · refine lv_iload_n hx hb dX12_box_19 rfl (lv_at hl 2 rfl) ?_
        refine lv_aload_n hx hb dX12_box_20 rfl (lv_at hl 0 rfl) ?_
        refine va_get (D := (dC, dI)) (ci := 12) (v := .ref (q 78)) (C := RX12) (T := TX12) (N := 128) hx hb hts in_X12 hown hK hP 0 rfl rfl 108 (by decide) (hts _ wd_1512) (fun _ h9 => h9) rfl dX12_box_21 ?_
        refine lv_iload_n hx hb dX12_box_24 rfl (lv_at hl 1 rfl) ?_
        refine va_iald hx hb hK hP 1 0 rfl rfl (px_inc (N := 8) rfl c1 (px_le7 (Int32.not_lt.mp c2))) dX12_box_25 ?_
        refine lv_topi (fun z4 ez4 => ?_)
        obtain rfl : z4 = 0 := ez4.trans (by first | rfl | decide)
        refine lv_icmp_lt (tgt := 33) hx hb dX12_box_26 (by decide) (fun c5 => ?_) (fun c5 => ?_)
        · exact px_dead (by first | exact absurd c5 c3 | exact absurd c3 c5 | exact absurd (Int32.not_lt.mp c3) c5 | exact absurd (Int32.not_le.mp c3) c5 | exact absurd c5 (Int32.not_lt.mpr c3) | exact absurd c5 (Int32.not_le.mpr c3))
        · refine lv_iconst (v := 0) hx hb dX12_box_29 (by decide) ?_
          refine lv_goto (tgt := 44) hx hb dX12_box_30 (by decide) ?_
          have hP9 := hP.sub (ws' := []) [] rfl
          have hD9 := hD.sub (ws' := []) [] (by decide) rfl
          have hK9 := hK.sub (tys' := []) [] rfl
          refine W.widen (k := 0) (n := 0) (Nat.le_of_ble_eq_true rfl) (Nat.le_of_ble_eq_true rfl) ?_
          exact W.iret (v := 0) hx hb hr (fun t ht hW => ⟨⟨0, (), rfl, rfl, by rw [ht]; exact hP9, va_K.moved hW.alike hK9, hD9⟩, hS.F ht⟩) hS.2.2 dX12_box_44
set_option maxHeartbeats 4000000 in
set_option maxRecDepth 100000 in
theorem ct_X12_stands (l : Launch) (dC : Nat → ClassId) (dI : Nat → Nat → Nat) (h0 : Nat) (q : Nat → Nat) (ks : Nat) (i : Int32) (j : Int32) (sz : Nat) : Met l yX12_stands (.code yX12_stands cX12_stands 6 (some .int) :: tb) ({ frames := 0, cells := 0, slots := 0, locals := 0 }) (va_Pc [.ref h0, .int i, .int j] (fun U => U.heap.size = sz ∧ va_P (dC, dI) vwCl [(h0, .inr (12, [.int 0, .ref (q 0), .int 0, .int 0, .ref (q 1), .ref (q 2), .ref (q 3), .int 0, .int 0, .ref ks, .ref (q 4), .int 0, .int 0, .ref (q 5), .ref (q 6), .ref (q 7), .ref (q 8), .ref (q 9), .ref (q 10), .ref (q 11), .ref (q 12), .ref (q 13), .ref (q 14), .int 0, .ref (q 15), .ref (q 16), .ref (q 17), .ref (q 18), .ref (q 19), .ref (q 20), .ref (q 21), .int 0, .ref (q 22), .ref (q 23), .ref (q 24), .int 0, .ref (q 25), .ref (q 26), .ref (q 27), .ref (q 28), .ref (q 29), .ref (q 30), .ref (q 31), .ref (q 32), .ref (q 33), .ref (q 34), .ref (q 35), .ref (q 36), .ref (q 37), .ref (q 38), .ref (q 39), .int 0, .ref (q 40), .ref (q 41), .ref (q 42), .ref (q 43), .ref (q 44), .ref (q 45), .ref (q 46), .ref (q 47), .ref (q 48), .int 0, .int 0, .int 0, .int 0, .int 0, .int 0, .int 0, .int 0, .int 0, .int 1, .ref (q 49), .ref (q 50), .int 0, .int 0, .ref (q 51), .ref (q 52), .ref (q 53), .ref (q 54), .ref (q 55), .ref (q 56), .ref (q 57), .ref (q 58), .ref (q 59), .ref (q 60), .ref (q 61), .ref (q 62), .ref (q 63), .ref (q 64), .ref (q 65), .ref (q 66), .ref (q 67), .ref (q 68), .ref (q 69), .ref (q 70), .ref (q 71), .ref (q 72), .ref (q 73), .int 0, .int 0, .int 0, .int 0, .int 0, .ref (q 74), .ref (q 75), .int 0, .ref (q 76), .ref (q 77), .ref (q 78), .ref (q 79), .int 0, .ref (q 80), .ref (q 81), .ref (q 82), .ref (q 83), .ref (q 84), .ref (q 85), .ref (q 86), .ref (q 87), .int 0, .ref (q 88), .int 0, .int 0, .int 0, .int 0, .int 0, .int 0, .int 0]))] U.heap ∧ va_K (dC, dI) vwCl [] U ∧ va_D (fun _ => True) [(h0, .inr (12, [.int 0, .ref (q 0), .int 0, .int 0, .ref (q 1), .ref (q 2), .ref (q 3), .int 0, .int 0, .ref ks, .ref (q 4), .int 0, .int 0, .ref (q 5), .ref (q 6), .ref (q 7), .ref (q 8), .ref (q 9), .ref (q 10), .ref (q 11), .ref (q 12), .ref (q 13), .ref (q 14), .int 0, .ref (q 15), .ref (q 16), .ref (q 17), .ref (q 18), .ref (q 19), .ref (q 20), .ref (q 21), .int 0, .ref (q 22), .ref (q 23), .ref (q 24), .int 0, .ref (q 25), .ref (q 26), .ref (q 27), .ref (q 28), .ref (q 29), .ref (q 30), .ref (q 31), .ref (q 32), .ref (q 33), .ref (q 34), .ref (q 35), .ref (q 36), .ref (q 37), .ref (q 38), .ref (q 39), .int 0, .ref (q 40), .ref (q 41), .ref (q 42), .ref (q 43), .ref (q 44), .ref (q 45), .ref (q 46), .ref (q 47), .ref (q 48), .int 0, .int 0, .int 0, .int 0, .int 0, .int 0, .int 0, .int 0, .int 0, .int 1, .ref (q 49), .ref (q 50), .int 0, .int 0, .ref (q 51), .ref (q 52), .ref (q 53), .ref (q 54), .ref (q 55), .ref (q 56), .ref (q 57), .ref (q 58), .ref (q 59), .ref (q 60), .ref (q 61), .ref (q 62), .ref (q 63), .ref (q 64), .ref (q 65), .ref (q 66), .ref (q 67), .ref (q 68), .ref (q 69), .ref (q 70), .ref (q 71), .ref (q 72), .ref (q 73), .int 0, .int 0, .int 0, .int 0, .int 0, .ref (q 74), .ref (q 75), .int 0, .ref (q 76), .ref (q 77), .ref (q 78), .ref (q 79), .int 0, .ref (q 80), .ref (q 81), .ref (q 82), .ref (q 83), .ref (q 84), .ref (q 85), .ref (q 86), .ref (q 87), .int 0, .ref (q 88), .int 0, .int 0, .int 0, .int 0, .int 0, .int 0, .int 0]))])) (va_Qi (fun (r : Int32) (_ : Unit) => r = -1) (fun (_ : Unit) t => va_P (dC, dI) vwCl [] t.heap ∧ va_K (dC, dI) vwCl [] t ∧ va_D (va_A [(h0, .inr (12, [.int 0, .ref (q 0), .int 0, .int 0, .ref (q 1), .ref (q 2), .ref (q 3), .int 0, .int 0, .ref ks, .ref (q 4), .int 0, .int 0, .ref (q 5), .ref (q 6), .ref (q 7), .ref (q 8), .ref (q 9), .ref (q 10), .ref (q 11), .ref (q 12), .ref (q 13), .ref (q 14), .int 0, .ref (q 15), .ref (q 16), .ref (q 17), .ref (q 18), .ref (q 19), .ref (q 20), .ref (q 21), .int 0, .ref (q 22), .ref (q 23), .ref (q 24), .int 0, .ref (q 25), .ref (q 26), .ref (q 27), .ref (q 28), .ref (q 29), .ref (q 30), .ref (q 31), .ref (q 32), .ref (q 33), .ref (q 34), .ref (q 35), .ref (q 36), .ref (q 37), .ref (q 38), .ref (q 39), .int 0, .ref (q 40), .ref (q 41), .ref (q 42), .ref (q 43), .ref (q 44), .ref (q 45), .ref (q 46), .ref (q 47), .ref (q 48), .int 0, .int 0, .int 0, .int 0, .int 0, .int 0, .int 0, .int 0, .int 0, .int 1, .ref (q 49), .ref (q 50), .int 0, .int 0, .ref (q 51), .ref (q 52), .ref (q 53), .ref (q 54), .ref (q 55), .ref (q 56), .ref (q 57), .ref (q 58), .ref (q 59), .ref (q 60), .ref (q 61), .ref (q 62), .ref (q 63), .ref (q 64), .ref (q 65), .ref (q 66), .ref (q 67), .ref (q 68), .ref (q 69), .ref (q 70), .ref (q 71), .ref (q 72), .ref (q 73), .int 0, .int 0, .int 0, .int 0, .int 0, .ref (q 74), .ref (q 75), .int 0, .ref (q 76), .ref (q 77), .ref (q 78), .ref (q 79), .int 0, .ref (q 80), .ref (q 81), .ref (q 82), .ref (q 83), .ref (q 84), .ref (q 85), .ref (q 86), .ref (q 87), .int 0, .ref (q 88), .int 0, .int 0, .int 0, .int 0, .int 0, .int 0, .int 0]))] sz) []) (va_A [(h0, .inr (12, [.int 0, .ref (q 0), .int 0, .int 0, .ref (q 1), .ref (q 2), .ref (q 3), .int 0, .int 0, .ref ks, .ref (q 4), .int 0, .int 0, .ref (q 5), .ref (q 6), .ref (q 7), .ref (q 8), .ref (q 9), .ref (q 10), .ref (q 11), .ref (q 12), .ref (q 13), .ref (q 14), .int 0, .ref (q 15), .ref (q 16), .ref (q 17), .ref (q 18), .ref (q 19), .ref (q 20), .ref (q 21), .int 0, .ref (q 22), .ref (q 23), .ref (q 24), .int 0, .ref (q 25), .ref (q 26), .ref (q 27), .ref (q 28), .ref (q 29), .ref (q 30), .ref (q 31), .ref (q 32), .ref (q 33), .ref (q 34), .ref (q 35), .ref (q 36), .ref (q 37), .ref (q 38), .ref (q 39), .int 0, .ref (q 40), .ref (q 41), .ref (q 42), .ref (q 43), .ref (q 44), .ref (q 45), .ref (q 46), .ref (q 47), .ref (q 48), .int 0, .int 0, .int 0, .int 0, .int 0, .int 0, .int 0, .int 0, .int 0, .int 1, .ref (q 49), .ref (q 50), .int 0, .int 0, .ref (q 51), .ref (q 52), .ref (q 53), .ref (q 54), .ref (q 55), .ref (q 56), .ref (q 57), .ref (q 58), .ref (q 59), .ref (q 60), .ref (q 61), .ref (q 62), .ref (q 63), .ref (q 64), .ref (q 65), .ref (q 66), .ref (q 67), .ref (q 68), .ref (q 69), .ref (q 70), .ref (q 71), .ref (q 72), .ref (q 73), .int 0, .int 0, .int 0, .int 0, .int 0, .ref (q 74), .ref (q 75), .int 0, .ref (q 76), .ref (q 77), .ref (q 78), .ref (q 79), .int 0, .ref (q 80), .ref (q 81), .ref (q 82), .ref (q 83), .ref (q 84), .ref (q 85), .ref (q 86), .ref (q 87), .int 0, .ref (q 88), .int 0, .int 0, .int 0, .int 0, .int 0, .int 0, .int 0]))] sz)) 0 0 (va_A [(h0, .inr (12, [.int 0, .ref (q 0), .int 0, .int 0, .ref (q 1), .ref (q 2), .ref (q 3), .int 0, .int 0, .ref ks, .ref (q 4), .int 0, .int 0, .ref (q 5), .ref (q 6), .ref (q 7), .ref (q 8), .ref (q 9), .ref (q 10), .ref (q 11), .ref (q 12), .ref (q 13), .ref (q 14), .int 0, .ref (q 15), .ref (q 16), .ref (q 17), .ref (q 18), .ref (q 19), .ref (q 20), .ref (q 21), .int 0, .ref (q 22), .ref (q 23), .ref (q 24), .int 0, .ref (q 25), .ref (q 26), .ref (q 27), .ref (q 28), .ref (q 29), .ref (q 30), .ref (q 31), .ref (q 32), .ref (q 33), .ref (q 34), .ref (q 35), .ref (q 36), .ref (q 37), .ref (q 38), .ref (q 39), .int 0, .ref (q 40), .ref (q 41), .ref (q 42), .ref (q 43), .ref (q 44), .ref (q 45), .ref (q 46), .ref (q 47), .ref (q 48), .int 0, .int 0, .int 0, .int 0, .int 0, .int 0, .int 0, .int 0, .int 0, .int 1, .ref (q 49), .ref (q 50), .int 0, .int 0, .ref (q 51), .ref (q 52), .ref (q 53), .ref (q 54), .ref (q 55), .ref (q 56), .ref (q 57), .ref (q 58), .ref (q 59), .ref (q 60), .ref (q 61), .ref (q 62), .ref (q 63), .ref (q 64), .ref (q 65), .ref (q 66), .ref (q 67), .ref (q 68), .ref (q 69), .ref (q 70), .ref (q 71), .ref (q 72), .ref (q 73), .int 0, .int 0, .int 0, .int 0, .int 0, .ref (q 74), .ref (q 75), .int 0, .ref (q 76), .ref (q 77), .ref (q 78), .ref (q 79), .int 0, .ref (q 80), .ref (q 81), .ref (q 82), .ref (q 83), .ref (q 84), .ref (q 85), .ref (q 86), .ref (q 87), .int 0, .ref (q 88), .int 0, .int 0, .int 0, .int 0, .int 0, .int 0, .int 0]))] sz) := by
  refine Met.ofW (cc := cX12_stands) (maxL := 6) (ret := (some .int)) (by decide) rfl ?_
  intro p e s m args below meth c s₁ B hml hv
  obtain ⟨rfl, hsz, hP, hK, hD0⟩ := hv
  have hx := B.exec
  have hb := B.bytes
  have hr := B.returns
  have hts : ∀ w ∈ tb, w.before _ s = true := fun w h => atoms_spec (ws := (.code yX12_stands cX12_stands 6 (some .int) :: tb)) B.pre w (List.mem_cons_of_mem _ h)
  have hown : s.vm.findClass RX12 = some m.cls := findClass_of_methodNamed B.named
  have hlocks := B.notSynchronized
  subst hsz
  have hD := hD0.self (sz := s.heap.size)
  generalize hAe : va_A [(h0, .inr (12, [.int 0, .ref (q 0), .int 0, .int 0, .ref (q 1), .ref (q 2), .ref (q 3), .int 0, .int 0, .ref ks, .ref (q 4), .int 0, .int 0, .ref (q 5), .ref (q 6), .ref (q 7), .ref (q 8), .ref (q 9), .ref (q 10), .ref (q 11), .ref (q 12), .ref (q 13), .ref (q 14), .int 0, .ref (q 15), .ref (q 16), .ref (q 17), .ref (q 18), .ref (q 19), .ref (q 20), .ref (q 21), .int 0, .ref (q 22), .ref (q 23), .ref (q 24), .int 0, .ref (q 25), .ref (q 26), .ref (q 27), .ref (q 28), .ref (q 29), .ref (q 30), .ref (q 31), .ref (q 32), .ref (q 33), .ref (q 34), .ref (q 35), .ref (q 36), .ref (q 37), .ref (q 38), .ref (q 39), .int 0, .ref (q 40), .ref (q 41), .ref (q 42), .ref (q 43), .ref (q 44), .ref (q 45), .ref (q 46), .ref (q 47), .ref (q 48), .int 0, .int 0, .int 0, .int 0, .int 0, .int 0, .int 0, .int 0, .int 0, .int 1, .ref (q 49), .ref (q 50), .int 0, .int 0, .ref (q 51), .ref (q 52), .ref (q 53), .ref (q 54), .ref (q 55), .ref (q 56), .ref (q 57), .ref (q 58), .ref (q 59), .ref (q 60), .ref (q 61), .ref (q 62), .ref (q 63), .ref (q 64), .ref (q 65), .ref (q 66), .ref (q 67), .ref (q 68), .ref (q 69), .ref (q 70), .ref (q 71), .ref (q 72), .ref (q 73), .int 0, .int 0, .int 0, .int 0, .int 0, .ref (q 74), .ref (q 75), .int 0, .ref (q 76), .ref (q 77), .ref (q 78), .ref (q 79), .int 0, .ref (q 80), .ref (q 81), .ref (q 82), .ref (q 83), .ref (q 84), .ref (q 85), .ref (q 86), .ref (q 87), .int 0, .ref (q 88), .int 0, .int 0, .int 0, .int 0, .int 0, .int 0, .int 0]))] s.heap.size = A at hD ⊢
  have hA : ∀ q : Nat, s.heap.size ≤ q → A q := fun q h => by rw [← hAe]; exact Or.inr h
  have hS : va_S A s.heap s.heap [] := va_S.rf
  have hP : va_P (dC, dI) vwCl [(h0, .inr (12, [.int 0, .ref (q 0), .int 0, .int 0, .ref (q 1), .ref (q 2), .ref (q 3), .int 0, .int 0, .ref ks, .ref (q 4), .int 0, .int 0, .ref (q 5), .ref (q 6), .ref (q 7), .ref (q 8), .ref (q 9), .ref (q 10), .ref (q 11), .ref (q 12), .ref (q 13), .ref (q 14), .int 0, .ref (q 15), .ref (q 16), .ref (q 17), .ref (q 18), .ref (q 19), .ref (q 20), .ref (q 21), .int 0, .ref (q 22), .ref (q 23), .ref (q 24), .int 0, .ref (q 25), .ref (q 26), .ref (q 27), .ref (q 28), .ref (q 29), .ref (q 30), .ref (q 31), .ref (q 32), .ref (q 33), .ref (q 34), .ref (q 35), .ref (q 36), .ref (q 37), .ref (q 38), .ref (q 39), .int 0, .ref (q 40), .ref (q 41), .ref (q 42), .ref (q 43), .ref (q 44), .ref (q 45), .ref (q 46), .ref (q 47), .ref (q 48), .int 0, .int 0, .int 0, .int 0, .int 0, .int 0, .int 0, .int 0, .int 0, .int 1, .ref (q 49), .ref (q 50), .int 0, .int 0, .ref (q 51), .ref (q 52), .ref (q 53), .ref (q 54), .ref (q 55), .ref (q 56), .ref (q 57), .ref (q 58), .ref (q 59), .ref (q 60), .ref (q 61), .ref (q 62), .ref (q 63), .ref (q 64), .ref (q 65), .ref (q 66), .ref (q 67), .ref (q 68), .ref (q 69), .ref (q 70), .ref (q 71), .ref (q 72), .ref (q 73), .int 0, .int 0, .int 0, .int 0, .int 0, .ref (q 74), .ref (q 75), .int 0, .ref (q 76), .ref (q 77), .ref (q 78), .ref (q 79), .int 0, .ref (q 80), .ref (q 81), .ref (q 82), .ref (q 83), .ref (q 84), .ref (q 85), .ref (q 86), .ref (q 87), .int 0, .ref (q 88), .int 0, .int 0, .int 0, .int 0, .int 0, .int 0, .int 0]))] s.heap := hP
  have hl := lv_entry ([.ref h0, .int i, .int j]) (n := 6) (Nat.le_of_ble_eq_true rfl)
  rw [lg_entry_eq]
  generalize (lg_sl ([.ref h0, .int i, .int j]) ++ List.replicate (6 - (lg_sl ([.ref h0, .int i, .int j])).length) Slot.unset).toArray = ls at hl ⊢
  have hl : lv_has ls 6 [(0, .ref h0), (1, .int i), (2, .int j)] := hl
  refine lv_aload_n hx hb dX12_stands_0 rfl (lv_at hl 0 rfl) ?_
  refine lv_iconst (v := 0) hx hb dX12_stands_1 (by decide) ?_
  refine va_put (D := (dC, dI)) (ci := 12) (v := .int 0) (ty := (tyX12 0)) (C := RX12) (T := TX12) (N := 128) hx hb hts in_X12 tyX12 tyX12_ok nmX12 hown hK hP hD hS 0 rfl rfl 0 (by decide) (hts _ wd_1404) (fun _ h9 => h9) rfl (tyX12_ok 0 (by decide)) rfl rfl (Nat.le_of_ble_eq_true rfl) dX12_stands_2 (fun H locs hP hD hS => ?_)
  have hP : va_P (dC, dI) vwCl [(h0, .inr (12, [.int 0, .ref (q 0), .int 0, .int 0, .ref (q 1), .ref (q 2), .ref (q 3), .int 0, .int 0, .ref ks, .ref (q 4), .int 0, .int 0, .ref (q 5), .ref (q 6), .ref (q 7), .ref (q 8), .ref (q 9), .ref (q 10), .ref (q 11), .ref (q 12), .ref (q 13), .ref (q 14), .int 0, .ref (q 15), .ref (q 16), .ref (q 17), .ref (q 18), .ref (q 19), .ref (q 20), .ref (q 21), .int 0, .ref (q 22), .ref (q 23), .ref (q 24), .int 0, .ref (q 25), .ref (q 26), .ref (q 27), .ref (q 28), .ref (q 29), .ref (q 30), .ref (q 31), .ref (q 32), .ref (q 33), .ref (q 34), .ref (q 35), .ref (q 36), .ref (q 37), .ref (q 38), .ref (q 39), .int 0, .ref (q 40), .ref (q 41), .ref (q 42), .ref (q 43), .ref (q 44), .ref (q 45), .ref (q 46), .ref (q 47), .ref (q 48), .int 0, .int 0, .int 0, .int 0, .int 0, .int 0, .int 0, .int 0, .int 0, .int 1, .ref (q 49), .ref (q 50), .int 0, .int 0, .ref (q 51), .ref (q 52), .ref (q 53), .ref (q 54), .ref (q 55), .ref (q 56), .ref (q 57), .ref (q 58), .ref (q 59), .ref (q 60), .ref (q 61), .ref (q 62), .ref (q 63), .ref (q 64), .ref (q 65), .ref (q 66), .ref (q 67), .ref (q 68), .ref (q 69), .ref (q 70), .ref (q 71), .ref (q 72), .ref (q 73), .int 0, .int 0, .int 0, .int 0, .int 0, .ref (q 74), .ref (q 75), .int 0, .ref (q 76), .ref (q 77), .ref (q 78), .ref (q 79), .int 0, .ref (q 80), .ref (q 81), .ref (q 82), .ref (q 83), .ref (q 84), .ref (q 85), .ref (q 86), .ref (q 87), .int 0, .ref (q 88), .int 0, .int 0, .int 0, .int 0, .int 0, .int 0, .int 0]))] H := hP
  have hD : va_D A [(h0, .inr (12, [.int 0, .ref (q 0), .int 0, .int 0, .ref (q 1), .ref (q 2), .ref (q 3), .int 0, .int 0, .ref ks, .ref (q 4), .int 0, .int 0, .ref (q 5), .ref (q 6), .ref (q 7), .ref (q 8), .ref (q 9), .ref (q 10), .ref (q 11), .ref (q 12), .ref (q 13), .ref (q 14), .int 0, .ref (q 15), .ref (q 16), .ref (q 17), .ref (q 18), .ref (q 19), .ref (q 20), .ref (q 21), .int 0, .ref (q 22), .ref (q 23), .ref (q 24), .int 0, .ref (q 25), .ref (q 26), .ref (q 27), .ref (q 28), .ref (q 29), .ref (q 30), .ref (q 31), .ref (q 32), .ref (q 33), .ref (q 34), .ref (q 35), .ref (q 36), .ref (q 37), .ref (q 38), .ref (q 39), .int 0, .ref (q 40), .ref (q 41), .ref (q 42), .ref (q 43), .ref (q 44), .ref (q 45), .ref (q 46), .ref (q 47), .ref (q 48), .int 0, .int 0, .int 0, .int 0, .int 0, .int 0, .int 0, .int 0, .int 0, .int 1, .ref (q 49), .ref (q 50), .int 0, .int 0, .ref (q 51), .ref (q 52), .ref (q 53), .ref (q 54), .ref (q 55), .ref (q 56), .ref (q 57), .ref (q 58), .ref (q 59), .ref (q 60), .ref (q 61), .ref (q 62), .ref (q 63), .ref (q 64), .ref (q 65), .ref (q 66), .ref (q 67), .ref (q 68), .ref (q 69), .ref (q 70), .ref (q 71), .ref (q 72), .ref (q 73), .int 0, .int 0, .int 0, .int 0, .int 0, .ref (q 74), .ref (q 75), .int 0, .ref (q 76), .ref (q 77), .ref (q 78), .ref (q 79), .int 0, .ref (q 80), .ref (q 81), .ref (q 82), .ref (q 83), .ref (q 84), .ref (q 85), .ref (q 86), .ref (q 87), .int 0, .ref (q 88), .int 0, .int 0, .int 0, .int 0, .int 0, .int 0, .int 0]))] := hD
  refine lv_iload_n hx hb dX12_stands_5 rfl (lv_at hl 2 rfl) ?_
  refine lv_istore_n (lv' := [(3, .int j), (0, .ref h0), (1, .int i), (2, .int j)]) hx hb dX12_stands_6 rfl hl (by decide) rfl (fun ls hl => ?_)
  refine lv_iconst (v := 0) hx hb dX12_stands_7 (by decide) ?_
  refine lv_istore (lv' := [(4, .int 0), (3, .int j), (0, .ref h0), (1, .int i), (2, .int j)]) hx hb dX12_stands_8 hl (by decide) rfl (fun ls hl => ?_)
  refine lv_iload hx hb dX12_stands_10 (lv_at hl 0 rfl) ?_
  refine lv_aload_n hx hb dX12_stands_12 rfl (lv_at hl 2 rfl) ?_
  refine va_get (D := (dC, dI)) (ci := 12) (v := .int 0) (C := RX12) (T := TX12) (N := 128) hx hb hts in_X12 hown hK hP 0 rfl rfl 119 (by decide) (hts _ wd_1523) (fun _ h9 => h9) rfl dX12_stands_13 ?_
  refine lv_icmp_ge (tgt := 75) hx hb dX12_stands_16 (by decide) (fun _ => ?_) (fun h => absurd (by decide) h)
  refine lv_iconst (v := -1) hx hb dX12_stands_75 (by decide) ?_
  have hP9 := hP.sub (ws' := []) [] rfl
  have hD9 := hD.sub (ws' := []) [] (by decide) rfl
  have hK9 := hK.sub (tys' := []) [] rfl
  refine W.widen (k := 0) (n := 0) (Nat.le_of_ble_eq_true rfl) (Nat.le_of_ble_eq_true rfl) ?_
  exact W.iret (v := -1) hx hb hr (fun t ht hW => ⟨⟨-1, (), rfl, rfl, by rw [ht]; exact hP9, va_K.moved hW.alike hK9, hD9⟩, hS.F ht⟩) hS.2.2 dX12_stands_76
set_option maxHeartbeats 4000000 in
set_option maxRecDepth 100000 in
theorem ct_X12_count (l : Launch) (dC : Nat → ClassId) (dI : Nat → Nat → Nat) (h0 : Nat) (q : Nat → Nat) (ks : Nat) (k_routines : ClassId) (k_letters : ClassId) (k : Int32) (sz : Nat) : Met l yX12_count (.code yX12_count cX12_count 6 (some .int) :: tb) ({ frames := 0, cells := 0, slots := 0, locals := 0 }) (va_Pc [.ref h0, .int k] (fun U => U.heap.size = sz ∧ va_P (dC, dI) vwCl [(h0, .inr (12, [.int 0, .ref (q 0), .int 0, .int 0, .ref (q 1), .ref (q 2), .ref (q 3), .int 0, .int 0, .ref ks, .ref (q 4), .int 0, .int 0, .ref (q 5), .ref (q 6), .ref (q 7), .ref (q 8), .ref (q 9), .ref (q 10), .ref (q 11), .ref (q 12), .ref (q 13), .ref (q 14), .int 0, .ref (q 15), .ref (q 16), .ref (q 17), .ref (q 18), .ref (q 19), .ref (q 20), .ref (q 21), .int 0, .ref (q 22), .ref (q 23), .ref (q 24), .int 0, .ref (q 25), .ref (q 26), .ref (q 27), .ref (q 28), .ref (q 29), .ref (q 30), .ref (q 31), .ref (q 32), .ref (q 33), .ref (q 34), .ref (q 35), .ref (q 36), .ref (q 37), .ref (q 38), .ref (q 39), .int 0, .ref (q 40), .ref (q 41), .ref (q 42), .ref (q 43), .ref (q 44), .ref (q 45), .ref (q 46), .ref (q 47), .ref (q 48), .int 0, .int 0, .int 0, .int 0, .int 0, .int 0, .int 0, .int 0, .int 0, .int 1, .ref (q 49), .ref (q 50), .int 0, .int 0, .ref (q 51), .ref (q 52), .ref (q 53), .ref (q 54), .ref (q 55), .ref (q 56), .ref (q 57), .ref (q 58), .ref (q 59), .ref (q 60), .ref (q 61), .ref (q 62), .ref (q 63), .ref (q 64), .ref (q 65), .ref (q 66), .ref (q 67), .ref (q 68), .ref (q 69), .ref (q 70), .ref (q 71), .ref (q 72), .ref (q 73), .int 0, .int 0, .int 0, .int 0, .int 0, .ref (q 74), .ref (q 75), .int 0, .ref (q 76), .ref (q 77), .ref (q 78), .ref (q 79), .int 0, .ref (q 80), .ref (q 81), .ref (q 82), .ref (q 83), .ref (q 84), .ref (q 85), .ref (q 86), .ref (q 87), .int 0, .ref (q 88), .int 0, .int 0, .int 0, .int 0, .int 0, .int 0, .int 0])), (q 5, .inl (k_routines, 2, .inl (fun _ => 0))), (q 78, .inl (k_letters, 8, .inl (fun _ => 0)))] U.heap ∧ va_K (dC, dI) vwCl [(k_routines, .int), (k_letters, .int)] U ∧ va_D (fun _ => True) [(h0, .inr (12, [.int 0, .ref (q 0), .int 0, .int 0, .ref (q 1), .ref (q 2), .ref (q 3), .int 0, .int 0, .ref ks, .ref (q 4), .int 0, .int 0, .ref (q 5), .ref (q 6), .ref (q 7), .ref (q 8), .ref (q 9), .ref (q 10), .ref (q 11), .ref (q 12), .ref (q 13), .ref (q 14), .int 0, .ref (q 15), .ref (q 16), .ref (q 17), .ref (q 18), .ref (q 19), .ref (q 20), .ref (q 21), .int 0, .ref (q 22), .ref (q 23), .ref (q 24), .int 0, .ref (q 25), .ref (q 26), .ref (q 27), .ref (q 28), .ref (q 29), .ref (q 30), .ref (q 31), .ref (q 32), .ref (q 33), .ref (q 34), .ref (q 35), .ref (q 36), .ref (q 37), .ref (q 38), .ref (q 39), .int 0, .ref (q 40), .ref (q 41), .ref (q 42), .ref (q 43), .ref (q 44), .ref (q 45), .ref (q 46), .ref (q 47), .ref (q 48), .int 0, .int 0, .int 0, .int 0, .int 0, .int 0, .int 0, .int 0, .int 0, .int 1, .ref (q 49), .ref (q 50), .int 0, .int 0, .ref (q 51), .ref (q 52), .ref (q 53), .ref (q 54), .ref (q 55), .ref (q 56), .ref (q 57), .ref (q 58), .ref (q 59), .ref (q 60), .ref (q 61), .ref (q 62), .ref (q 63), .ref (q 64), .ref (q 65), .ref (q 66), .ref (q 67), .ref (q 68), .ref (q 69), .ref (q 70), .ref (q 71), .ref (q 72), .ref (q 73), .int 0, .int 0, .int 0, .int 0, .int 0, .ref (q 74), .ref (q 75), .int 0, .ref (q 76), .ref (q 77), .ref (q 78), .ref (q 79), .int 0, .ref (q 80), .ref (q 81), .ref (q 82), .ref (q 83), .ref (q 84), .ref (q 85), .ref (q 86), .ref (q 87), .int 0, .ref (q 88), .int 0, .int 0, .int 0, .int 0, .int 0, .int 0, .int 0])), (q 5, .inl (k_routines, 2, .inl (fun _ => 0))), (q 78, .inl (k_letters, 8, .inl (fun _ => 0)))])) (va_Qi (fun (r : Int32) (_ : Unit) => r = if k = 0 ∨ k = 1 ∨ k = 2 ∨ k = 3 ∨ k = 4 ∨ k = 5 ∨ k = 6 ∨ k = 7 ∨ k = 8 ∨ k = 9 ∨ k = 10 ∨ k = 11 then 0 else -1) (fun (_ : Unit) t => va_P (dC, dI) vwCl [] t.heap ∧ va_K (dC, dI) vwCl [] t ∧ va_D (va_A [(h0, .inr (12, [.int 0, .ref (q 0), .int 0, .int 0, .ref (q 1), .ref (q 2), .ref (q 3), .int 0, .int 0, .ref ks, .ref (q 4), .int 0, .int 0, .ref (q 5), .ref (q 6), .ref (q 7), .ref (q 8), .ref (q 9), .ref (q 10), .ref (q 11), .ref (q 12), .ref (q 13), .ref (q 14), .int 0, .ref (q 15), .ref (q 16), .ref (q 17), .ref (q 18), .ref (q 19), .ref (q 20), .ref (q 21), .int 0, .ref (q 22), .ref (q 23), .ref (q 24), .int 0, .ref (q 25), .ref (q 26), .ref (q 27), .ref (q 28), .ref (q 29), .ref (q 30), .ref (q 31), .ref (q 32), .ref (q 33), .ref (q 34), .ref (q 35), .ref (q 36), .ref (q 37), .ref (q 38), .ref (q 39), .int 0, .ref (q 40), .ref (q 41), .ref (q 42), .ref (q 43), .ref (q 44), .ref (q 45), .ref (q 46), .ref (q 47), .ref (q 48), .int 0, .int 0, .int 0, .int 0, .int 0, .int 0, .int 0, .int 0, .int 0, .int 1, .ref (q 49), .ref (q 50), .int 0, .int 0, .ref (q 51), .ref (q 52), .ref (q 53), .ref (q 54), .ref (q 55), .ref (q 56), .ref (q 57), .ref (q 58), .ref (q 59), .ref (q 60), .ref (q 61), .ref (q 62), .ref (q 63), .ref (q 64), .ref (q 65), .ref (q 66), .ref (q 67), .ref (q 68), .ref (q 69), .ref (q 70), .ref (q 71), .ref (q 72), .ref (q 73), .int 0, .int 0, .int 0, .int 0, .int 0, .ref (q 74), .ref (q 75), .int 0, .ref (q 76), .ref (q 77), .ref (q 78), .ref (q 79), .int 0, .ref (q 80), .ref (q 81), .ref (q 82), .ref (q 83), .ref (q 84), .ref (q 85), .ref (q 86), .ref (q 87), .int 0, .ref (q 88), .int 0, .int 0, .int 0, .int 0, .int 0, .int 0, .int 0])), (q 5, .inl (k_routines, 2, .inl (fun _ => 0))), (q 78, .inl (k_letters, 8, .inl (fun _ => 0)))] sz) []) (va_A [(h0, .inr (12, [.int 0, .ref (q 0), .int 0, .int 0, .ref (q 1), .ref (q 2), .ref (q 3), .int 0, .int 0, .ref ks, .ref (q 4), .int 0, .int 0, .ref (q 5), .ref (q 6), .ref (q 7), .ref (q 8), .ref (q 9), .ref (q 10), .ref (q 11), .ref (q 12), .ref (q 13), .ref (q 14), .int 0, .ref (q 15), .ref (q 16), .ref (q 17), .ref (q 18), .ref (q 19), .ref (q 20), .ref (q 21), .int 0, .ref (q 22), .ref (q 23), .ref (q 24), .int 0, .ref (q 25), .ref (q 26), .ref (q 27), .ref (q 28), .ref (q 29), .ref (q 30), .ref (q 31), .ref (q 32), .ref (q 33), .ref (q 34), .ref (q 35), .ref (q 36), .ref (q 37), .ref (q 38), .ref (q 39), .int 0, .ref (q 40), .ref (q 41), .ref (q 42), .ref (q 43), .ref (q 44), .ref (q 45), .ref (q 46), .ref (q 47), .ref (q 48), .int 0, .int 0, .int 0, .int 0, .int 0, .int 0, .int 0, .int 0, .int 0, .int 1, .ref (q 49), .ref (q 50), .int 0, .int 0, .ref (q 51), .ref (q 52), .ref (q 53), .ref (q 54), .ref (q 55), .ref (q 56), .ref (q 57), .ref (q 58), .ref (q 59), .ref (q 60), .ref (q 61), .ref (q 62), .ref (q 63), .ref (q 64), .ref (q 65), .ref (q 66), .ref (q 67), .ref (q 68), .ref (q 69), .ref (q 70), .ref (q 71), .ref (q 72), .ref (q 73), .int 0, .int 0, .int 0, .int 0, .int 0, .ref (q 74), .ref (q 75), .int 0, .ref (q 76), .ref (q 77), .ref (q 78), .ref (q 79), .int 0, .ref (q 80), .ref (q 81), .ref (q 82), .ref (q 83), .ref (q 84), .ref (q 85), .ref (q 86), .ref (q 87), .int 0, .ref (q 88), .int 0, .int 0, .int 0, .int 0, .int 0, .int 0, .int 0])), (q 5, .inl (k_routines, 2, .inl (fun _ => 0))), (q 78, .inl (k_letters, 8, .inl (fun _ => 0)))] sz)) 0 0 (va_A [(h0, .inr (12, [.int 0, .ref (q 0), .int 0, .int 0, .ref (q 1), .ref (q 2), .ref (q 3), .int 0, .int 0, .ref ks, .ref (q 4), .int 0, .int 0, .ref (q 5), .ref (q 6), .ref (q 7), .ref (q 8), .ref (q 9), .ref (q 10), .ref (q 11), .ref (q 12), .ref (q 13), .ref (q 14), .int 0, .ref (q 15), .ref (q 16), .ref (q 17), .ref (q 18), .ref (q 19), .ref (q 20), .ref (q 21), .int 0, .ref (q 22), .ref (q 23), .ref (q 24), .int 0, .ref (q 25), .ref (q 26), .ref (q 27), .ref (q 28), .ref (q 29), .ref (q 30), .ref (q 31), .ref (q 32), .ref (q 33), .ref (q 34), .ref (q 35), .ref (q 36), .ref (q 37), .ref (q 38), .ref (q 39), .int 0, .ref (q 40), .ref (q 41), .ref (q 42), .ref (q 43), .ref (q 44), .ref (q 45), .ref (q 46), .ref (q 47), .ref (q 48), .int 0, .int 0, .int 0, .int 0, .int 0, .int 0, .int 0, .int 0, .int 0, .int 1, .ref (q 49), .ref (q 50), .int 0, .int 0, .ref (q 51), .ref (q 52), .ref (q 53), .ref (q 54), .ref (q 55), .ref (q 56), .ref (q 57), .ref (q 58), .ref (q 59), .ref (q 60), .ref (q 61), .ref (q 62), .ref (q 63), .ref (q 64), .ref (q 65), .ref (q 66), .ref (q 67), .ref (q 68), .ref (q 69), .ref (q 70), .ref (q 71), .ref (q 72), .ref (q 73), .int 0, .int 0, .int 0, .int 0, .int 0, .ref (q 74), .ref (q 75), .int 0, .ref (q 76), .ref (q 77), .ref (q 78), .ref (q 79), .int 0, .ref (q 80), .ref (q 81), .ref (q 82), .ref (q 83), .ref (q 84), .ref (q 85), .ref (q 86), .ref (q 87), .int 0, .ref (q 88), .int 0, .int 0, .int 0, .int 0, .int 0, .int 0, .int 0])), (q 5, .inl (k_routines, 2, .inl (fun _ => 0))), (q 78, .inl (k_letters, 8, .inl (fun _ => 0)))] sz) := by
  refine Met.ofW (cc := cX12_count) (maxL := 6) (ret := (some .int)) (by decide) rfl ?_
  intro p e s m args below meth c s₁ B hml hv
  obtain ⟨rfl, hsz, hP, hK, hD0⟩ := hv
  have hx := B.exec
  have hb := B.bytes
  have hr := B.returns
  have hts : ∀ w ∈ tb, w.before _ s = true := fun w h => atoms_spec (ws := (.code yX12_count cX12_count 6 (some .int) :: tb)) B.pre w (List.mem_cons_of_mem _ h)
  have hown : s.vm.findClass RX12 = some m.cls := findClass_of_methodNamed B.named
  have hlocks := B.notSynchronized
  subst hsz
  have hD := hD0.self (sz := s.heap.size)
  generalize hAe : va_A [(h0, .inr (12, [.int 0, .ref (q 0), .int 0, .int 0, .ref (q 1), .ref (q 2), .ref (q 3), .int 0, .int 0, .ref ks, .ref (q 4), .int 0, .int 0, .ref (q 5), .ref (q 6), .ref (q 7), .ref (q 8), .ref (q 9), .ref (q 10), .ref (q 11), .ref (q 12), .ref (q 13), .ref (q 14), .int 0, .ref (q 15), .ref (q 16), .ref (q 17), .ref (q 18), .ref (q 19), .ref (q 20), .ref (q 21), .int 0, .ref (q 22), .ref (q 23), .ref (q 24), .int 0, .ref (q 25), .ref (q 26), .ref (q 27), .ref (q 28), .ref (q 29), .ref (q 30), .ref (q 31), .ref (q 32), .ref (q 33), .ref (q 34), .ref (q 35), .ref (q 36), .ref (q 37), .ref (q 38), .ref (q 39), .int 0, .ref (q 40), .ref (q 41), .ref (q 42), .ref (q 43), .ref (q 44), .ref (q 45), .ref (q 46), .ref (q 47), .ref (q 48), .int 0, .int 0, .int 0, .int 0, .int 0, .int 0, .int 0, .int 0, .int 0, .int 1, .ref (q 49), .ref (q 50), .int 0, .int 0, .ref (q 51), .ref (q 52), .ref (q 53), .ref (q 54), .ref (q 55), .ref (q 56), .ref (q 57), .ref (q 58), .ref (q 59), .ref (q 60), .ref (q 61), .ref (q 62), .ref (q 63), .ref (q 64), .ref (q 65), .ref (q 66), .ref (q 67), .ref (q 68), .ref (q 69), .ref (q 70), .ref (q 71), .ref (q 72), .ref (q 73), .int 0, .int 0, .int 0, .int 0, .int 0, .ref (q 74), .ref (q 75), .int 0, .ref (q 76), .ref (q 77), .ref (q 78), .ref (q 79), .int 0, .ref (q 80), .ref (q 81), .ref (q 82), .ref (q 83), .ref (q 84), .ref (q 85), .ref (q 86), .ref (q 87), .int 0, .ref (q 88), .int 0, .int 0, .int 0, .int 0, .int 0, .int 0, .int 0])), (q 5, .inl (k_routines, 2, .inl (fun _ => 0))), (q 78, .inl (k_letters, 8, .inl (fun _ => 0)))] s.heap.size = A at hD ⊢
  have hA : ∀ q : Nat, s.heap.size ≤ q → A q := fun q h => by rw [← hAe]; exact Or.inr h
  have hS : va_S A s.heap s.heap [] := va_S.rf
  have hP : va_P (dC, dI) vwCl [(h0, .inr (12, [.int 0, .ref (q 0), .int 0, .int 0, .ref (q 1), .ref (q 2), .ref (q 3), .int 0, .int 0, .ref ks, .ref (q 4), .int 0, .int 0, .ref (q 5), .ref (q 6), .ref (q 7), .ref (q 8), .ref (q 9), .ref (q 10), .ref (q 11), .ref (q 12), .ref (q 13), .ref (q 14), .int 0, .ref (q 15), .ref (q 16), .ref (q 17), .ref (q 18), .ref (q 19), .ref (q 20), .ref (q 21), .int 0, .ref (q 22), .ref (q 23), .ref (q 24), .int 0, .ref (q 25), .ref (q 26), .ref (q 27), .ref (q 28), .ref (q 29), .ref (q 30), .ref (q 31), .ref (q 32), .ref (q 33), .ref (q 34), .ref (q 35), .ref (q 36), .ref (q 37), .ref (q 38), .ref (q 39), .int 0, .ref (q 40), .ref (q 41), .ref (q 42), .ref (q 43), .ref (q 44), .ref (q 45), .ref (q 46), .ref (q 47), .ref (q 48), .int 0, .int 0, .int 0, .int 0, .int 0, .int 0, .int 0, .int 0, .int 0, .int 1, .ref (q 49), .ref (q 50), .int 0, .int 0, .ref (q 51), .ref (q 52), .ref (q 53), .ref (q 54), .ref (q 55), .ref (q 56), .ref (q 57), .ref (q 58), .ref (q 59), .ref (q 60), .ref (q 61), .ref (q 62), .ref (q 63), .ref (q 64), .ref (q 65), .ref (q 66), .ref (q 67), .ref (q 68), .ref (q 69), .ref (q 70), .ref (q 71), .ref (q 72), .ref (q 73), .int 0, .int 0, .int 0, .int 0, .int 0, .ref (q 74), .ref (q 75), .int 0, .ref (q 76), .ref (q 77), .ref (q 78), .ref (q 79), .int 0, .ref (q 80), .ref (q 81), .ref (q 82), .ref (q 83), .ref (q 84), .ref (q 85), .ref (q 86), .ref (q 87), .int 0, .ref (q 88), .int 0, .int 0, .int 0, .int 0, .int 0, .int 0, .int 0])), (q 5, .inl (k_routines, 2, .inl (fun _ => 0))), (q 78, .inl (k_letters, 8, .inl (fun _ => 0)))] s.heap := hP
  have hl := lv_entry ([.ref h0, .int k]) (n := 6) (Nat.le_of_ble_eq_true rfl)
  rw [lg_entry_eq]
  generalize (lg_sl ([.ref h0, .int k]) ++ List.replicate (6 - (lg_sl ([.ref h0, .int k])).length) Slot.unset).toArray = ls at hl ⊢
  have hl : lv_has ls 6 [(0, .ref h0), (1, .int k)] := hl
  refine lv_aload_n hx hb dX12_count_0 rfl (lv_at hl 0 rfl) ?_
  refine lv_iconst (v := 0) hx hb dX12_count_1 (by decide) ?_
  refine va_put (D := (dC, dI)) (ci := 12) (v := .int 0) (ty := (tyX12 0)) (C := RX12) (T := TX12) (N := 128) hx hb hts in_X12 tyX12 tyX12_ok nmX12 hown hK hP hD hS 0 rfl rfl 0 (by decide) (hts _ wd_1404) (fun _ h9 => h9) rfl (tyX12_ok 0 (by decide)) rfl rfl (Nat.le_of_ble_eq_true rfl) dX12_count_2 (fun H locs hP hD hS => ?_)
  have hP : va_P (dC, dI) vwCl [(h0, .inr (12, [.int 0, .ref (q 0), .int 0, .int 0, .ref (q 1), .ref (q 2), .ref (q 3), .int 0, .int 0, .ref ks, .ref (q 4), .int 0, .int 0, .ref (q 5), .ref (q 6), .ref (q 7), .ref (q 8), .ref (q 9), .ref (q 10), .ref (q 11), .ref (q 12), .ref (q 13), .ref (q 14), .int 0, .ref (q 15), .ref (q 16), .ref (q 17), .ref (q 18), .ref (q 19), .ref (q 20), .ref (q 21), .int 0, .ref (q 22), .ref (q 23), .ref (q 24), .int 0, .ref (q 25), .ref (q 26), .ref (q 27), .ref (q 28), .ref (q 29), .ref (q 30), .ref (q 31), .ref (q 32), .ref (q 33), .ref (q 34), .ref (q 35), .ref (q 36), .ref (q 37), .ref (q 38), .ref (q 39), .int 0, .ref (q 40), .ref (q 41), .ref (q 42), .ref (q 43), .ref (q 44), .ref (q 45), .ref (q 46), .ref (q 47), .ref (q 48), .int 0, .int 0, .int 0, .int 0, .int 0, .int 0, .int 0, .int 0, .int 0, .int 1, .ref (q 49), .ref (q 50), .int 0, .int 0, .ref (q 51), .ref (q 52), .ref (q 53), .ref (q 54), .ref (q 55), .ref (q 56), .ref (q 57), .ref (q 58), .ref (q 59), .ref (q 60), .ref (q 61), .ref (q 62), .ref (q 63), .ref (q 64), .ref (q 65), .ref (q 66), .ref (q 67), .ref (q 68), .ref (q 69), .ref (q 70), .ref (q 71), .ref (q 72), .ref (q 73), .int 0, .int 0, .int 0, .int 0, .int 0, .ref (q 74), .ref (q 75), .int 0, .ref (q 76), .ref (q 77), .ref (q 78), .ref (q 79), .int 0, .ref (q 80), .ref (q 81), .ref (q 82), .ref (q 83), .ref (q 84), .ref (q 85), .ref (q 86), .ref (q 87), .int 0, .ref (q 88), .int 0, .int 0, .int 0, .int 0, .int 0, .int 0, .int 0])), (q 5, .inl (k_routines, 2, .inl (fun _ => 0))), (q 78, .inl (k_letters, 8, .inl (fun _ => 0)))] H := hP
  have hD : va_D A [(h0, .inr (12, [.int 0, .ref (q 0), .int 0, .int 0, .ref (q 1), .ref (q 2), .ref (q 3), .int 0, .int 0, .ref ks, .ref (q 4), .int 0, .int 0, .ref (q 5), .ref (q 6), .ref (q 7), .ref (q 8), .ref (q 9), .ref (q 10), .ref (q 11), .ref (q 12), .ref (q 13), .ref (q 14), .int 0, .ref (q 15), .ref (q 16), .ref (q 17), .ref (q 18), .ref (q 19), .ref (q 20), .ref (q 21), .int 0, .ref (q 22), .ref (q 23), .ref (q 24), .int 0, .ref (q 25), .ref (q 26), .ref (q 27), .ref (q 28), .ref (q 29), .ref (q 30), .ref (q 31), .ref (q 32), .ref (q 33), .ref (q 34), .ref (q 35), .ref (q 36), .ref (q 37), .ref (q 38), .ref (q 39), .int 0, .ref (q 40), .ref (q 41), .ref (q 42), .ref (q 43), .ref (q 44), .ref (q 45), .ref (q 46), .ref (q 47), .ref (q 48), .int 0, .int 0, .int 0, .int 0, .int 0, .int 0, .int 0, .int 0, .int 0, .int 1, .ref (q 49), .ref (q 50), .int 0, .int 0, .ref (q 51), .ref (q 52), .ref (q 53), .ref (q 54), .ref (q 55), .ref (q 56), .ref (q 57), .ref (q 58), .ref (q 59), .ref (q 60), .ref (q 61), .ref (q 62), .ref (q 63), .ref (q 64), .ref (q 65), .ref (q 66), .ref (q 67), .ref (q 68), .ref (q 69), .ref (q 70), .ref (q 71), .ref (q 72), .ref (q 73), .int 0, .int 0, .int 0, .int 0, .int 0, .ref (q 74), .ref (q 75), .int 0, .ref (q 76), .ref (q 77), .ref (q 78), .ref (q 79), .int 0, .ref (q 80), .ref (q 81), .ref (q 82), .ref (q 83), .ref (q 84), .ref (q 85), .ref (q 86), .ref (q 87), .int 0, .ref (q 88), .int 0, .int 0, .int 0, .int 0, .int 0, .int 0, .int 0])), (q 5, .inl (k_routines, 2, .inl (fun _ => 0))), (q 78, .inl (k_letters, 8, .inl (fun _ => 0)))] := hD
  refine lv_iconst (v := 0) hx hb dX12_count_5 (by decide) ?_
  refine lv_istore_n (lv' := [(2, .int 0), (0, .ref h0), (1, .int k)]) hx hb dX12_count_6 rfl hl (by decide) rfl (fun ls hl => ?_)
  refine lv_iconst (v := 0) hx hb dX12_count_7 (by decide) ?_
  refine lv_istore_n (lv' := [(3, .int 0), (2, .int 0), (0, .ref h0), (1, .int k)]) hx hb dX12_count_8 rfl hl (by decide) rfl (fun ls hl => ?_)
  refine lv_iconst (v := 0) hx hb dX12_count_9 (by decide) ?_
  refine lv_istore (lv' := [(4, .int 0), (3, .int 0), (2, .int 0), (0, .ref h0), (1, .int k)]) hx hb dX12_count_10 hl (by decide) rfl (fun ls hl => ?_)
  refine lv_iload hx hb dX12_count_12 (lv_at hl 0 rfl) ?_
  refine lv_aload_n hx hb dX12_count_14 rfl (lv_at hl 3 rfl) ?_
  refine va_get (D := (dC, dI)) (ci := 12) (v := .int 0) (C := RX12) (T := TX12) (N := 128) hx hb hts in_X12 hown hK hP 0 rfl rfl 74 (by decide) (hts _ wd_1478) (fun _ h9 => h9) rfl dX12_count_15 ?_
  refine lv_icmp_ge (tgt := 76) hx hb dX12_count_18 (by decide) (fun _ => ?_) (fun h => absurd (by decide) h)
  refine lv_iconst (v := 0) hx hb dX12_count_76 (by decide) ?_
  refine lv_istore (lv' := [(4, .int 0), (3, .int 0), (2, .int 0), (0, .ref h0), (1, .int k)]) hx hb dX12_count_77 hl (by decide) rfl (fun ls hl => ?_)
  refine lv_iconst (v := 0) hx hb dX12_count_79 (by decide) ?_
  refine lv_istore (lv' := [(5, .int 0), (4, .int 0), (3, .int 0), (2, .int 0), (0, .ref h0), (1, .int k)]) hx hb dX12_count_80 hl (by decide) rfl (fun ls hl => ?_)
  refine lv_iload hx hb dX12_count_82 (lv_at hl 0 rfl) ?_
  refine lv_bipush (v := 8) hx hb dX12_count_84 (by decide) ?_
  refine lv_icmp_ge (tgt := 107) hx hb dX12_count_86 (by decide) (fun h => absurd h (by decide)) (fun _ => ?_)
  refine lv_iload hx hb dX12_count_89 (lv_at hl 1 rfl) ?_
  refine lv_aload_n hx hb dX12_count_91 rfl (lv_at hl 4 rfl) ?_
  refine va_get (D := (dC, dI)) (ci := 12) (v := .ref (q 78)) (C := RX12) (T := TX12) (N := 128) hx hb hts in_X12 hown hK hP 0 rfl rfl 108 (by decide) (hts _ wd_1512) (fun _ h9 => h9) rfl dX12_count_92 ?_
  refine lv_iload hx hb dX12_count_95 (lv_at hl 0 rfl) ?_
  refine va_iald hx hb hK hP 2 1 rfl rfl (px_in 0 8 (by decide +kernel)) dX12_count_97 ?_
  refine lv_topi (fun z1 ez1 => ?_)
  obtain rfl : z1 = 0 := ez1.trans (by first | rfl | decide)
  refine lv_iadd hx hb dX12_count_98 ?_
  refine lv_topi (fun z2 ez2 => ?_)
  obtain rfl : z2 = 0 := ez2.trans (by decide)
  refine lv_istore (lv' := [(4, .int 0), (5, .int 0), (3, .int 0), (2, .int 0), (0, .ref h0), (1, .int k)]) hx hb dX12_count_99 hl (by decide) rfl (fun ls hl => ?_)
  refine lv_iinc (v := 1) (lv' := [(5, .int 1), (4, .int 0), (3, .int 0), (2, .int 0), (0, .ref h0), (1, .int k)]) hx hb dX12_count_101 hl (k := 1) rfl (by decide) (by decide) rfl (fun ls hl => ?_)
  refine lv_goto (tgt := 82) hx hb dX12_count_104 (by decide) ?_
  refine lv_iload hx hb dX12_count_82 (lv_at hl 0 rfl) ?_
  refine lv_bipush (v := 8) hx hb dX12_count_84 (by decide) ?_
  refine lv_icmp_ge (tgt := 107) hx hb dX12_count_86 (by decide) (fun h => absurd h (by decide)) (fun _ => ?_)
  refine lv_iload hx hb dX12_count_89 (lv_at hl 1 rfl) ?_
  refine lv_aload_n hx hb dX12_count_91 rfl (lv_at hl 4 rfl) ?_
  refine va_get (D := (dC, dI)) (ci := 12) (v := .ref (q 78)) (C := RX12) (T := TX12) (N := 128) hx hb hts in_X12 hown hK hP 0 rfl rfl 108 (by decide) (hts _ wd_1512) (fun _ h9 => h9) rfl dX12_count_92 ?_
  refine lv_iload hx hb dX12_count_95 (lv_at hl 0 rfl) ?_
  refine va_iald hx hb hK hP 2 1 rfl rfl (px_in 1 8 (by decide +kernel)) dX12_count_97 ?_
  refine lv_topi (fun z3 ez3 => ?_)
  obtain rfl : z3 = 0 := ez3.trans (by first | rfl | decide)
  refine lv_iadd hx hb dX12_count_98 ?_
  refine lv_topi (fun z4 ez4 => ?_)
  obtain rfl : z4 = 0 := ez4.trans (by decide)
  refine lv_istore (lv' := [(4, .int 0), (5, .int 1), (3, .int 0), (2, .int 0), (0, .ref h0), (1, .int k)]) hx hb dX12_count_99 hl (by decide) rfl (fun ls hl => ?_)
  refine lv_iinc (v := 2) (lv' := [(5, .int 2), (4, .int 0), (3, .int 0), (2, .int 0), (0, .ref h0), (1, .int k)]) hx hb dX12_count_101 hl (k := 1) rfl (by decide) (by decide) rfl (fun ls hl => ?_)
  refine lv_goto (tgt := 82) hx hb dX12_count_104 (by decide) ?_
  refine lv_iload hx hb dX12_count_82 (lv_at hl 0 rfl) ?_
  refine lv_bipush (v := 8) hx hb dX12_count_84 (by decide) ?_
  refine lv_icmp_ge (tgt := 107) hx hb dX12_count_86 (by decide) (fun h => absurd h (by decide)) (fun _ => ?_)
  refine lv_iload hx hb dX12_count_89 (lv_at hl 1 rfl) ?_
  refine lv_aload_n hx hb dX12_count_91 rfl (lv_at hl 4 rfl) ?_
  refine va_get (D := (dC, dI)) (ci := 12) (v := .ref (q 78)) (C := RX12) (T := TX12) (N := 128) hx hb hts in_X12 hown hK hP 0 rfl rfl 108 (by decide) (hts _ wd_1512) (fun _ h9 => h9) rfl dX12_count_92 ?_
  refine lv_iload hx hb dX12_count_95 (lv_at hl 0 rfl) ?_
  refine va_iald hx hb hK hP 2 1 rfl rfl (px_in 2 8 (by decide +kernel)) dX12_count_97 ?_
  refine lv_topi (fun z5 ez5 => ?_)
  obtain rfl : z5 = 0 := ez5.trans (by first | rfl | decide)
  refine lv_iadd hx hb dX12_count_98 ?_
  refine lv_topi (fun z6 ez6 => ?_)
  obtain rfl : z6 = 0 := ez6.trans (by decide)
  refine lv_istore (lv' := [(4, .int 0), (5, .int 2), (3, .int 0), (2, .int 0), (0, .ref h0), (1, .int k)]) hx hb dX12_count_99 hl (by decide) rfl (fun ls hl => ?_)
  refine lv_iinc (v := 3) (lv' := [(5, .int 3), (4, .int 0), (3, .int 0), (2, .int 0), (0, .ref h0), (1, .int k)]) hx hb dX12_count_101 hl (k := 1) rfl (by decide) (by decide) rfl (fun ls hl => ?_)
  refine lv_goto (tgt := 82) hx hb dX12_count_104 (by decide) ?_
  refine lv_iload hx hb dX12_count_82 (lv_at hl 0 rfl) ?_
  refine lv_bipush (v := 8) hx hb dX12_count_84 (by decide) ?_
  refine lv_icmp_ge (tgt := 107) hx hb dX12_count_86 (by decide) (fun h => absurd h (by decide)) (fun _ => ?_)
  refine lv_iload hx hb dX12_count_89 (lv_at hl 1 rfl) ?_
  refine lv_aload_n hx hb dX12_count_91 rfl (lv_at hl 4 rfl) ?_
  refine va_get (D := (dC, dI)) (ci := 12) (v := .ref (q 78)) (C := RX12) (T := TX12) (N := 128) hx hb hts in_X12 hown hK hP 0 rfl rfl 108 (by decide) (hts _ wd_1512) (fun _ h9 => h9) rfl dX12_count_92 ?_
  refine lv_iload hx hb dX12_count_95 (lv_at hl 0 rfl) ?_
  refine va_iald hx hb hK hP 2 1 rfl rfl (px_in 3 8 (by decide +kernel)) dX12_count_97 ?_
  refine lv_topi (fun z7 ez7 => ?_)
  obtain rfl : z7 = 0 := ez7.trans (by first | rfl | decide)
  refine lv_iadd hx hb dX12_count_98 ?_
  refine lv_topi (fun z8 ez8 => ?_)
  obtain rfl : z8 = 0 := ez8.trans (by decide)
  refine lv_istore (lv' := [(4, .int 0), (5, .int 3), (3, .int 0), (2, .int 0), (0, .ref h0), (1, .int k)]) hx hb dX12_count_99 hl (by decide) rfl (fun ls hl => ?_)
  refine lv_iinc (v := 4) (lv' := [(5, .int 4), (4, .int 0), (3, .int 0), (2, .int 0), (0, .ref h0), (1, .int k)]) hx hb dX12_count_101 hl (k := 1) rfl (by decide) (by decide) rfl (fun ls hl => ?_)
  refine lv_goto (tgt := 82) hx hb dX12_count_104 (by decide) ?_
  refine lv_iload hx hb dX12_count_82 (lv_at hl 0 rfl) ?_
  refine lv_bipush (v := 8) hx hb dX12_count_84 (by decide) ?_
  refine lv_icmp_ge (tgt := 107) hx hb dX12_count_86 (by decide) (fun h => absurd h (by decide)) (fun _ => ?_)
  refine lv_iload hx hb dX12_count_89 (lv_at hl 1 rfl) ?_
  refine lv_aload_n hx hb dX12_count_91 rfl (lv_at hl 4 rfl) ?_
  refine va_get (D := (dC, dI)) (ci := 12) (v := .ref (q 78)) (C := RX12) (T := TX12) (N := 128) hx hb hts in_X12 hown hK hP 0 rfl rfl 108 (by decide) (hts _ wd_1512) (fun _ h9 => h9) rfl dX12_count_92 ?_
  refine lv_iload hx hb dX12_count_95 (lv_at hl 0 rfl) ?_
  refine va_iald hx hb hK hP 2 1 rfl rfl (px_in 4 8 (by decide +kernel)) dX12_count_97 ?_
  refine lv_topi (fun z9 ez9 => ?_)
  obtain rfl : z9 = 0 := ez9.trans (by first | rfl | decide)
  refine lv_iadd hx hb dX12_count_98 ?_
  refine lv_topi (fun z10 ez10 => ?_)
  obtain rfl : z10 = 0 := ez10.trans (by decide)
  refine lv_istore (lv' := [(4, .int 0), (5, .int 4), (3, .int 0), (2, .int 0), (0, .ref h0), (1, .int k)]) hx hb dX12_count_99 hl (by decide) rfl (fun ls hl => ?_)
  refine lv_iinc (v := 5) (lv' := [(5, .int 5), (4, .int 0), (3, .int 0), (2, .int 0), (0, .ref h0), (1, .int k)]) hx hb dX12_count_101 hl (k := 1) rfl (by decide) (by decide) rfl (fun ls hl => ?_)
  refine lv_goto (tgt := 82) hx hb dX12_count_104 (by decide) ?_
  refine lv_iload hx hb dX12_count_82 (lv_at hl 0 rfl) ?_
  refine lv_bipush (v := 8) hx hb dX12_count_84 (by decide) ?_
  refine lv_icmp_ge (tgt := 107) hx hb dX12_count_86 (by decide) (fun h => absurd h (by decide)) (fun _ => ?_)
  refine lv_iload hx hb dX12_count_89 (lv_at hl 1 rfl) ?_
  refine lv_aload_n hx hb dX12_count_91 rfl (lv_at hl 4 rfl) ?_
  refine va_get (D := (dC, dI)) (ci := 12) (v := .ref (q 78)) (C := RX12) (T := TX12) (N := 128) hx hb hts in_X12 hown hK hP 0 rfl rfl 108 (by decide) (hts _ wd_1512) (fun _ h9 => h9) rfl dX12_count_92 ?_
  refine lv_iload hx hb dX12_count_95 (lv_at hl 0 rfl) ?_
  refine va_iald hx hb hK hP 2 1 rfl rfl (px_in 5 8 (by decide +kernel)) dX12_count_97 ?_
  refine lv_topi (fun z11 ez11 => ?_)
  obtain rfl : z11 = 0 := ez11.trans (by first | rfl | decide)
  refine lv_iadd hx hb dX12_count_98 ?_
  refine lv_topi (fun z12 ez12 => ?_)
  obtain rfl : z12 = 0 := ez12.trans (by decide)
  refine lv_istore (lv' := [(4, .int 0), (5, .int 5), (3, .int 0), (2, .int 0), (0, .ref h0), (1, .int k)]) hx hb dX12_count_99 hl (by decide) rfl (fun ls hl => ?_)
  refine lv_iinc (v := 6) (lv' := [(5, .int 6), (4, .int 0), (3, .int 0), (2, .int 0), (0, .ref h0), (1, .int k)]) hx hb dX12_count_101 hl (k := 1) rfl (by decide) (by decide) rfl (fun ls hl => ?_)
  refine lv_goto (tgt := 82) hx hb dX12_count_104 (by decide) ?_
  refine lv_iload hx hb dX12_count_82 (lv_at hl 0 rfl) ?_
  refine lv_bipush (v := 8) hx hb dX12_count_84 (by decide) ?_
  refine lv_icmp_ge (tgt := 107) hx hb dX12_count_86 (by decide) (fun h => absurd h (by decide)) (fun _ => ?_)
  refine lv_iload hx hb dX12_count_89 (lv_at hl 1 rfl) ?_
  refine lv_aload_n hx hb dX12_count_91 rfl (lv_at hl 4 rfl) ?_
  refine va_get (D := (dC, dI)) (ci := 12) (v := .ref (q 78)) (C := RX12) (T := TX12) (N := 128) hx hb hts in_X12 hown hK hP 0 rfl rfl 108 (by decide) (hts _ wd_1512) (fun _ h9 => h9) rfl dX12_count_92 ?_
  refine lv_iload hx hb dX12_count_95 (lv_at hl 0 rfl) ?_
  refine va_iald hx hb hK hP 2 1 rfl rfl (px_in 6 8 (by decide +kernel)) dX12_count_97 ?_
  refine lv_topi (fun z13 ez13 => ?_)
  obtain rfl : z13 = 0 := ez13.trans (by first | rfl | decide)
  refine lv_iadd hx hb dX12_count_98 ?_
  refine lv_topi (fun z14 ez14 => ?_)
  obtain rfl : z14 = 0 := ez14.trans (by decide)
  refine lv_istore (lv' := [(4, .int 0), (5, .int 6), (3, .int 0), (2, .int 0), (0, .ref h0), (1, .int k)]) hx hb dX12_count_99 hl (by decide) rfl (fun ls hl => ?_)
  refine lv_iinc (v := 7) (lv' := [(5, .int 7), (4, .int 0), (3, .int 0), (2, .int 0), (0, .ref h0), (1, .int k)]) hx hb dX12_count_101 hl (k := 1) rfl (by decide) (by decide) rfl (fun ls hl => ?_)
  refine lv_goto (tgt := 82) hx hb dX12_count_104 (by decide) ?_
  refine lv_iload hx hb dX12_count_82 (lv_at hl 0 rfl) ?_
  refine lv_bipush (v := 8) hx hb dX12_count_84 (by decide) ?_
  refine lv_icmp_ge (tgt := 107) hx hb dX12_count_86 (by decide) (fun h => absurd h (by decide)) (fun _ => ?_)
  refine lv_iload hx hb dX12_count_89 (lv_at hl 1 rfl) ?_
  refine lv_aload_n hx hb dX12_count_91 rfl (lv_at hl 4 rfl) ?_
  refine va_get (D := (dC, dI)) (ci := 12) (v := .ref (q 78)) (C := RX12) (T := TX12) (N := 128) hx hb hts in_X12 hown hK hP 0 rfl rfl 108 (by decide) (hts _ wd_1512) (fun _ h9 => h9) rfl dX12_count_92 ?_
  refine lv_iload hx hb dX12_count_95 (lv_at hl 0 rfl) ?_
  refine va_iald hx hb hK hP 2 1 rfl rfl (px_in 7 8 (by decide +kernel)) dX12_count_97 ?_
  refine lv_topi (fun z15 ez15 => ?_)
  obtain rfl : z15 = 0 := ez15.trans (by first | rfl | decide)
  refine lv_iadd hx hb dX12_count_98 ?_
  refine lv_topi (fun z16 ez16 => ?_)
  obtain rfl : z16 = 0 := ez16.trans (by decide)
  refine lv_istore (lv' := [(4, .int 0), (5, .int 7), (3, .int 0), (2, .int 0), (0, .ref h0), (1, .int k)]) hx hb dX12_count_99 hl (by decide) rfl (fun ls hl => ?_)
  refine lv_iinc (v := 8) (lv' := [(5, .int 8), (4, .int 0), (3, .int 0), (2, .int 0), (0, .ref h0), (1, .int k)]) hx hb dX12_count_101 hl (k := 1) rfl (by decide) (by decide) rfl (fun ls hl => ?_)
  refine lv_goto (tgt := 82) hx hb dX12_count_104 (by decide) ?_
  refine lv_iload hx hb dX12_count_82 (lv_at hl 0 rfl) ?_
  refine lv_bipush (v := 8) hx hb dX12_count_84 (by decide) ?_
  refine lv_icmp_ge (tgt := 107) hx hb dX12_count_86 (by decide) (fun _ => ?_) (fun h => absurd (by decide) h)
  refine lv_iload_n hx hb dX12_count_107 rfl (lv_at hl 5 rfl) ?_
  rcases Decidable.em (k = 0) with c17 | c17
  · obtain rfl := c17
    refine lv_tableIn (tgt := 172) hx hb dX12_count_108 (by decide) (by decide) rfl (by decide) ?_
    refine lv_aload_n hx hb dX12_count_172 rfl (lv_at hl 4 rfl) ?_
    refine va_get (D := (dC, dI)) (ci := 12) (v := .ref (q 5)) (C := RX12) (T := TX12) (N := 128) hx hb hts in_X12 hown hK hP 0 rfl rfl 13 (by decide) (hts _ wd_1417) (fun _ h9 => h9) rfl dX12_count_173 ?_
    refine lv_aload_n hx hb dX12_count_176 rfl (lv_at hl 4 rfl) ?_
    refine va_get (D := (dC, dI)) (ci := 12) (v := .int 0) (C := RX12) (T := TX12) (N := 128) hx hb hts in_X12 hown hK hP 0 rfl rfl 11 (by decide) (hts _ wd_1415) (fun _ h9 => h9) rfl dX12_count_177 ?_
    refine va_iald hx hb hK hP 1 0 rfl rfl (px_in 0 2 (by decide +kernel)) dX12_count_180 ?_
    refine lv_topi (fun z18 ez18 => ?_)
    obtain rfl : z18 = 0 := ez18.trans (by first | rfl | decide)
    have hP9 := hP.sub (ws' := []) [] rfl
    have hD9 := hD.sub (ws' := []) [] (by decide) rfl
    have hK9 := hK.sub (tys' := []) [] rfl
    refine W.widen (k := 0) (n := 0) (Nat.le_of_ble_eq_true rfl) (Nat.le_of_ble_eq_true rfl) ?_
    exact W.iret (v := 0) hx hb hr (fun t ht hW => ⟨⟨0, (), rfl, (by first | rfl | decide), by rw [ht]; exact hP9, va_K.moved hW.alike hK9, hD9⟩, hS.F ht⟩) hS.2.2 dX12_count_181
  rcases Decidable.em (k = 1) with c19 | c19
  · obtain rfl := c19
    refine lv_tableIn (tgt := 182) hx hb dX12_count_108 (by decide) (by decide) rfl (by decide) ?_
    refine lv_aload_n hx hb dX12_count_182 rfl (lv_at hl 4 rfl) ?_
    refine va_get (D := (dC, dI)) (ci := 12) (v := .int 0) (C := RX12) (T := TX12) (N := 128) hx hb hts in_X12 hown hK hP 0 rfl rfl 74 (by decide) (hts _ wd_1478) (fun _ h9 => h9) rfl dX12_count_183 ?_
    have hP9 := hP.sub (ws' := []) [] rfl
    have hD9 := hD.sub (ws' := []) [] (by decide) rfl
    have hK9 := hK.sub (tys' := []) [] rfl
    refine W.widen (k := 0) (n := 0) (Nat.le_of_ble_eq_true rfl) (Nat.le_of_ble_eq_true rfl) ?_
    exact W.iret (v := 0) hx hb hr (fun t ht hW => ⟨⟨0, (), rfl, (by first | rfl | decide), by rw [ht]; exact hP9, va_K.moved hW.alike hK9, hD9⟩, hS.F ht⟩) hS.2.2 dX12_count_186
  rcases Decidable.em (k = 2) with c20 | c20
  · obtain rfl := c20
    refine lv_tableIn (tgt := 187) hx hb dX12_count_108 (by decide) (by decide) rfl (by decide) ?_
    refine lv_iload_n hx hb dX12_count_187 rfl (lv_at hl 3 rfl) ?_
    have hP9 := hP.sub (ws' := []) [] rfl
    have hD9 := hD.sub (ws' := []) [] (by decide) rfl
    have hK9 := hK.sub (tys' := []) [] rfl
    refine W.widen (k := 0) (n := 0) (Nat.le_of_ble_eq_true rfl) (Nat.le_of_ble_eq_true rfl) ?_
    exact W.iret (v := 0) hx hb hr (fun t ht hW => ⟨⟨0, (), rfl, (by first | rfl | decide), by rw [ht]; exact hP9, va_K.moved hW.alike hK9, hD9⟩, hS.F ht⟩) hS.2.2 dX12_count_188
  rcases Decidable.em (k = 3) with c21 | c21
  · obtain rfl := c21
    refine lv_tableIn (tgt := 189) hx hb dX12_count_108 (by decide) (by decide) rfl (by decide) ?_
    refine lv_aload_n hx hb dX12_count_189 rfl (lv_at hl 4 rfl) ?_
    refine va_get (D := (dC, dI)) (ci := 12) (v := .int 0) (C := RX12) (T := TX12) (N := 128) hx hb hts in_X12 hown hK hP 0 rfl rfl 98 (by decide) (hts _ wd_1502) (fun _ h9 => h9) rfl dX12_count_190 ?_
    have hP9 := hP.sub (ws' := []) [] rfl
    have hD9 := hD.sub (ws' := []) [] (by decide) rfl
    have hK9 := hK.sub (tys' := []) [] rfl
    refine W.widen (k := 0) (n := 0) (Nat.le_of_ble_eq_true rfl) (Nat.le_of_ble_eq_true rfl) ?_
    exact W.iret (v := 0) hx hb hr (fun t ht hW => ⟨⟨0, (), rfl, (by first | rfl | decide), by rw [ht]; exact hP9, va_K.moved hW.alike hK9, hD9⟩, hS.F ht⟩) hS.2.2 dX12_count_193
  rcases Decidable.em (k = 4) with c22 | c22
  · obtain rfl := c22
    refine lv_tableIn (tgt := 194) hx hb dX12_count_108 (by decide) (by decide) rfl (by decide) ?_
    refine lv_iload_n hx hb dX12_count_194 rfl (lv_at hl 2 rfl) ?_
    have hP9 := hP.sub (ws' := []) [] rfl
    have hD9 := hD.sub (ws' := []) [] (by decide) rfl
    have hK9 := hK.sub (tys' := []) [] rfl
    refine W.widen (k := 0) (n := 0) (Nat.le_of_ble_eq_true rfl) (Nat.le_of_ble_eq_true rfl) ?_
    exact W.iret (v := 0) hx hb hr (fun t ht hW => ⟨⟨0, (), rfl, (by first | rfl | decide), by rw [ht]; exact hP9, va_K.moved hW.alike hK9, hD9⟩, hS.F ht⟩) hS.2.2 dX12_count_195
  rcases Decidable.em (k = 5) with c23 | c23
  · obtain rfl := c23
    refine lv_tableIn (tgt := 196) hx hb dX12_count_108 (by decide) (by decide) rfl (by decide) ?_
    refine lv_aload_n hx hb dX12_count_196 rfl (lv_at hl 4 rfl) ?_
    refine va_get (D := (dC, dI)) (ci := 12) (v := .int 0) (C := RX12) (T := TX12) (N := 128) hx hb hts in_X12 hown hK hP 0 rfl rfl 102 (by decide) (hts _ wd_1506) (fun _ h9 => h9) rfl dX12_count_197 ?_
    have hP9 := hP.sub (ws' := []) [] rfl
    have hD9 := hD.sub (ws' := []) [] (by decide) rfl
    have hK9 := hK.sub (tys' := []) [] rfl
    refine W.widen (k := 0) (n := 0) (Nat.le_of_ble_eq_true rfl) (Nat.le_of_ble_eq_true rfl) ?_
    exact W.iret (v := 0) hx hb hr (fun t ht hW => ⟨⟨0, (), rfl, (by first | rfl | decide), by rw [ht]; exact hP9, va_K.moved hW.alike hK9, hD9⟩, hS.F ht⟩) hS.2.2 dX12_count_200
  rcases Decidable.em (k = 6) with c24 | c24
  · obtain rfl := c24
    refine lv_tableIn (tgt := 201) hx hb dX12_count_108 (by decide) (by decide) rfl (by decide) ?_
    refine lv_aload_n hx hb dX12_count_201 rfl (lv_at hl 4 rfl) ?_
    refine va_get (D := (dC, dI)) (ci := 12) (v := .int 0) (C := RX12) (T := TX12) (N := 128) hx hb hts in_X12 hown hK hP 0 rfl rfl 105 (by decide) (hts _ wd_1509) (fun _ h9 => h9) rfl dX12_count_202 ?_
    have hP9 := hP.sub (ws' := []) [] rfl
    have hD9 := hD.sub (ws' := []) [] (by decide) rfl
    have hK9 := hK.sub (tys' := []) [] rfl
    refine W.widen (k := 0) (n := 0) (Nat.le_of_ble_eq_true rfl) (Nat.le_of_ble_eq_true rfl) ?_
    exact W.iret (v := 0) hx hb hr (fun t ht hW => ⟨⟨0, (), rfl, (by first | rfl | decide), by rw [ht]; exact hP9, va_K.moved hW.alike hK9, hD9⟩, hS.F ht⟩) hS.2.2 dX12_count_205
  rcases Decidable.em (k = 7) with c25 | c25
  · obtain rfl := c25
    refine lv_tableIn (tgt := 206) hx hb dX12_count_108 (by decide) (by decide) rfl (by decide) ?_
    refine lv_aload_n hx hb dX12_count_206 rfl (lv_at hl 4 rfl) ?_
    refine va_get (D := (dC, dI)) (ci := 12) (v := .int 0) (C := RX12) (T := TX12) (N := 128) hx hb hts in_X12 hown hK hP 0 rfl rfl 99 (by decide) (hts _ wd_1503) (fun _ h9 => h9) rfl dX12_count_207 ?_
    have hP9 := hP.sub (ws' := []) [] rfl
    have hD9 := hD.sub (ws' := []) [] (by decide) rfl
    have hK9 := hK.sub (tys' := []) [] rfl
    refine W.widen (k := 0) (n := 0) (Nat.le_of_ble_eq_true rfl) (Nat.le_of_ble_eq_true rfl) ?_
    exact W.iret (v := 0) hx hb hr (fun t ht hW => ⟨⟨0, (), rfl, (by first | rfl | decide), by rw [ht]; exact hP9, va_K.moved hW.alike hK9, hD9⟩, hS.F ht⟩) hS.2.2 dX12_count_210
  rcases Decidable.em (k = 8) with c26 | c26
  · obtain rfl := c26
    refine lv_tableIn (tgt := 211) hx hb dX12_count_108 (by decide) (by decide) rfl (by decide) ?_
    refine lv_aload_n hx hb dX12_count_211 rfl (lv_at hl 4 rfl) ?_
    refine va_get (D := (dC, dI)) (ci := 12) (v := .int 0) (C := RX12) (T := TX12) (N := 128) hx hb hts in_X12 hown hK hP 0 rfl rfl 100 (by decide) (hts _ wd_1504) (fun _ h9 => h9) rfl dX12_count_212 ?_
    have hP9 := hP.sub (ws' := []) [] rfl
    have hD9 := hD.sub (ws' := []) [] (by decide) rfl
    have hK9 := hK.sub (tys' := []) [] rfl
    refine W.widen (k := 0) (n := 0) (Nat.le_of_ble_eq_true rfl) (Nat.le_of_ble_eq_true rfl) ?_
    exact W.iret (v := 0) hx hb hr (fun t ht hW => ⟨⟨0, (), rfl, (by first | rfl | decide), by rw [ht]; exact hP9, va_K.moved hW.alike hK9, hD9⟩, hS.F ht⟩) hS.2.2 dX12_count_215
  rcases Decidable.em (k = 9) with c27 | c27
  · obtain rfl := c27
    refine lv_tableIn (tgt := 216) hx hb dX12_count_108 (by decide) (by decide) rfl (by decide) ?_
    refine lv_aload_n hx hb dX12_count_216 rfl (lv_at hl 4 rfl) ?_
    refine va_get (D := (dC, dI)) (ci := 12) (v := .int 0) (C := RX12) (T := TX12) (N := 128) hx hb hts in_X12 hown hK hP 0 rfl rfl 101 (by decide) (hts _ wd_1505) (fun _ h9 => h9) rfl dX12_count_217 ?_
    have hP9 := hP.sub (ws' := []) [] rfl
    have hD9 := hD.sub (ws' := []) [] (by decide) rfl
    have hK9 := hK.sub (tys' := []) [] rfl
    refine W.widen (k := 0) (n := 0) (Nat.le_of_ble_eq_true rfl) (Nat.le_of_ble_eq_true rfl) ?_
    exact W.iret (v := 0) hx hb hr (fun t ht hW => ⟨⟨0, (), rfl, (by first | rfl | decide), by rw [ht]; exact hP9, va_K.moved hW.alike hK9, hD9⟩, hS.F ht⟩) hS.2.2 dX12_count_220
  rcases Decidable.em (k = 10) with c28 | c28
  · obtain rfl := c28
    refine lv_tableIn (tgt := 221) hx hb dX12_count_108 (by decide) (by decide) rfl (by decide) ?_
    refine lv_iload hx hb dX12_count_221 (lv_at hl 1 rfl) ?_
    have hP9 := hP.sub (ws' := []) [] rfl
    have hD9 := hD.sub (ws' := []) [] (by decide) rfl
    have hK9 := hK.sub (tys' := []) [] rfl
    refine W.widen (k := 0) (n := 0) (Nat.le_of_ble_eq_true rfl) (Nat.le_of_ble_eq_true rfl) ?_
    exact W.iret (v := 0) hx hb hr (fun t ht hW => ⟨⟨0, (), rfl, (by first | rfl | decide), by rw [ht]; exact hP9, va_K.moved hW.alike hK9, hD9⟩, hS.F ht⟩) hS.2.2 dX12_count_223
  rcases Decidable.em (k = 11) with c29 | c29
  · obtain rfl := c29
    refine lv_tableIn (tgt := 224) hx hb dX12_count_108 (by decide) (by decide) rfl (by decide) ?_
    refine lv_aload_n hx hb dX12_count_224 rfl (lv_at hl 4 rfl) ?_
    refine va_get (D := (dC, dI)) (ci := 12) (v := .int 0) (C := RX12) (T := TX12) (N := 128) hx hb hts in_X12 hown hK hP 0 rfl rfl 2 (by decide) (hts _ wd_1406) (fun _ h9 => h9) rfl dX12_count_225 ?_
    have hP9 := hP.sub (ws' := []) [] rfl
    have hD9 := hD.sub (ws' := []) [] (by decide) rfl
    have hK9 := hK.sub (tys' := []) [] rfl
    refine W.widen (k := 0) (n := 0) (Nat.le_of_ble_eq_true rfl) (Nat.le_of_ble_eq_true rfl) ?_
    exact W.iret (v := 0) hx hb hr (fun t ht hW => ⟨⟨0, (), rfl, (by first | rfl | decide), by rw [ht]; exact hP9, va_K.moved hW.alike hK9, hD9⟩, hS.F ht⟩) hS.2.2 dX12_count_228
  refine lv_tableOut (tgt := 229) hx hb dX12_count_108 (by have nc17 := lv_neT c17 (show (0 : Int32).toInt = 0 by decide); have nc19 := lv_neT c19 (show (1 : Int32).toInt = 1 by decide); have nc20 := lv_neT c20 (show (2 : Int32).toInt = 2 by decide); have nc21 := lv_neT c21 (show (3 : Int32).toInt = 3 by decide); have nc22 := lv_neT c22 (show (4 : Int32).toInt = 4 by decide); have nc23 := lv_neT c23 (show (5 : Int32).toInt = 5 by decide); have nc24 := lv_neT c24 (show (6 : Int32).toInt = 6 by decide); have nc25 := lv_neT c25 (show (7 : Int32).toInt = 7 by decide); have nc26 := lv_neT c26 (show (8 : Int32).toInt = 8 by decide); have nc27 := lv_neT c27 (show (9 : Int32).toInt = 9 by decide); have nc28 := lv_neT c28 (show (10 : Int32).toInt = 10 by decide); have nc29 := lv_neT c29 (show (11 : Int32).toInt = 11 by decide); omega) (by decide) ?_
  refine lv_iconst (v := -1) hx hb dX12_count_229 (by decide) ?_
  have hP9 := hP.sub (ws' := []) [] rfl
  have hD9 := hD.sub (ws' := []) [] (by decide) rfl
  have hK9 := hK.sub (tys' := []) [] rfl
  refine W.widen (k := 0) (n := 0) (Nat.le_of_ble_eq_true rfl) (Nat.le_of_ble_eq_true rfl) ?_
  exact W.iret (v := -1) hx hb hr (fun t ht hW => ⟨⟨-1, (), rfl, (if_neg (fun h => by rcases h with h | h | h | h | h | h | h | h | h | h | h | h <;> exact absurd h (by assumption))).symm, by rw [ht]; exact hP9, va_K.moved hW.alike hK9, hD9⟩, hS.F ht⟩) hS.2.2 dX12_count_230
