theorem wd_512 : (Jvm.Cond.methodLink "Sleepers" (70 : Nat) ({ cls := "Sleepers$Tokens", name := "read", desc := "()V" } : Jvm.MethodName)) ∈ tb := tb_at 512 (by decide +kernel) (by decide +kernel)
theorem wd_513 : (Jvm.Cond.instanceMethod ({ cls := "Sleepers$Tokens", name := "read", desc := "()V" } : Jvm.MethodName)) ∈ tb := tb_at 513 (by decide +kernel) (by decide +kernel)
theorem wd_514 : (Jvm.Cond.selects "Sleepers$Tokens" ({ cls := "Sleepers$Tokens", name := "read", desc := "()V" } : Jvm.MethodName) ({ cls := "Sleepers$Tokens", name := "read", desc := "()V" } : Jvm.MethodName)) ∈ tb := tb_at 514 (by decide +kernel) (by decide +kernel)
theorem wd_515 : (Jvm.Cond.code ({ cls := "Sleepers$Tokens", name := "read", desc := "()V" } : Jvm.MethodName) prog_12_method_3_code (4 : Nat) (Option.none : Option Jvm.ClassFile.FieldType)) ∈ tb := tb_at 515 (by decide +kernel) (by decide +kernel)
theorem wd_519 : (Jvm.Cond.methodLink "Sleepers$Tokens" (56 : Nat) ({ cls := "Sleepers$Tokens", name := "readWord", desc := "(I)I" } : Jvm.MethodName)) ∈ tb := tb_at 519 (by decide +kernel) (by decide +kernel)
theorem wd_521 : (Jvm.Cond.instanceMethod ({ cls := "Sleepers$Tokens", name := "readWord", desc := "(I)I" } : Jvm.MethodName)) ∈ tb := tb_at 521 (by decide +kernel) (by decide +kernel)
theorem wd_522 : (Jvm.Cond.code ({ cls := "Sleepers$Tokens", name := "readWord", desc := "(I)I" } : Jvm.MethodName) prog_12_method_5_code (5 : Nat) (Option.some Jvm.ClassFile.FieldType.int)) ∈ tb := tb_at 522 (by decide +kernel) (by decide +kernel)
theorem wd_531 : (Jvm.Cond.methodLink "Sleepers$Tokens" (63 : Nat) ({ cls := "Sleepers$Tokens", name := "readNumber", desc := "(I)I" } : Jvm.MethodName)) ∈ tb := tb_at 531 (by decide +kernel) (by decide +kernel)
theorem wd_533 : (Jvm.Cond.instanceMethod ({ cls := "Sleepers$Tokens", name := "readNumber", desc := "(I)I" } : Jvm.MethodName)) ∈ tb := tb_at 533 (by decide +kernel) (by decide +kernel)
theorem wd_534 : (Jvm.Cond.code ({ cls := "Sleepers$Tokens", name := "readNumber", desc := "(I)I" } : Jvm.MethodName) prog_12_method_6_code (5 : Nat) (Option.some Jvm.ClassFile.FieldType.int)) ∈ tb := tb_at 534 (by decide +kernel) (by decide +kernel)
theorem wd_537 : (Jvm.Cond.methodLink "Sleepers$Tokens" (68 : Nat) ({ cls := "java/lang/String", name := "indexOf", desc := "(I)I" } : Jvm.MethodName)) ∈ tb := tb_at 537 (by decide +kernel) (by decide +kernel)
theorem wd_538 : (Jvm.Cond.instanceMethod ({ cls := "java/lang/String", name := "indexOf", desc := "(I)I" } : Jvm.MethodName)) ∈ tb := tb_at 538 (by decide +kernel) (by decide +kernel)
theorem wd_539 : (Jvm.Cond.selects "java/lang/String" ({ cls := "java/lang/String", name := "indexOf", desc := "(I)I" } : Jvm.MethodName) ({ cls := "java/lang/String", name := "indexOf", desc := "(I)I" } : Jvm.MethodName)) ∈ tb := tb_at 539 (by decide +kernel) (by decide +kernel)
theorem wd_540 : (Jvm.Cond.code ({ cls := "java/lang/String", name := "indexOf", desc := "(I)I" } : Jvm.MethodName) prog_19_method_79_code (2 : Nat) (Option.some Jvm.ClassFile.FieldType.int)) ∈ tb := tb_at 540 (by decide +kernel) (by decide +kernel)
theorem wd_596 : (Jvm.Cond.methodLink "Sleepers" (73 : Nat) ({ cls := "Sleepers$Parser", name := "read", desc := "(LSleepers$Program;)I" } : Jvm.MethodName)) ∈ tb := tb_at 596 (by decide +kernel) (by decide +kernel)
theorem wd_597 : (Jvm.Cond.instanceMethod ({ cls := "Sleepers$Parser", name := "read", desc := "(LSleepers$Program;)I" } : Jvm.MethodName)) ∈ tb := tb_at 597 (by decide +kernel) (by decide +kernel)
theorem wd_598 : (Jvm.Cond.selects "Sleepers$Parser" ({ cls := "Sleepers$Parser", name := "read", desc := "(LSleepers$Program;)I" } : Jvm.MethodName) ({ cls := "Sleepers$Parser", name := "read", desc := "(LSleepers$Program;)I" } : Jvm.MethodName)) ∈ tb := tb_at 598 (by decide +kernel) (by decide +kernel)
theorem wd_599 : (Jvm.Cond.code ({ cls := "Sleepers$Parser", name := "read", desc := "(LSleepers$Program;)I" } : Jvm.MethodName) prog_5_method_2_code (3 : Nat) (Option.some Jvm.ClassFile.FieldType.int)) ∈ tb := tb_at 599 (by decide +kernel) (by decide +kernel)
theorem wd_775 : (Jvm.Cond.methodLink "Sleepers" (80 : Nat) ({ cls := "Sleepers$Book", name := "clear", desc := "()V" } : Jvm.MethodName)) ∈ tb := tb_at 775 (by decide +kernel) (by decide +kernel)
theorem wd_780 : (Jvm.Cond.methodLink "Sleepers" (85 : Nat) ({ cls := "Sleepers$Tokens", name := "onlyWord", desc := "()J" } : Jvm.MethodName)) ∈ tb := tb_at 780 (by decide +kernel) (by decide +kernel)
theorem wd_781 : (Jvm.Cond.instanceMethod ({ cls := "Sleepers$Tokens", name := "onlyWord", desc := "()J" } : Jvm.MethodName)) ∈ tb := tb_at 781 (by decide +kernel) (by decide +kernel)
theorem wd_782 : (Jvm.Cond.selects "Sleepers$Tokens" ({ cls := "Sleepers$Tokens", name := "onlyWord", desc := "()J" } : Jvm.MethodName) ({ cls := "Sleepers$Tokens", name := "onlyWord", desc := "()J" } : Jvm.MethodName)) ∈ tb := tb_at 782 (by decide +kernel) (by decide +kernel)
theorem wd_783 : (Jvm.Cond.code ({ cls := "Sleepers$Tokens", name := "onlyWord", desc := "()J" } : Jvm.MethodName) prog_12_method_4_code (1 : Nat) (Option.some Jvm.ClassFile.FieldType.long)) ∈ tb := tb_at 783 (by decide +kernel) (by decide +kernel)
theorem wd_784 : (Jvm.Cond.methodLink "Sleepers" (89 : Nat) ({ cls := "Sleepers$Program", name := "routineNamed", desc := "(J)I" } : Jvm.MethodName)) ∈ tb := tb_at 784 (by decide +kernel) (by decide +kernel)
theorem wd_785 : (Jvm.Cond.methodLink "Sleepers" (93 : Nat) ({ cls := "Sleepers$Program", name := "cellNamed", desc := "(IJ)I" } : Jvm.MethodName)) ∈ tb := tb_at 785 (by decide +kernel) (by decide +kernel)
theorem sl_X10_readNumber : Cond.selects RX10 yX10_readNumber yX10_readNumber ∈ tb := sl_of (y := ⟨"Sleepers$Tokens", "readNumber", "(I)I"⟩) (n := 7) (by decide +kernel) (by decide +kernel)
theorem sl_X10_readWord : Cond.selects RX10 yX10_readWord yX10_readWord ∈ tb := sl_of (y := ⟨"Sleepers$Tokens", "readWord", "(I)I"⟩) (n := 7) (by decide +kernel) (by decide +kernel)
theorem dX10_read_0 : decode cX10_read 0 = .ok (.aload_n 0, 1) := by decide +kernel
theorem dX10_read_1 : decode cX10_read 1 = .ok (.iconst 0, 1) := by decide +kernel
theorem dX10_read_2 : decode cX10_read 2 = .ok (.putfield 49, 3) := by decide +kernel
theorem dX10_read_5 : decode cX10_read 5 = .ok (.iconst 0, 1) := by decide +kernel
theorem dX10_read_6 : decode cX10_read 6 = .ok (.istore_n 1, 1) := by decide +kernel
theorem dX10_read_7 : decode cX10_read 7 = .ok (.iconst 0, 1) := by decide +kernel
theorem dX10_read_8 : decode cX10_read 8 = .ok (.istore_n 2, 1) := by decide +kernel
theorem dX10_read_9 : decode cX10_read 9 = .ok (.iload_n 2, 1) := by decide +kernel
theorem dX10_read_10 : decode cX10_read 10 = .ok (.sipush 4000, 3) := by decide +kernel
theorem dX10_read_13 : decode cX10_read 13 = .ok (.if_icmp .ge 91, 3) := by decide +kernel
theorem dX10_read_16 : decode cX10_read 16 = .ok (.iload_n 1, 1) := by decide +kernel
theorem dX10_read_17 : decode cX10_read 17 = .ok (.aload_n 0, 1) := by decide +kernel
theorem dX10_read_18 : decode cX10_read 18 = .ok (.getfield 45, 3) := by decide +kernel
theorem dX10_read_21 : decode cX10_read 21 = .ok (.if_icmp .ge 83, 3) := by decide +kernel
theorem dX10_read_24 : decode cX10_read 24 = .ok (.aload_n 0, 1) := by decide +kernel
theorem dX10_read_25 : decode cX10_read 25 = .ok (.getfield 22, 3) := by decide +kernel
theorem dX10_read_28 : decode cX10_read 28 = .ok (.iload_n 1, 1) := by decide +kernel
theorem dX10_read_29 : decode cX10_read 29 = .ok (.caload, 1) := by decide +kernel
theorem dX10_read_30 : decode cX10_read 30 = .ok (.istore_n 3, 1) := by decide +kernel
theorem dX10_read_31 : decode cX10_read 31 = .ok (.iload_n 3, 1) := by decide +kernel
theorem dX10_read_32 : decode cX10_read 32 = .ok (.invokestatic 52, 3) := by decide +kernel
theorem dX10_read_35 : decode cX10_read 35 = .ok (.ifCond .eq 12, 3) := by decide +kernel
theorem dX10_read_38 : decode cX10_read 38 = .ok (.aload_n 0, 1) := by decide +kernel
theorem dX10_read_39 : decode cX10_read 39 = .ok (.iload_n 1, 1) := by decide +kernel
theorem dX10_read_40 : decode cX10_read 40 = .ok (.invokevirtual 56, 3) := by decide +kernel
theorem dX10_read_43 : decode cX10_read 43 = .ok (.istore_n 1, 1) := by decide +kernel
theorem dX10_read_44 : decode cX10_read 44 = .ok (.goto 54, 3) := by decide +kernel
theorem dX10_read_47 : decode cX10_read 47 = .ok (.iload_n 3, 1) := by decide +kernel
theorem dX10_read_48 : decode cX10_read 48 = .ok (.invokestatic 60, 3) := by decide +kernel
theorem dX10_read_51 : decode cX10_read 51 = .ok (.ifCond .eq 12, 3) := by decide +kernel
theorem dX10_read_54 : decode cX10_read 54 = .ok (.aload_n 0, 1) := by decide +kernel
theorem dX10_read_55 : decode cX10_read 55 = .ok (.iload_n 1, 1) := by decide +kernel
theorem dX10_read_56 : decode cX10_read 56 = .ok (.invokevirtual 63, 3) := by decide +kernel
theorem dX10_read_59 : decode cX10_read 59 = .ok (.istore_n 1, 1) := by decide +kernel
theorem dX10_read_60 : decode cX10_read 60 = .ok (.goto 38, 3) := by decide +kernel
theorem dX10_read_63 : decode cX10_read 63 = .ok (.iload_n 3, 1) := by decide +kernel
theorem dX10_read_64 : decode cX10_read 64 = .ok (.bipush 32, 2) := by decide +kernel
theorem dX10_read_66 : decode cX10_read 66 = .ok (.if_icmp .eq 29, 3) := by decide +kernel
theorem dX10_read_69 : decode cX10_read 69 = .ok (.iload_n 3, 1) := by decide +kernel
theorem dX10_read_70 : decode cX10_read 70 = .ok (.bipush 10, 2) := by decide +kernel
theorem dX10_read_72 : decode cX10_read 72 = .ok (.if_icmp .eq 23, 3) := by decide +kernel
theorem dX10_read_75 : decode cX10_read 75 = .ok (.aload_n 0, 1) := by decide +kernel
theorem dX10_read_76 : decode cX10_read 76 = .ok (.ldc 66, 2) := by decide +kernel
theorem dX10_read_78 : decode cX10_read 78 = .ok (.iload_n 3, 1) := by decide +kernel
theorem dX10_read_79 : decode cX10_read 79 = .ok (.invokevirtual 68, 3) := by decide +kernel
theorem dX10_read_82 : decode cX10_read 82 = .ok (.ifCond .ge 7, 3) := by decide +kernel
theorem dX10_read_85 : decode cX10_read 85 = .ok (.iconst 1, 1) := by decide +kernel
theorem dX10_read_86 : decode cX10_read 86 = .ok (.goto 4, 3) := by decide +kernel
theorem dX10_read_89 : decode cX10_read 89 = .ok (.iload_n 3, 1) := by decide +kernel
theorem dX10_read_90 : decode cX10_read 90 = .ok (.iload_n 1, 1) := by decide +kernel
theorem dX10_read_91 : decode cX10_read 91 = .ok (.lconst 0, 1) := by decide +kernel
theorem dX10_read_92 : decode cX10_read 92 = .ok (.invokevirtual 71, 3) := by decide +kernel
theorem dX10_read_95 : decode cX10_read 95 = .ok (.iinc 1 1, 3) := by decide +kernel
theorem dX10_read_98 : decode cX10_read 98 = .ok (.iinc 2 1, 3) := by decide +kernel
theorem dX10_read_101 : decode cX10_read 101 = .ok (.goto (-92), 3) := by decide +kernel
theorem dX10_read_104 : decode cX10_read 104 = .ok (.aload_n 0, 1) := by decide +kernel
theorem dX10_read_105 : decode cX10_read 105 = .ok (.iconst 0, 1) := by decide +kernel
theorem dX10_read_106 : decode cX10_read 106 = .ok (.aload_n 0, 1) := by decide +kernel
theorem dX10_read_107 : decode cX10_read 107 = .ok (.getfield 45, 3) := by decide +kernel
theorem dX10_read_110 : decode cX10_read 110 = .ok (.lconst 0, 1) := by decide +kernel
theorem dX10_read_111 : decode cX10_read 111 = .ok (.invokevirtual 71, 3) := by decide +kernel
theorem dX10_read_114 : decode cX10_read 114 = .ok (.aload_n 0, 1) := by decide +kernel
theorem dX10_read_115 : decode cX10_read 115 = .ok (.iconst 0, 1) := by decide +kernel
theorem dX10_read_116 : decode cX10_read 116 = .ok (.putfield 45, 3) := by decide +kernel
theorem dX10_read_119 : decode cX10_read 119 = .ok (.return_, 1) := by decide +kernel
theorem dX11_named_0 : decode cX11_named 0 = .ok (.aload_n 0, 1) := by decide +kernel
theorem dX11_named_1 : decode cX11_named 1 = .ok (.getfield 12, 3) := by decide +kernel
theorem dX11_named_4 : decode cX11_named 4 = .ok (.invokevirtual 70, 3) := by decide +kernel
theorem dX11_named_7 : decode cX11_named 7 = .ok (.aload_n 0, 1) := by decide +kernel
theorem dX11_named_8 : decode cX11_named 8 = .ok (.getfield 12, 3) := by decide +kernel
theorem dX11_named_11 : decode cX11_named 11 = .ok (.invokevirtual 85, 3) := by decide +kernel
theorem dX11_named_14 : decode cX11_named 14 = .ok (.lstore_n 2, 1) := by decide +kernel
theorem dX11_named_15 : decode cX11_named 15 = .ok (.lload_n 2, 1) := by decide +kernel
theorem dX11_named_16 : decode cX11_named 16 = .ok (.lconst 0, 1) := by decide +kernel
theorem dX11_named_17 : decode cX11_named 17 = .ok (.lcmp, 1) := by decide +kernel
theorem dX11_named_18 : decode cX11_named 18 = .ok (.ifCond .ne 5, 3) := by decide +kernel
theorem dX11_named_21 : decode cX11_named 21 = .ok (.iconst (-1), 1) := by decide +kernel
theorem dX11_named_22 : decode cX11_named 22 = .ok (.ireturn, 1) := by decide +kernel
theorem dX11_named_23 : decode cX11_named 23 = .ok (.iload_n 1, 1) := by decide +kernel
theorem dX11_named_24 : decode cX11_named 24 = .ok (.iconst (-1), 1) := by decide +kernel
theorem dX11_named_25 : decode cX11_named 25 = .ok (.if_icmp .ne 14, 3) := by decide +kernel
theorem dX11_named_28 : decode cX11_named 28 = .ok (.aload_n 0, 1) := by decide +kernel
theorem dX11_named_29 : decode cX11_named 29 = .ok (.getfield 51, 3) := by decide +kernel
theorem dX11_named_32 : decode cX11_named 32 = .ok (.lload_n 2, 1) := by decide +kernel
theorem dX11_named_33 : decode cX11_named 33 = .ok (.invokevirtual 89, 3) := by decide +kernel
theorem dX11_named_36 : decode cX11_named 36 = .ok (.goto 12, 3) := by decide +kernel
theorem dX11_named_39 : decode cX11_named 39 = .ok (.aload_n 0, 1) := by decide +kernel
theorem dX11_named_40 : decode cX11_named 40 = .ok (.getfield 51, 3) := by decide +kernel
theorem dX11_named_43 : decode cX11_named 43 = .ok (.iload_n 1, 1) := by decide +kernel
theorem dX11_named_44 : decode cX11_named 44 = .ok (.lload_n 2, 1) := by decide +kernel
theorem dX11_named_45 : decode cX11_named 45 = .ok (.invokevirtual 93, 3) := by decide +kernel
theorem dX11_named_48 : decode cX11_named 48 = .ok (.ireturn, 1) := by decide +kernel
theorem dX11_program_0 : decode cX11_program 0 = .ok (.aload_n 0, 1) := by decide +kernel
theorem dX11_program_1 : decode cX11_program 1 = .ok (.getfield 12, 3) := by decide +kernel
theorem dX11_program_4 : decode cX11_program 4 = .ok (.invokevirtual 70, 3) := by decide +kernel
theorem dX11_program_7 : decode cX11_program 7 = .ok (.aload_n 0, 1) := by decide +kernel
theorem dX11_program_8 : decode cX11_program 8 = .ok (.getfield 21, 3) := by decide +kernel
theorem dX11_program_11 : decode cX11_program 11 = .ok (.aload_n 0, 1) := by decide +kernel
theorem dX11_program_12 : decode cX11_program 12 = .ok (.getfield 55, 3) := by decide +kernel
theorem dX11_program_15 : decode cX11_program 15 = .ok (.invokevirtual 73, 3) := by decide +kernel
theorem dX11_program_18 : decode cX11_program 18 = .ok (.istore_n 1, 1) := by decide +kernel
theorem dX11_program_19 : decode cX11_program 19 = .ok (.iload_n 1, 1) := by decide +kernel
theorem dX11_program_20 : decode cX11_program 20 = .ok (.ifCond .ne 42, 3) := by decide +kernel
theorem dX11_program_23 : decode cX11_program 23 = .ok (.aload_n 0, 1) := by decide +kernel
theorem dX11_program_24 : decode cX11_program 24 = .ok (.getfield 51, 3) := by decide +kernel
theorem dX11_program_27 : decode cX11_program 27 = .ok (.astore_n 2, 1) := by decide +kernel
theorem dX11_program_28 : decode cX11_program 28 = .ok (.aload_n 0, 1) := by decide +kernel
theorem dX11_program_29 : decode cX11_program 29 = .ok (.aload_n 0, 1) := by decide +kernel
theorem dX11_program_30 : decode cX11_program 30 = .ok (.getfield 55, 3) := by decide +kernel
theorem dX11_program_33 : decode cX11_program 33 = .ok (.putfield 51, 3) := by decide +kernel
theorem dX11_program_36 : decode cX11_program 36 = .ok (.aload_n 0, 1) := by decide +kernel
theorem dX11_program_37 : decode cX11_program 37 = .ok (.aload_n 2, 1) := by decide +kernel
theorem dX11_program_38 : decode cX11_program 38 = .ok (.putfield 55, 3) := by decide +kernel
theorem dX11_program_41 : decode cX11_program 41 = .ok (.aload_n 0, 1) := by decide +kernel
theorem dX11_program_42 : decode cX11_program 42 = .ok (.getfield 35, 3) := by decide +kernel
theorem dX11_program_45 : decode cX11_program 45 = .ok (.aload_n 0, 1) := by decide +kernel
theorem dX11_program_46 : decode cX11_program 46 = .ok (.getfield 51, 3) := by decide +kernel
theorem dX11_program_49 : decode cX11_program 49 = .ok (.invokevirtual 58, 3) := by decide +kernel
theorem dX11_program_52 : decode cX11_program 52 = .ok (.aload_n 0, 1) := by decide +kernel
theorem dX11_program_53 : decode cX11_program 53 = .ok (.getfield 44, 3) := by decide +kernel
theorem dX11_program_56 : decode cX11_program 56 = .ok (.getfield 76, 3) := by decide +kernel
theorem dX11_program_59 : decode cX11_program 59 = .ok (.invokevirtual 80, 3) := by decide +kernel
theorem dX11_program_62 : decode cX11_program 62 = .ok (.iload_n 1, 1) := by decide +kernel
theorem dX11_program_63 : decode cX11_program 63 = .ok (.ireturn, 1) := by decide +kernel
theorem kx_indexOf {p : Program} {l : Launch} {e : Env} {R : Room} {s : State} {m : MethodId} {args : Array Value} {below : List Frame} {meth : Method} {c : Code} {H : Heap} {locs : List Loc} {cells slots : Nat} {Q : State → Prop} {cc : ByteArray} {nL pc index : Nat} {ls : Array Slot} {rest : List Value} {E : kE} {A : Nat → Prop} {S : kS} {own : String} (hX : kX own p s m args c cc nL E A) (hC : cM E A s.heap S H locs) {ch : Int32} (cw : CallW R s args own RJ0 index yJ0_indexOf_0f7a4 cJ0_indexOf_0f7a4 2 (some .int) (.code yJ0_indexOf_0f7a4 cJ0_indexOf_0f7a4 2 (some .int) :: tb) ({ frames := 3, cells := 0, slots := 0, locals := 70 }) 0 0 1) (hls : ls.size = nL) (hW : (rest.map fun v => v.category).sum ≤ 8) (hf : cells ≤ R.cells ∧ slots ≤ R.slots) (hd : decode cc pc = .ok (.invokevirtual index, 3)) (kk : ∀ (r : Int32) (H1 : Heap) (locs1 : List Loc), cM E A s.heap S H1 locs1 → W p l e R s m args below meth c H1 locs1 cells slots Q (F0 m (pc + 3) ls (.int r :: rest))) : W p l e R s m args below meth c H locs cells slots Q (F0 m pc ls (.int ch :: .ref E.2.2.1 :: rest)) := by
  have hFc : ∀ q, va_A [] H.size q → A q := fun q h => by
    rcases h with ⟨k, e9, h⟩ | h
    · simp at h
    · exact hX.2.2.1 q (Nat.le_trans hC.2.2.1 h)
  have hZ := hX.2.2.2
  refine va_calli (va_runV (As := [.int ch]) (rest := rest) hX.1 (ct_J0_indexOf_0f7a4 l E.1.1 E.1.2 E.2.2.1 E.2.2.2.1 E.2.2.2.2.1 E.2.2.2.2.2 ch H.size (by have := hZ.2.2.2.2; omega)) cw ⟨fun a U g mk q => by
    obtain ⟨q0, q1, qP, qK, qD, qZ0, qZ1⟩ := q
    exact ⟨q0, q1, qP, va_K.moved (u := U) (U := U.calling g mk a) (Vm.Alike.refl U.vm) qK, qD, sx_F.moved (u := U) (U := U.calling g mk a) (Vm.Alike.refl U.vm) qZ0, sj_F.moved (u := U) (U := U.calling g mk a) (Vm.Alike.refl U.vm) qZ1⟩, sx_recv hZ.2.1 hC.2.2, fun U hU hW => ⟨rfl, by rw [hU], fun k q h => by simp at h, va_K.moved hW.alike ⟨hX.2.1.1, fun k q h => by simp at h⟩, ⟨fun i j p q h => by simp at h, fun k q h => by simp at h⟩, by rw [hU]; exact ((hZ.2.1.kept hC.2.2.2.1).narrow hFc).moved hW.alike, by rw [hU]; exact ((hZ.2.2.1.kept hC.2.2.2.1).narrow hFc).moved hW.alike⟩⟩ rfl rfl hls rfl (lv_room hW) hd hf) hC.2.2 (fun q _ h => hFc q h) hFc (fun r u t H1 locs1 ht hvm hw hB hz1 hk1 hS1 => ?_)
  refine kk r H1 locs1 ⟨hC.1.kept (fun k q hk => ?_), hC.2.1, hS1⟩
  have hlt := (hC.1 k q hk).lt
  refine hk1 q.1 hlt (fun h => ?_)
  rcases h with ⟨k, e9, h⟩ | h
  · simp at h
  · exact absurd h (Nat.not_le.mpr hlt)
def wp_X10_read_104 (K : kS → Prop) (x0 : Nat) (S : kS) : Prop := hasO S x0 10 ∧ ∀ z21 : Int32, z21 = S.1 41 x0 → hasO S x0 10 ∧ wp_X10_keep x0 0 z21 0 S (fun (S22 : kS) => hasO S22 x0 10 ∧ ∀ S23 : kS, S23 = cI S22 41 x0 0 → K S23)
def wp_X10_read_98 (K : kS → Prop) (k9 : Nat × Int32 × Int32 × kS → Prop) (x0 : Nat) (x1 : Int32) (x2 : Int32) (S : kS) : Prop := ∀ z18 : Int32, z18 = x2 + 1 → k9 (x0, x1, z18, S)
def wp_X10_read_95 (K : kS → Prop) (k9 : Nat × Int32 × Int32 × kS → Prop) (x0 : Nat) (x1 : Int32) (x2 : Int32) (S : kS) : Prop := ∀ z20 : Int32, z20 = x1 + 1 → wp_X10_read_98 K k9 x0 z20 x2 S
def wp_X10_read_90 (K : kS → Prop) (k9 : Nat × Int32 × Int32 × kS → Prop) (x0 : Nat) (x1 : Int32) (x2 : Int32) (y0 : Nat) (y1 : Int32) (S : kS) : Prop := hasO S y0 10 ∧ wp_X10_keep y0 y1 x1 0 S (fun (S19 : kS) => wp_X10_read_95 K k9 x0 x1 x2 S19)
def wp_X10_read_9 (K : kS → Prop) (k9 : Nat × Int32 × Int32 × kS → Prop) (x0 : Nat) (x1 : Int32) (x2 : Int32) (S : kS) : Prop := ((4000 ≤ x2 → wp_X10_read_104 K x0 S) ∧ (¬ 4000 ≤ x2 → hasO S x0 10 ∧ ∀ z3 : Int32, z3 = S.1 41 x0 → ((z3 ≤ x1 → wp_X10_read_104 K x0 S) ∧ (¬ z3 ≤ x1 → hasO S x0 10 ∧ ∀ z5 : Option Nat, z5 = S.2.1 67 x0 → ∃ q6 : Nat, z5 = some q6 ∧ hasA S q6 4000 3 ∧ inR x1 4000 ∧ ∀ z7 : Int32, z7 = S.2.2.1 q6 (ix x1) → wp_X10_isLetter z7 S (fun (S8 : kS) (r8 : Int32) => ((r8 = 0 → wp_X10_isDigit z7 S8 (fun (S10 : kS) (r10 : Int32) => ((r10 = 0 → ((z7 = 32 → wp_X10_read_95 K k9 x0 x1 x2 S10) ∧ (¬ z7 = 32 → ((z7 = 10 → wp_X10_read_95 K k9 x0 x1 x2 S10) ∧ (¬ z7 = 10 → ∀ r14 : Int32, ((0 ≤ r14 → wp_X10_read_90 K k9 x0 x1 x2 x0 z7 S10) ∧ (¬ 0 ≤ r14 → wp_X10_read_90 K k9 x0 x1 x2 x0 1 S10))))))) ∧ (¬ r10 = 0 → hasO S10 x0 10 ∧ wp_X10_readNumber x0 x1 S10 (fun (S16 : kS) (r16 : Int32) => wp_X10_read_98 K k9 x0 r16 x2 S16))))) ∧ (¬ r8 = 0 → hasO S8 x0 10 ∧ wp_X10_readWord x0 x1 S8 (fun (S17 : kS) (r17 : Int32) => wp_X10_read_98 K k9 x0 r17 x2 S17))))))))
def ls_X10_read_9 (K : kS → Prop) (k9 : Nat × Int32 × Int32 × kS → Prop) (u : Nat × Int32 × Int32 × kS) : Prop := wp_X10_read_9 K k9 u.1 u.2.1 u.2.2.1 u.2.2.2
def wp_X10_read (t0 : Nat) (S : kS) (K : kS → Prop) : Prop := hasO S t0 10 ∧ ∀ S1 : kS, S1 = cI S 40 t0 0 → (∃ n9, it (ls_X10_read_9 K) n9 (t0, 0, 0, S1))
theorem cw_X10_63 {R : Room} {s : State} {args : Array Value} {fr lo : Nat} (hts : ∀ w ∈ tb, w.before args s = true) (h1 : fr + 1 ≤ R.frames) (h2 : 8 + (5 + 11) + lo ≤ R.locals) : CallW R s args RX10 RX10 63 yX10_readNumber cX10_readNumber 5 (some .int) (.code yX10_readNumber cX10_readNumber 5 (some .int) :: tb) (mRm fr lo) 0 0 1 := cwV 1 hts (gd_V wd_531 wd_533 sl_X10_readNumber wd_2 wd_534) rfl rfl rfl (by decide +kernel) ⟨h1, h2⟩
theorem cw_X10_56 {R : Room} {s : State} {args : Array Value} {fr lo : Nat} (hts : ∀ w ∈ tb, w.before args s = true) (h1 : fr + 1 ≤ R.frames) (h2 : 8 + (5 + 11) + lo ≤ R.locals) : CallW R s args RX10 RX10 56 yX10_readWord cX10_readWord 5 (some .int) (.code yX10_readWord cX10_readWord 5 (some .int) :: tb) (mRm fr lo) 0 0 1 := cwV 1 hts (gd_V wd_519 wd_521 sl_X10_readWord wd_2 wd_522) rfl rfl rfl (by decide +kernel) ⟨h1, h2⟩
set_option maxHeartbeats 4000000 in
set_option maxRecDepth 100000 in
theorem kt_X10_read (l : Launch) (S : kS) (t0 : Nat) (K : kS → Prop) (h : wp_X10_read t0 S K) : kMv l yX10_read cX10_read 4 none 4 91 [.ref t0] S K := by
  refine kv_ofv (own := RX10) (by decide) rfl (Nat.le_of_ble_eq_true rfl) ?_
  intro E p e R s m args below meth c A ls Q hRf hRl hX hC hl hret
  have hx := hX.1.1
  have hb := hX.1.2.1
  have hown := hX.1.2.2.2.1
  have hts := hX.1.2.2.2.2
  have cut104 : ∀ (x0 : Nat) (S : kS) (H : Heap) (locs : List Loc) (ls : Array Slot), wp_X10_read_104 K x0 S → cM E A s.heap S H locs → lv_has ls 4 [(0, .ref x0)] → W p l e R s m args below meth c H locs 0 0 Q (F0 m 104 ls []) := by
    intro x0 S H locs ls h hC hl
    unfold wp_X10_read_104 at h
    refine lv_aload_n hx hb dX10_read_104 rfl (lv_at hl 0 rfl) ?_
    refine lv_iconst (v := 0) hx hb dX10_read_105 (by decide) ?_
    refine lv_aload_n hx hb dX10_read_106 rfl (lv_at hl 0 rfl) ?_
    refine cq_geti (ci := 10) (k := 4) (f := 41) hX hC rfl in_X10 (by decide) wd_103 (fun _ h9 => h9) (fun _ _ => rfl) dX10_read_107 h (fun z21 h => ?_)
    refine lv_lconst (v := 0) hx hb dX10_read_110 (by decide) ?_
    refine kv_callv [.int 0, .int z21, .long 0] (rest := []) (ci := 10) rfl hX hC h.1 (kt_X10_keep l S x0 0 z21 0 _ h.2 E _) (cw_X10_71 hts (by omega) (by omega)) rfl hl.1 (Nat.le_of_ble_eq_true rfl) ⟨Nat.zero_le _, Nat.zero_le _⟩ dX10_read_111 (fun S22 H locs hC h => ?_)
    refine lv_aload_n hx hb dX10_read_114 rfl (lv_at hl 0 rfl) ?_
    refine lv_iconst (v := 0) hx hb dX10_read_115 (by decide) ?_
    refine cq_puti (v := 0) (ci := 10) (k := 4) (f := 41) hX hC rfl in_X10 (by decide) wd_103 (fun _ h9 => h9) tyX10 tyX10_ok nmX10 rfl rfl rfl (fun _ _ => Nat.le_of_ble_eq_true rfl) (fun _ _ _ => rfl) dX10_read_116 h.1 h.2 (fun S23 H locs hC h => ?_)
    exact hret _ _ _ _ _ hC h dX10_read_119
  have cut9 : ∀ (n9 : Nat) (x0 : Nat) (x1 : Int32) (x2 : Int32) (S : kS) (H : Heap) (locs : List Loc) (ls : Array Slot), it (ls_X10_read_9 K) n9 (x0, x1, x2, S) → cM E A s.heap S H locs → lv_has ls 4 [(0, .ref x0), (1, .int x1), (2, .int x2)] → W p l e R s m args below meth c H locs 0 0 Q (F0 m 9 ls []) := by
    intro n9
    induction n9 with
    | zero => intro x0 x1 x2 S H locs ls h hC hl; exact h.elim
    | succ n9 ih9 =>
      have cut98 : ∀ (x0 : Nat) (x1 : Int32) (x2 : Int32) (S : kS) (H : Heap) (locs : List Loc) (ls : Array Slot), wp_X10_read_98 K (it (ls_X10_read_9 K) n9) x0 x1 x2 S → cM E A s.heap S H locs → lv_has ls 4 [(0, .ref x0), (1, .int x1), (2, .int x2)] → W p l e R s m args below meth c H locs 0 0 Q (F0 m 98 ls []) := by
        intro x0 x1 x2 S H locs ls h hC hl
        unfold wp_X10_read_98 at h
        obtain ⟨z18, ez18⟩ : ∃ y : Int32, y = x2 + 1 := ⟨_, rfl⟩
        have h := h z18 ez18
        refine lv_iinc (v := z18) (lv' := [(2, .int z18), (0, .ref x0), (1, .int x1)]) hx hb dX10_read_98 hl (k := 2) rfl (by rw [ez18]; rfl) (by decide) rfl (fun ls hl => ?_)
        refine lv_goto (tgt := 9) hx hb dX10_read_101 (by decide) ?_
        exact ih9 x0 x1 z18 S _ _ _ h hC (lv_sub hl [1, 2, 0] rfl)
      have cut95 : ∀ (x0 : Nat) (x1 : Int32) (x2 : Int32) (S : kS) (H : Heap) (locs : List Loc) (ls : Array Slot), wp_X10_read_95 K (it (ls_X10_read_9 K) n9) x0 x1 x2 S → cM E A s.heap S H locs → lv_has ls 4 [(0, .ref x0), (1, .int x1), (2, .int x2)] → W p l e R s m args below meth c H locs 0 0 Q (F0 m 95 ls []) := by
        intro x0 x1 x2 S H locs ls h hC hl
        unfold wp_X10_read_95 at h
        obtain ⟨z20, ez20⟩ : ∃ y : Int32, y = x1 + 1 := ⟨_, rfl⟩
        have h := h z20 ez20
        refine lv_iinc (v := z20) (lv' := [(1, .int z20), (0, .ref x0), (2, .int x2)]) hx hb dX10_read_95 hl (k := 1) rfl (by rw [ez20]; rfl) (by decide) rfl (fun ls hl => ?_)
        exact cut98 x0 z20 x2 S _ _ _ h hC (lv_sub hl [1, 0, 2] rfl)
      have cut90 : ∀ (x0 : Nat) (x1 : Int32) (x2 : Int32) (y0 : Nat) (y1 : Int32) (S : kS) (H : Heap) (locs : List Loc) (ls : Array Slot), wp_X10_read_90 K (it (ls_X10_read_9 K) n9) x0 x1 x2 y0 y1 S → cM E A s.heap S H locs → lv_has ls 4 [(0, .ref x0), (1, .int x1), (2, .int x2)] → W p l e R s m args below meth c H locs 0 0 Q (F0 m 90 ls [.int y1, .ref y0]) := by
        intro x0 x1 x2 y0 y1 S H locs ls h hC hl
        unfold wp_X10_read_90 at h
        refine lv_iload_n hx hb dX10_read_90 rfl (lv_at hl 1 rfl) ?_
        refine lv_lconst (v := 0) hx hb dX10_read_91 (by decide) ?_
        refine kv_callv [.int y1, .int x1, .long 0] (rest := []) (ci := 10) rfl hX hC h.1 (kt_X10_keep l S y0 y1 x1 0 _ h.2 E _) (cw_X10_71 hts (by omega) (by omega)) rfl hl.1 (Nat.le_of_ble_eq_true rfl) ⟨Nat.zero_le _, Nat.zero_le _⟩ dX10_read_92 (fun S19 H locs hC h => ?_)
        exact cut95 x0 x1 x2 S19 _ _ _ h hC (lv_sub hl [0, 1, 2] rfl)
      intro x0 x1 x2 S H locs ls h hC hl
      have h : wp_X10_read_9 K (it (ls_X10_read_9 K) n9) x0 x1 x2 S := h
      unfold wp_X10_read_9 at h
      refine lv_iload_n hx hb dX10_read_9 rfl (lv_at hl 2 rfl) ?_
      refine lv_sipush (v := 4000) hx hb dX10_read_10 (by decide) ?_
      refine lv_icmp_ge (tgt := 104) hx hb dX10_read_13 (by decide) (fun c2 => ?_) (fun c2 => ?_)
      · have h := h.1 c2
        exact cut104 x0 S _ _ _ h hC (lv_sub hl [0] rfl)
      · have h := h.2 c2
        refine lv_iload_n hx hb dX10_read_16 rfl (lv_at hl 1 rfl) ?_
        refine lv_aload_n hx hb dX10_read_17 rfl (lv_at hl 0 rfl) ?_
        refine cq_geti (ci := 10) (k := 4) (f := 41) hX hC rfl in_X10 (by decide) wd_103 (fun _ h9 => h9) (fun _ _ => rfl) dX10_read_18 h (fun z3 h => ?_)
        refine lv_icmp_ge (tgt := 104) hx hb dX10_read_21 (by decide) (fun c4 => ?_) (fun c4 => ?_)
        · have h := h.1 c4
          exact cut104 x0 S _ _ _ h hC (lv_sub hl [0] rfl)
        · have h := h.2 c4
          refine lv_aload_n hx hb dX10_read_24 rfl (lv_at hl 0 rfl) ?_
          refine cq_getr (ci := 10) (k := 5) (f := 67) hX hC rfl in_X10 (by decide) wd_104 (fun _ h9 => h9) (fun _ _ => rfl) dX10_read_25 h (fun z5 h => ?_)
          refine lv_iload_n hx hb dX10_read_28 rfl (lv_at hl 1 rfl) ?_
          obtain ⟨q6, e9, hh⟩ := h
          subst e9
          have h := hh
          clear hh
          refine cq_cld hX hC dX10_read_29 h (fun z7 h => ?_)
          refine lv_istore_n (lv' := [(3, .int z7), (0, .ref x0), (1, .int x1), (2, .int x2)]) hx hb dX10_read_30 rfl hl (by decide) rfl (fun ls hl => ?_)
          refine lv_iload_n hx hb dX10_read_31 rfl (lv_at hl 0 rfl) ?_
          refine kv_callsi [.int z7] (rest := []) hX hC (kt_X10_isLetter l S z7 _ h E _) (cw_X10_52 hts (by omega) (by omega)) rfl hl.1 (Nat.le_of_ble_eq_true rfl) ⟨Nat.zero_le _, Nat.zero_le _⟩ dX10_read_32 (fun r8 S8 H locs hC h => ?_)
          refine lv_if_eq (tgt := 47) hx hb dX10_read_35 (by decide) (fun c9 => ?_) (fun c9 => ?_)
          · have h := h.1 c9
            refine lv_iload_n hx hb dX10_read_47 rfl (lv_at hl 0 rfl) ?_
            refine kv_callsi [.int z7] (rest := []) hX hC (kt_X10_isDigit l S8 z7 _ h E _) (cw_X10_60 hts (by omega) (by omega)) rfl hl.1 (Nat.le_of_ble_eq_true rfl) ⟨Nat.zero_le _, Nat.zero_le _⟩ dX10_read_48 (fun r10 S10 H locs hC h => ?_)
            refine lv_if_eq (tgt := 63) hx hb dX10_read_51 (by decide) (fun c11 => ?_) (fun c11 => ?_)
            · have h := h.1 c11
              refine lv_iload_n hx hb dX10_read_63 rfl (lv_at hl 0 rfl) ?_
              refine lv_bipush (v := 32) hx hb dX10_read_64 (by decide) ?_
              refine lv_icmp_eq (tgt := 95) hx hb dX10_read_66 (by decide) (fun c12 => ?_) (fun c12 => ?_)
              · have h := h.1 c12
                exact cut95 x0 x1 x2 S10 _ _ _ h hC (lv_sub hl [1, 2, 3] rfl)
              · have h := h.2 c12
                refine lv_iload_n hx hb dX10_read_69 rfl (lv_at hl 0 rfl) ?_
                refine lv_bipush (v := 10) hx hb dX10_read_70 (by decide) ?_
                refine lv_icmp_eq (tgt := 95) hx hb dX10_read_72 (by decide) (fun c13 => ?_) (fun c13 => ?_)
                · have h := h.1 c13
                  exact cut95 x0 x1 x2 S10 _ _ _ h hC (lv_sub hl [1, 2, 3] rfl)
                · have h := h.2 c13
                  refine lv_aload_n hx hb dX10_read_75 rfl (lv_at hl 1 rfl) ?_
                  refine va_ldcS hx hb hown hX.2.2.2.1 dX10_read_76 ?_
                  refine lv_iload_n hx hb dX10_read_78 rfl (lv_at hl 0 rfl) ?_
                  refine kx_indexOf (rest := [.ref x0]) hX hC (cwV 1 hts (gd_V wd_537 wd_538 wd_539 wd_3 wd_540) rfl rfl rfl (by decide +kernel) ⟨by show 3 + 1 ≤ R.frames; omega, by show 8 + (2 + 11) + 70 ≤ R.locals; omega⟩) hl.1 (Nat.le_of_ble_eq_true rfl) ⟨Nat.zero_le _, Nat.zero_le _⟩ dX10_read_79 (fun r14 H locs hC => ?_)
                  have h := h r14
                  refine lv_if_ge (tgt := 89) hx hb dX10_read_82 (by decide) (fun c15 => ?_) (fun c15 => ?_)
                  · have h := h.1 c15
                    refine lv_iload_n hx hb dX10_read_89 rfl (lv_at hl 0 rfl) ?_
                    exact cut90 x0 x1 x2 x0 z7 S10 _ _ _ h hC (lv_sub hl [1, 2, 3] rfl)
                  · have h := h.2 c15
                    refine lv_iconst (v := 1) hx hb dX10_read_85 (by decide) ?_
                    refine lv_goto (tgt := 90) hx hb dX10_read_86 (by decide) ?_
                    exact cut90 x0 x1 x2 x0 1 S10 _ _ _ h hC (lv_sub hl [1, 2, 3] rfl)
            · have h := h.2 c11
              refine lv_aload_n hx hb dX10_read_54 rfl (lv_at hl 1 rfl) ?_
              refine lv_iload_n hx hb dX10_read_55 rfl (lv_at hl 2 rfl) ?_
              refine kv_calli [.int x1] (rest := []) (ci := 10) rfl hX hC h.1 (kt_X10_readNumber l S10 x0 x1 _ h.2 E _) (cw_X10_63 hts (by omega) (by omega)) rfl hl.1 (Nat.le_of_ble_eq_true rfl) ⟨Nat.zero_le _, Nat.zero_le _⟩ dX10_read_56 (fun r16 S16 H locs hC h => ?_)
              refine lv_istore_n (lv' := [(1, .int r16), (3, .int z7), (0, .ref x0), (2, .int x2)]) hx hb dX10_read_59 rfl hl (by decide) rfl (fun ls hl => ?_)
              refine lv_goto (tgt := 98) hx hb dX10_read_60 (by decide) ?_
              exact cut98 x0 r16 x2 S16 _ _ _ h hC (lv_sub hl [2, 0, 3] rfl)
          · have h := h.2 c9
            refine lv_aload_n hx hb dX10_read_38 rfl (lv_at hl 1 rfl) ?_
            refine lv_iload_n hx hb dX10_read_39 rfl (lv_at hl 2 rfl) ?_
            refine kv_calli [.int x1] (rest := []) (ci := 10) rfl hX hC h.1 (kt_X10_readWord l S8 x0 x1 _ h.2 E _) (cw_X10_56 hts (by omega) (by omega)) rfl hl.1 (Nat.le_of_ble_eq_true rfl) ⟨Nat.zero_le _, Nat.zero_le _⟩ dX10_read_40 (fun r17 S17 H locs hC h => ?_)
            refine lv_istore_n (lv' := [(1, .int r17), (3, .int z7), (0, .ref x0), (2, .int x2)]) hx hb dX10_read_43 rfl hl (by decide) rfl (fun ls hl => ?_)
            refine lv_goto (tgt := 98) hx hb dX10_read_44 (by decide) ?_
            exact cut98 x0 r17 x2 S17 _ _ _ h hC (lv_sub hl [2, 0, 3] rfl)
  have hl : lv_has ls 4 [(0, .ref t0)] := hl
  unfold wp_X10_read at h
  refine lv_aload_n hx hb dX10_read_0 rfl (lv_at hl 0 rfl) ?_
  refine lv_iconst (v := 0) hx hb dX10_read_1 (by decide) ?_
  refine cq_puti (v := 0) (ci := 10) (k := 3) (f := 40) hX hC rfl in_X10 (by decide) wd_100 (fun _ h9 => h9) tyX10 tyX10_ok nmX10 rfl rfl rfl (fun _ _ => Nat.le_of_ble_eq_true rfl) (fun _ _ _ => rfl) dX10_read_2 h.1 h.2 (fun S1 H locs hC h => ?_)
  refine lv_iconst (v := 0) hx hb dX10_read_5 (by decide) ?_
  refine lv_istore_n (lv' := [(1, .int 0), (0, .ref t0)]) hx hb dX10_read_6 rfl hl (by decide) rfl (fun ls hl => ?_)
  refine lv_iconst (v := 0) hx hb dX10_read_7 (by decide) ?_
  refine lv_istore_n (lv' := [(2, .int 0), (1, .int 0), (0, .ref t0)]) hx hb dX10_read_8 rfl hl (by decide) rfl (fun ls hl => ?_)
  obtain ⟨n9, h⟩ := h
  exact cut9 n9 t0 0 0 S1 _ _ _ h hC (lv_sub hl [2, 1, 0] rfl)
def wp_X11_named (t0 : Nat) (a0 : Int32) (S : kS) (K : kS → Int32 → Prop) : Prop := hasO S t0 11 ∧ ∀ z1 : Option Nat, z1 = S.2.1 69 t0 → ∃ q2 : Nat, z1 = some q2 ∧ hasO S q2 10 ∧ wp_X10_read q2 S (fun (S3 : kS) => hasO S3 t0 11 ∧ ∀ z4 : Option Nat, z4 = S3.2.1 69 t0 → ∃ q5 : Nat, z4 = some q5 ∧ hasO S3 q5 10 ∧ wp_X10_onlyWord q5 S3 (fun (S6 : kS) (r6 : Int64) => ∀ z7 : Int32, z7 = lg_cmp r6 0 → ((¬ z7 = 0 → ((¬ a0 = (-1) → hasO S6 t0 11 ∧ ∀ z10 : Option Nat, z10 = S6.2.1 74 t0 → ∃ q11 : Nat, z10 = some q11 ∧ hasO S6 q11 5 ∧ wp_X5_cellNamed q11 a0 r6 S6 (fun (S12 : kS) (r12 : Int32) => K S12 r12)) ∧ (a0 = (-1) → hasO S6 t0 11 ∧ ∀ z13 : Option Nat, z13 = S6.2.1 74 t0 → ∃ q14 : Nat, z13 = some q14 ∧ hasO S6 q14 5 ∧ wp_X5_routineNamed q14 r6 S6 (fun (S15 : kS) (r15 : Int32) => K S15 r15)))) ∧ (z7 = 0 → K S6 (-1)))))
theorem cw_X11_70 {R : Room} {s : State} {args : Array Value} {fr lo : Nat} (hts : ∀ w ∈ tb, w.before args s = true) (h1 : fr + 1 ≤ R.frames) (h2 : 8 + (4 + 11) + lo ≤ R.locals) : CallW R s args RX11 RX10 70 yX10_read cX10_read 4 none (.code yX10_read cX10_read 4 none :: tb) (mRm fr lo) 0 0 0 := cwV 0 hts (gd_V wd_512 wd_513 wd_514 wd_2 wd_515) rfl rfl rfl (by decide +kernel) ⟨h1, h2⟩
theorem cw_X11_85 {R : Room} {s : State} {args : Array Value} {fr lo : Nat} (hts : ∀ w ∈ tb, w.before args s = true) (h1 : fr + 1 ≤ R.frames) (h2 : 8 + (1 + 11) + lo ≤ R.locals) : CallW R s args RX11 RX10 85 yX10_onlyWord cX10_onlyWord 1 (some .long) (.code yX10_onlyWord cX10_onlyWord 1 (some .long) :: tb) (mRm fr lo) 0 0 0 := cwV 0 hts (gd_V wd_780 wd_781 wd_782 wd_2 wd_783) rfl rfl rfl (by decide +kernel) ⟨h1, h2⟩
theorem cw_X11_93 {R : Room} {s : State} {args : Array Value} {fr lo : Nat} (hts : ∀ w ∈ tb, w.before args s = true) (h1 : fr + 1 ≤ R.frames) (h2 : 8 + (6 + 11) + lo ≤ R.locals) : CallW R s args RX11 RX5 93 yX5_cellNamed cX5_cellNamed 6 (some .int) (.code yX5_cellNamed cX5_cellNamed 6 (some .int) :: tb) (mRm fr lo) 0 0 2 := cwV 2 hts (gd_V wd_785 wd_645 wd_646 wd_13 wd_647) rfl rfl rfl (by decide +kernel) ⟨h1, h2⟩
theorem cw_X11_89 {R : Room} {s : State} {args : Array Value} {fr lo : Nat} (hts : ∀ w ∈ tb, w.before args s = true) (h1 : fr + 1 ≤ R.frames) (h2 : 8 + (4 + 11) + lo ≤ R.locals) : CallW R s args RX11 RX5 89 yX5_routineNamed cX5_routineNamed 4 (some .int) (.code yX5_routineNamed cX5_routineNamed 4 (some .int) :: tb) (mRm fr lo) 0 0 1 := cwV 1 hts (gd_V wd_784 wd_625 wd_626 wd_13 wd_627) rfl rfl rfl (by decide +kernel) ⟨h1, h2⟩
set_option maxHeartbeats 4000000 in
set_option maxRecDepth 100000 in
theorem kt_X11_named (l : Launch) (S : kS) (t0 : Nat) (a0 : Int32) (K : kS → Int32 → Prop) (h : wp_X11_named t0 a0 S K) : kMi l yX11_named cX11_named 4 (some .int) 5 114 [.ref t0, .int a0] S K := by
  refine kv_ofi (own := RX11) (by decide) rfl (Nat.le_of_ble_eq_true rfl) ?_
  intro E p e R s m args below meth c A ls Q hRf hRl hX hC hl hret
  have hx := hX.1.1
  have hb := hX.1.2.1
  have hown := hX.1.2.2.2.1
  have hts := hX.1.2.2.2.2
  have hl : lv_has ls 4 [(0, .ref t0), (1, .int a0)] := hl
  unfold wp_X11_named at h
  refine lv_aload_n hx hb dX11_named_0 rfl (lv_at hl 0 rfl) ?_
  refine cq_getr (ci := 11) (k := 0) (f := 69) hX hC rfl in_X11 (by decide) wd_478 (fun _ h9 => h9) (fun _ _ => rfl) dX11_named_1 h (fun z1 h => ?_)
  obtain ⟨q2, e9, hh⟩ := h
  subst e9
  have h := hh
  clear hh
  refine kv_callv [] (rest := []) (ci := 10) rfl hX hC h.1 (kt_X10_read l S q2 _ h.2 E _) (cw_X11_70 hts (by omega) (by omega)) rfl hl.1 (Nat.le_of_ble_eq_true rfl) ⟨Nat.zero_le _, Nat.zero_le _⟩ dX11_named_4 (fun S3 H locs hC h => ?_)
  refine lv_aload_n hx hb dX11_named_7 rfl (lv_at hl 0 rfl) ?_
  refine cq_getr (ci := 11) (k := 0) (f := 69) hX hC rfl in_X11 (by decide) wd_478 (fun _ h9 => h9) (fun _ _ => rfl) dX11_named_8 h (fun z4 h => ?_)
  obtain ⟨q5, e9, hh⟩ := h
  subst e9
  have h := hh
  clear hh
  refine kv_calll [] (rest := []) (ci := 10) rfl hX hC h.1 (kt_X10_onlyWord l S3 q5 _ h.2 E _) (cw_X11_85 hts (by omega) (by omega)) rfl hl.1 (Nat.le_of_ble_eq_true rfl) ⟨Nat.zero_le _, Nat.zero_le _⟩ dX11_named_11 (fun r6 S6 H locs hC h => ?_)
  refine lv_lstore_n (lv' := [(2, .long r6), (0, .ref t0), (1, .int a0)]) hx hb dX11_named_14 rfl hl (by decide) rfl (fun ls hl => ?_)
  refine lv_lload_n hx hb dX11_named_15 rfl (lv_at hl 0 rfl) ?_
  refine lv_lconst (v := 0) hx hb dX11_named_16 (by decide) ?_
  refine lq_lcmp hx hb dX11_named_17 h (fun z7 h => ?_)
  refine lv_if_ne (tgt := 23) hx hb dX11_named_18 (by decide) (fun c8 => ?_) (fun c8 => ?_)
  · have h := h.1 c8
    refine lv_iload_n hx hb dX11_named_23 rfl (lv_at hl 2 rfl) ?_
    refine lv_iconst (v := -1) hx hb dX11_named_24 (by decide) ?_
    refine lv_icmp_ne (tgt := 39) hx hb dX11_named_25 (by decide) (fun c9 => ?_) (fun c9 => ?_)
    · have h := h.1 c9
      refine lv_aload_n hx hb dX11_named_39 rfl (lv_at hl 1 rfl) ?_
      refine cq_getr (ci := 11) (k := 5) (f := 74) hX hC rfl in_X11 (by decide) wd_483 (fun _ h9 => h9) (fun _ _ => rfl) dX11_named_40 h (fun z10 h => ?_)
      refine lv_iload_n hx hb dX11_named_43 rfl (lv_at hl 2 rfl) ?_
      refine lv_lload_n hx hb dX11_named_44 rfl (lv_at hl 0 rfl) ?_
      obtain ⟨q11, e9, hh⟩ := h
      subst e9
      have h := hh
      clear hh
      refine kv_calli [.int a0, .long r6] (rest := []) (ci := 5) rfl hX hC h.1 (kt_X5_cellNamed l S6 q11 a0 r6 _ h.2 E _) (cw_X11_93 hts (by omega) (by omega)) rfl hl.1 (Nat.le_of_ble_eq_true rfl) ⟨Nat.zero_le _, Nat.zero_le _⟩ dX11_named_45 (fun r12 S12 H locs hC h => ?_)
      exact hret _ _ _ _ _ _ hC h dX11_named_48
    · have h := h.2 c9
      refine lv_aload_n hx hb dX11_named_28 rfl (lv_at hl 1 rfl) ?_
      refine cq_getr (ci := 11) (k := 5) (f := 74) hX hC rfl in_X11 (by decide) wd_483 (fun _ h9 => h9) (fun _ _ => rfl) dX11_named_29 h (fun z13 h => ?_)
      refine lv_lload_n hx hb dX11_named_32 rfl (lv_at hl 0 rfl) ?_
      obtain ⟨q14, e9, hh⟩ := h
      subst e9
      have h := hh
      clear hh
      refine kv_calli [.long r6] (rest := []) (ci := 5) rfl hX hC h.1 (kt_X5_routineNamed l S6 q14 r6 _ h.2 E _) (cw_X11_89 hts (by omega) (by omega)) rfl hl.1 (Nat.le_of_ble_eq_true rfl) ⟨Nat.zero_le _, Nat.zero_le _⟩ dX11_named_33 (fun r15 S15 H locs hC h => ?_)
      refine lv_goto (tgt := 48) hx hb dX11_named_36 (by decide) ?_
      exact hret _ _ _ _ _ _ hC h dX11_named_48
  · have h := h.2 c8
    refine lv_iconst (v := -1) hx hb dX11_named_21 (by decide) ?_
    exact hret _ _ _ _ _ _ hC h dX11_named_22
def wp_X11_program (t0 : Nat) (S : kS) (K : kS → Int32 → Prop) : Prop := hasO S t0 11 ∧ ∀ z1 : Option Nat, z1 = S.2.1 69 t0 → ∃ q2 : Nat, z1 = some q2 ∧ hasO S q2 10 ∧ wp_X10_read q2 S (fun (S3 : kS) => hasO S3 t0 11 ∧ ∀ z4 : Option Nat, z4 = S3.2.1 70 t0 → hasO S3 t0 11 ∧ ∀ z5 : Option Nat, z5 = S3.2.1 75 t0 → ∃ q6 : Nat, z4 = some q6 ∧ ∃ q7 : Nat, z5 = some q7 ∧ hasO S3 q6 3 ∧ wp_X3_read q6 q7 S3 (fun (S8 : kS) (r8 : Int32) => ((¬ r8 = 0 → K S8 r8) ∧ (r8 = 0 → hasO S8 t0 11 ∧ ∀ z10 : Option Nat, z10 = S8.2.1 74 t0 → hasO S8 t0 11 ∧ ∀ z11 : Option Nat, z11 = S8.2.1 75 t0 → hasO S8 t0 11 ∧ ∀ S12 : kS, S12 = cR S8 74 t0 z11 → hasO S12 t0 11 ∧ ∀ S13 : kS, S13 = cR S12 75 t0 z10 → hasO S13 t0 11 ∧ ∀ z14 : Option Nat, z14 = S13.2.1 72 t0 → hasO S13 t0 11 ∧ ∀ z15 : Option Nat, z15 = S13.2.1 74 t0 → ∃ q16 : Nat, z14 = some q16 ∧ ∃ q17 : Nat, z15 = some q17 ∧ hasO S13 q16 1 ∧ wp_X1_open q16 q17 S13 (fun (S18 : kS) => hasO S18 t0 11 ∧ ∀ z19 : Option Nat, z19 = S18.2.1 73 t0 → ∃ q20 : Nat, z19 = some q20 ∧ hasO S18 q20 6 ∧ ∀ z21 : Option Nat, z21 = S18.2.1 40 q20 → ∃ q22 : Nat, z21 = some q22 ∧ hasO S18 q22 0 ∧ wp_X0_clear q22 S18 (fun (S23 : kS) => K S23 r8))))))
theorem cw_X11_73 {R : Room} {s : State} {args : Array Value} {fr lo : Nat} (hts : ∀ w ∈ tb, w.before args s = true) (h1 : fr + 1 ≤ R.frames) (h2 : 8 + (3 + 11) + lo ≤ R.locals) : CallW R s args RX11 RX3 73 yX3_read cX3_read 3 (some .int) (.code yX3_read cX3_read 3 (some .int) :: tb) (mRm fr lo) 0 0 1 := cwV 1 hts (gd_V wd_596 wd_597 wd_598 wd_7 wd_599) rfl rfl rfl (by decide +kernel) ⟨h1, h2⟩
theorem cw_X11_58 {R : Room} {s : State} {args : Array Value} {fr lo : Nat} (hts : ∀ w ∈ tb, w.before args s = true) (h1 : fr + 1 ≤ R.frames) (h2 : 8 + (3 + 11) + lo ≤ R.locals) : CallW R s args RX11 RX1 58 yX1_open cX1_open 3 none (.code yX1_open cX1_open 3 none :: tb) (mRm fr lo) 0 0 1 := cwV 1 hts (gd_V wd_462 wd_463 wd_464 wd_9 wd_465) rfl rfl rfl (by decide +kernel) ⟨h1, h2⟩
theorem cw_X11_80 {R : Room} {s : State} {args : Array Value} {fr lo : Nat} (hts : ∀ w ∈ tb, w.before args s = true) (h1 : fr + 1 ≤ R.frames) (h2 : 8 + (1 + 11) + lo ≤ R.locals) : CallW R s args RX11 RX0 80 yX0_clear cX0_clear 1 none (.code yX0_clear cX0_clear 1 none :: tb) (mRm fr lo) 0 0 0 := cwV 0 hts (gd_V wd_775 wd_475 wd_476 wd_11 wd_477) rfl rfl rfl (by decide +kernel) ⟨h1, h2⟩
set_option maxHeartbeats 4000000 in
set_option maxRecDepth 100000 in
theorem kt_X11_program (l : Launch) (S : kS) (t0 : Nat) (K : kS → Int32 → Prop) (h : wp_X11_program t0 S K) : kMi l yX11_program cX11_program 3 (some .int) 135 3153 [.ref t0] S K := by
  refine kv_ofi (own := RX11) (by decide) rfl (Nat.le_of_ble_eq_true rfl) ?_
  intro E p e R s m args below meth c A ls Q hRf hRl hX hC hl hret
  have hx := hX.1.1
  have hb := hX.1.2.1
  have hown := hX.1.2.2.2.1
  have hts := hX.1.2.2.2.2
  have hl : lv_has ls 3 [(0, .ref t0)] := hl
  unfold wp_X11_program at h
  refine lv_aload_n hx hb dX11_program_0 rfl (lv_at hl 0 rfl) ?_
  refine cq_getr (ci := 11) (k := 0) (f := 69) hX hC rfl in_X11 (by decide) wd_478 (fun _ h9 => h9) (fun _ _ => rfl) dX11_program_1 h (fun z1 h => ?_)
  obtain ⟨q2, e9, hh⟩ := h
  subst e9
  have h := hh
  clear hh
  refine kv_callv [] (rest := []) (ci := 10) rfl hX hC h.1 (kt_X10_read l S q2 _ h.2 E _) (cw_X11_70 hts (by omega) (by omega)) rfl hl.1 (Nat.le_of_ble_eq_true rfl) ⟨Nat.zero_le _, Nat.zero_le _⟩ dX11_program_4 (fun S3 H locs hC h => ?_)
  refine lv_aload_n hx hb dX11_program_7 rfl (lv_at hl 0 rfl) ?_
  refine cq_getr (ci := 11) (k := 1) (f := 70) hX hC rfl in_X11 (by decide) wd_479 (fun _ h9 => h9) (fun _ _ => rfl) dX11_program_8 h (fun z4 h => ?_)
  refine lv_aload_n hx hb dX11_program_11 rfl (lv_at hl 0 rfl) ?_
  refine cq_getr (ci := 11) (k := 6) (f := 75) hX hC rfl in_X11 (by decide) wd_484 (fun _ h9 => h9) (fun _ _ => rfl) dX11_program_12 h (fun z5 h => ?_)
  obtain ⟨q6, e9, hh⟩ := h
  subst e9
  have h := hh
  clear hh
  obtain ⟨q7, e9, hh⟩ := h
  subst e9
  have h := hh
  clear hh
  refine kv_calli [.ref q7] (rest := []) (ci := 3) rfl hX hC h.1 (kt_X3_read l S3 q6 q7 _ h.2 E _) (cw_X11_73 hts (by omega) (by omega)) rfl hl.1 (Nat.le_of_ble_eq_true rfl) ⟨Nat.zero_le _, Nat.zero_le _⟩ dX11_program_15 (fun r8 S8 H locs hC h => ?_)
  refine lv_istore_n (lv' := [(1, .int r8), (0, .ref t0)]) hx hb dX11_program_18 rfl hl (by decide) rfl (fun ls hl => ?_)
  refine lv_iload_n hx hb dX11_program_19 rfl (lv_at hl 0 rfl) ?_
  refine lv_if_ne (tgt := 62) hx hb dX11_program_20 (by decide) (fun c9 => ?_) (fun c9 => ?_)
  · have h := h.1 c9
    refine lv_iload_n hx hb dX11_program_62 rfl (lv_at hl 0 rfl) ?_
    exact hret _ _ _ _ _ _ hC h dX11_program_63
  · have h := h.2 c9
    refine lv_aload_n hx hb dX11_program_23 rfl (lv_at hl 1 rfl) ?_
    refine cq_getr (ci := 11) (k := 5) (f := 74) hX hC rfl in_X11 (by decide) wd_483 (fun _ h9 => h9) (fun _ _ => rfl) dX11_program_24 h (fun z10 h => ?_)
    refine lo_astore_n (lv' := [(2, va_rf z10), (1, .int r8), (0, .ref t0)]) hx hb dX11_program_27 rfl hl (by decide) (by rcases z10 with _ | _ <;> rfl) (fun ls hl => ?_)
    refine lv_aload_n hx hb dX11_program_28 rfl (lv_at hl 2 rfl) ?_
    refine lv_aload_n hx hb dX11_program_29 rfl (lv_at hl 2 rfl) ?_
    refine cq_getr (ci := 11) (k := 6) (f := 75) hX hC rfl in_X11 (by decide) wd_484 (fun _ h9 => h9) (fun _ _ => rfl) dX11_program_30 h (fun z11 h => ?_)
    refine cq_putr (v := z11) (ci := 11) (k := 5) (f := 74) hX hC rfl in_X11 (by decide) wd_483 (fun _ h9 => h9) tyX11 tyX11_ok nmX11 rfl rfl (fun _ _ => Nat.le_of_ble_eq_true rfl) (fun _ _ _ => rfl) dX11_program_33 h.1 h.2 (fun S12 H locs hC h => ?_)
    refine lv_aload_n hx hb dX11_program_36 rfl (lv_at hl 2 rfl) ?_
    refine lo_aload_n hx hb dX11_program_37 rfl (lv_at hl 0 rfl) ?_
    refine cq_putr (v := z10) (ci := 11) (k := 6) (f := 75) hX hC rfl in_X11 (by decide) wd_484 (fun _ h9 => h9) tyX11 tyX11_ok nmX11 rfl rfl (fun _ _ => Nat.le_of_ble_eq_true rfl) (fun _ _ _ => rfl) dX11_program_38 h.1 h.2 (fun S13 H locs hC h => ?_)
    refine lv_aload_n hx hb dX11_program_41 rfl (lv_at hl 2 rfl) ?_
    refine cq_getr (ci := 11) (k := 3) (f := 72) hX hC rfl in_X11 (by decide) wd_481 (fun _ h9 => h9) (fun _ _ => rfl) dX11_program_42 h (fun z14 h => ?_)
    refine lv_aload_n hx hb dX11_program_45 rfl (lv_at hl 2 rfl) ?_
    refine cq_getr (ci := 11) (k := 5) (f := 74) hX hC rfl in_X11 (by decide) wd_483 (fun _ h9 => h9) (fun _ _ => rfl) dX11_program_46 h (fun z15 h => ?_)
    obtain ⟨q16, e9, hh⟩ := h
    subst e9
    have h := hh
    clear hh
    obtain ⟨q17, e9, hh⟩ := h
    subst e9
    have h := hh
    clear hh
    refine kv_callv [.ref q17] (rest := []) (ci := 1) rfl hX hC h.1 (kt_X1_open l S13 q16 q17 _ h.2 E _) (cw_X11_58 hts (by omega) (by omega)) rfl hl.1 (Nat.le_of_ble_eq_true rfl) ⟨Nat.zero_le _, Nat.zero_le _⟩ dX11_program_49 (fun S18 H locs hC h => ?_)
    refine lv_aload_n hx hb dX11_program_52 rfl (lv_at hl 2 rfl) ?_
    refine cq_getr (ci := 11) (k := 4) (f := 73) hX hC rfl in_X11 (by decide) wd_482 (fun _ h9 => h9) (fun _ _ => rfl) dX11_program_53 h (fun z19 h => ?_)
    obtain ⟨q20, e9, hh⟩ := h
    subst e9
    have h := hh
    clear hh
    refine cq_getr (ci := 6) (k := 2) (f := 40) hX hC rfl in_X6 (by decide) wd_306 (fun _ h9 => h9) (fun _ _ => rfl) dX11_program_56 h (fun z21 h => ?_)
    obtain ⟨q22, e9, hh⟩ := h
    subst e9
    have h := hh
    clear hh
    refine kv_callv [] (rest := []) (ci := 0) rfl hX hC h.1 (kt_X0_clear l S18 q22 _ h.2 E _) (cw_X11_80 hts (by omega) (by omega)) rfl hl.1 (Nat.le_of_ble_eq_true rfl) ⟨Nat.zero_le _, Nat.zero_le _⟩ dX11_program_59 (fun S23 H locs hC h => ?_)
    refine lv_iload_n hx hb dX11_program_62 rfl (lv_at hl 1 rfl) ?_
    exact hret _ _ _ _ _ _ hC h dX11_program_63
theorem km_X10_read_104 {K K' : kS → Prop} {S0 : kS} (hk : ∀ S1, KF [40, 41] [] [64, 65] [66] [] S0 S1 → K S1 → K' S1) {x0 : Nat} {S : kS} (hF : KF [40, 41] [] [64, 65] [66] [] S0 S) (h : wp_X10_read_104 K x0 S) : wp_X10_read_104 K' x0 S := by
  unfold wp_X10_read_104 at h ⊢
  refine ⟨h.1, ?_⟩
  replace h := h.2
  intro z21 ez21
  replace h := h z21 ez21
  refine ⟨h.1, ?_⟩
  replace h := h.2
  refine km_X10_keep _ _ _ _ _ _ _ (fun S22 hG h => ?_) h
  replace hF := KF_t hF hG (by decide) (by decide) (by decide) (by decide) (by decide) (by decide) (by decide) (by decide)
  refine ⟨h.1, ?_⟩
  replace h := h.2
  intro S23 eS23
  replace h := h S23 eS23
  replace hF := KF_i hF eS23 (by decide)
  exact hk _ hF h
theorem km_X10_read_98 {K K' : kS → Prop} {k9 k9' : Nat × Int32 × Int32 × kS → Prop} {S0 : kS} (hk : ∀ S1, KF [40, 41] [] [64, 65] [66] [] S0 S1 → K S1 → K' S1) (hk9 : ∀ u : Nat × Int32 × Int32 × kS, KF [40, 41] [] [64, 65] [66] [] S0 u.2.2.2 → k9 u → k9' u) {x0 : Nat} {x1 : Int32} {x2 : Int32} {S : kS} (hF : KF [40, 41] [] [64, 65] [66] [] S0 S) (h : wp_X10_read_98 K k9 x0 x1 x2 S) : wp_X10_read_98 K' k9' x0 x1 x2 S := by
  unfold wp_X10_read_98 at h ⊢
  intro z18 ez18
  replace h := h z18 ez18
  exact hk9 _ hF h
theorem km_X10_read_95 {K K' : kS → Prop} {k9 k9' : Nat × Int32 × Int32 × kS → Prop} {S0 : kS} (hk : ∀ S1, KF [40, 41] [] [64, 65] [66] [] S0 S1 → K S1 → K' S1) (hk9 : ∀ u : Nat × Int32 × Int32 × kS, KF [40, 41] [] [64, 65] [66] [] S0 u.2.2.2 → k9 u → k9' u) {x0 : Nat} {x1 : Int32} {x2 : Int32} {S : kS} (hF : KF [40, 41] [] [64, 65] [66] [] S0 S) (h : wp_X10_read_95 K k9 x0 x1 x2 S) : wp_X10_read_95 K' k9' x0 x1 x2 S := by
  unfold wp_X10_read_95 at h ⊢
  intro z20 ez20
  replace h := h z20 ez20
  exact km_X10_read_98 hk hk9 hF h
theorem km_X10_read_90 {K K' : kS → Prop} {k9 k9' : Nat × Int32 × Int32 × kS → Prop} {S0 : kS} (hk : ∀ S1, KF [40, 41] [] [64, 65] [66] [] S0 S1 → K S1 → K' S1) (hk9 : ∀ u : Nat × Int32 × Int32 × kS, KF [40, 41] [] [64, 65] [66] [] S0 u.2.2.2 → k9 u → k9' u) {x0 : Nat} {x1 : Int32} {x2 : Int32} {y0 : Nat} {y1 : Int32} {S : kS} (hF : KF [40, 41] [] [64, 65] [66] [] S0 S) (h : wp_X10_read_90 K k9 x0 x1 x2 y0 y1 S) : wp_X10_read_90 K' k9' x0 x1 x2 y0 y1 S := by
  unfold wp_X10_read_90 at h ⊢
  refine ⟨h.1, ?_⟩
  replace h := h.2
  refine km_X10_keep _ _ _ _ _ _ _ (fun S19 hG h => ?_) h
  replace hF := KF_t hF hG (by decide) (by decide) (by decide) (by decide) (by decide) (by decide) (by decide) (by decide)
  exact km_X10_read_95 hk hk9 hF h
theorem km_X10_read_9 {K K' : kS → Prop} {k9 k9' : Nat × Int32 × Int32 × kS → Prop} {S0 : kS} (hk : ∀ S1, KF [40, 41] [] [64, 65] [66] [] S0 S1 → K S1 → K' S1) (hk9 : ∀ u : Nat × Int32 × Int32 × kS, KF [40, 41] [] [64, 65] [66] [] S0 u.2.2.2 → k9 u → k9' u) {x0 : Nat} {x1 : Int32} {x2 : Int32} {S : kS} (hF : KF [40, 41] [] [64, 65] [66] [] S0 S) (h : wp_X10_read_9 K k9 x0 x1 x2 S) : wp_X10_read_9 K' k9' x0 x1 x2 S := by
  unfold wp_X10_read_9 at h ⊢
  refine ⟨fun c => ?_, fun c => ?_⟩
  · replace h := h.1 c
    exact km_X10_read_104 hk hF h
  · replace h := h.2 c
    refine ⟨h.1, ?_⟩
    replace h := h.2
    intro z3 ez3
    replace h := h z3 ez3
    refine ⟨fun c => ?_, fun c => ?_⟩
    · replace h := h.1 c
      exact km_X10_read_104 hk hF h
    · replace h := h.2 c
      refine ⟨h.1, ?_⟩
      replace h := h.2
      intro z5 ez5
      replace h := h z5 ez5
      obtain ⟨q6, eq6, h9⟩ := h
      replace h := h9
      clear h9
      refine ⟨q6, eq6, ?_⟩
      refine ⟨h.1, ?_⟩
      replace h := h.2
      refine ⟨h.1, ?_⟩
      replace h := h.2
      intro z7 ez7
      replace h := h z7 ez7
      refine km_X10_isLetter _ _ _ _ (fun S8 r8 hG h => ?_) h
      replace hF := KF_t hF hG (by decide) (by decide) (by decide) (by decide) (by decide) (by decide) (by decide) (by decide)
      refine ⟨fun c => ?_, fun c => ?_⟩
      · replace h := h.1 c
        refine km_X10_isDigit _ _ _ _ (fun S10 r10 hG h => ?_) h
        replace hF := KF_t hF hG (by decide) (by decide) (by decide) (by decide) (by decide) (by decide) (by decide) (by decide)
        refine ⟨fun c => ?_, fun c => ?_⟩
        · replace h := h.1 c
          refine ⟨fun c => ?_, fun c => ?_⟩
          · replace h := h.1 c
            exact km_X10_read_95 hk hk9 hF h
          · replace h := h.2 c
            refine ⟨fun c => ?_, fun c => ?_⟩
            · replace h := h.1 c
              exact km_X10_read_95 hk hk9 hF h
            · replace h := h.2 c
              intro r14
              replace h := h r14
              refine ⟨fun c => ?_, fun c => ?_⟩
              · replace h := h.1 c
                exact km_X10_read_90 hk hk9 hF h
              · replace h := h.2 c
                exact km_X10_read_90 hk hk9 hF h
        · replace h := h.2 c
          refine ⟨h.1, ?_⟩
          replace h := h.2
          refine km_X10_readNumber _ _ _ _ _ (fun S16 r16 hG h => ?_) h
          replace hF := KF_t hF hG (by decide) (by decide) (by decide) (by decide) (by decide) (by decide) (by decide) (by decide)
          exact km_X10_read_98 hk hk9 hF h
      · replace h := h.2 c
        refine ⟨h.1, ?_⟩
        replace h := h.2
        refine km_X10_readWord _ _ _ _ _ (fun S17 r17 hG h => ?_) h
        replace hF := KF_t hF hG (by decide) (by decide) (by decide) (by decide) (by decide) (by decide) (by decide) (by decide)
        exact km_X10_read_98 hk hk9 hF h
theorem kml_X10_read_9 {K K' : kS → Prop} {S0 : kS} (hk : ∀ S1, KF [40, 41] [] [64, 65] [66] [] S0 S1 → K S1 → K' S1) : ∀ (n : Nat) (u : Nat × Int32 × Int32 × kS), KF [40, 41] [] [64, 65] [66] [] S0 u.2.2.2 → it (ls_X10_read_9 K) n u → it (ls_X10_read_9 K') n u := by
  intro n
  induction n with
  | zero => exact fun _ _ h => h
  | succ n ih => exact fun u hF h => km_X10_read_9 hk ih hF h
theorem km_X10_read (t0 : Nat) : KmV [40, 41] [] [64, 65] [66] [] (wp_X10_read t0) := by
  intro S0 K K' hk h
  have hF : KF [40, 41] [] [64, 65] [66] [] S0 S0 := KF_rf
  unfold wp_X10_read at h ⊢
  refine ⟨h.1, ?_⟩
  replace h := h.2
  intro S1 eS1
  replace h := h S1 eS1
  replace hF := KF_i hF eS1 (by decide)
  obtain ⟨n9, h⟩ := h
  exact ⟨n9, kml_X10_read_9 hk n9 _ hF h⟩
theorem km_X11_named (t0 : Nat) (a0 : Int32) : KmI [40, 41] [] [64, 65] [66] [] (wp_X11_named t0 a0) := by
  intro S0 K K' hk h
  have hF : KF [40, 41] [] [64, 65] [66] [] S0 S0 := KF_rf
  unfold wp_X11_named at h ⊢
  refine ⟨h.1, ?_⟩
  replace h := h.2
  intro z1 ez1
  replace h := h z1 ez1
  obtain ⟨q2, eq2, h9⟩ := h
  replace h := h9
  clear h9
  refine ⟨q2, eq2, ?_⟩
  refine ⟨h.1, ?_⟩
  replace h := h.2
  refine km_X10_read _ _ _ _ (fun S3 hG h => ?_) h
  replace hF := KF_t hF hG (by decide) (by decide) (by decide) (by decide) (by decide) (by decide) (by decide) (by decide)
  refine ⟨h.1, ?_⟩
  replace h := h.2
  intro z4 ez4
  replace h := h z4 ez4
  obtain ⟨q5, eq5, h9⟩ := h
  replace h := h9
  clear h9
  refine ⟨q5, eq5, ?_⟩
  refine ⟨h.1, ?_⟩
  replace h := h.2
  refine km_X10_onlyWord _ _ _ _ (fun S6 r6 hG h => ?_) h
  replace hF := KF_t hF hG (by decide) (by decide) (by decide) (by decide) (by decide) (by decide) (by decide) (by decide)
  intro z7 ez7
  replace h := h z7 ez7
  refine ⟨fun c => ?_, fun c => ?_⟩
  · replace h := h.1 c
    refine ⟨fun c => ?_, fun c => ?_⟩
    · replace h := h.1 c
      refine ⟨h.1, ?_⟩
      replace h := h.2
      intro z10 ez10
      replace h := h z10 ez10
      obtain ⟨q11, eq11, h9⟩ := h
      replace h := h9
      clear h9
      refine ⟨q11, eq11, ?_⟩
      refine ⟨h.1, ?_⟩
      replace h := h.2
      refine km_X5_cellNamed _ _ _ _ _ _ (fun S12 r12 hG h => ?_) h
      replace hF := KF_t hF hG (by decide) (by decide) (by decide) (by decide) (by decide) (by decide) (by decide) (by decide)
      exact hk _ _ hF h
    · replace h := h.2 c
      refine ⟨h.1, ?_⟩
      replace h := h.2
      intro z13 ez13
      replace h := h z13 ez13
      obtain ⟨q14, eq14, h9⟩ := h
      replace h := h9
      clear h9
      refine ⟨q14, eq14, ?_⟩
      refine ⟨h.1, ?_⟩
      replace h := h.2
      refine km_X5_routineNamed _ _ _ _ _ (fun S15 r15 hG h => ?_) h
      replace hF := KF_t hF hG (by decide) (by decide) (by decide) (by decide) (by decide) (by decide) (by decide) (by decide)
      exact hk _ _ hF h
  · replace h := h.2 c
    exact hk _ _ hF h
theorem km_X11_program (t0 : Nat) : KmI [0, 1, 2, 3, 4, 6, 7, 8, 9, 10, 11, 17, 18, 24, 25, 40, 41] [2, 11, 12, 13, 15, 16, 24, 61, 62, 63, 74, 75] [6, 17, 18, 19, 28, 29, 30, 32, 33, 34, 35, 36, 37, 43, 44, 45, 46, 47, 48, 49, 50, 51, 52, 64, 65] [20, 38, 39, 66] [] (wp_X11_program t0) := by
  intro S0 K K' hk h
  have hF : KF [0, 1, 2, 3, 4, 6, 7, 8, 9, 10, 11, 17, 18, 24, 25, 40, 41] [2, 11, 12, 13, 15, 16, 24, 61, 62, 63, 74, 75] [6, 17, 18, 19, 28, 29, 30, 32, 33, 34, 35, 36, 37, 43, 44, 45, 46, 47, 48, 49, 50, 51, 52, 64, 65] [20, 38, 39, 66] [] S0 S0 := KF_rf
  unfold wp_X11_program at h ⊢
  refine ⟨h.1, ?_⟩
  replace h := h.2
  intro z1 ez1
  replace h := h z1 ez1
  obtain ⟨q2, eq2, h9⟩ := h
  replace h := h9
  clear h9
  refine ⟨q2, eq2, ?_⟩
  refine ⟨h.1, ?_⟩
  replace h := h.2
  refine km_X10_read _ _ _ _ (fun S3 hG h => ?_) h
  replace hF := KF_t hF hG (by decide) (by decide) (by decide) (by decide) (by decide) (by decide) (by decide) (by decide)
  refine ⟨h.1, ?_⟩
  replace h := h.2
  intro z4 ez4
  replace h := h z4 ez4
  refine ⟨h.1, ?_⟩
  replace h := h.2
  intro z5 ez5
  replace h := h z5 ez5
  obtain ⟨q6, eq6, h9⟩ := h
  replace h := h9
  clear h9
  refine ⟨q6, eq6, ?_⟩
  obtain ⟨q7, eq7, h9⟩ := h
  replace h := h9
  clear h9
  refine ⟨q7, eq7, ?_⟩
  refine ⟨h.1, ?_⟩
  replace h := h.2
  refine km_X3_read _ _ _ _ _ (fun S8 r8 hG h => ?_) h
  replace hF := KF_t hF hG (by decide) (by decide) (by decide) (by decide) (by decide) (by decide) (by decide) (by decide)
  refine ⟨fun c => ?_, fun c => ?_⟩
  · replace h := h.1 c
    exact hk _ _ hF h
  · replace h := h.2 c
    refine ⟨h.1, ?_⟩
    replace h := h.2
    intro z10 ez10
    replace h := h z10 ez10
    refine ⟨h.1, ?_⟩
    replace h := h.2
    intro z11 ez11
    replace h := h z11 ez11
    refine ⟨h.1, ?_⟩
    replace h := h.2
    intro S12 eS12
    replace h := h S12 eS12
    replace hF := KF_r hF eS12 (by decide)
    refine ⟨h.1, ?_⟩
    replace h := h.2
    intro S13 eS13
    replace h := h S13 eS13
    replace hF := KF_r hF eS13 (by decide)
    refine ⟨h.1, ?_⟩
    replace h := h.2
    intro z14 ez14
    replace h := h z14 ez14
    refine ⟨h.1, ?_⟩
    replace h := h.2
    intro z15 ez15
    replace h := h z15 ez15
    obtain ⟨q16, eq16, h9⟩ := h
    replace h := h9
    clear h9
    refine ⟨q16, eq16, ?_⟩
    obtain ⟨q17, eq17, h9⟩ := h
    replace h := h9
    clear h9
    refine ⟨q17, eq17, ?_⟩
    refine ⟨h.1, ?_⟩
    replace h := h.2
    refine km_X1_open _ _ _ _ _ (fun S18 hG h => ?_) h
    replace hF := KF_t hF hG (by decide) (by decide) (by decide) (by decide) (by decide) (by decide) (by decide) (by decide)
    refine ⟨h.1, ?_⟩
    replace h := h.2
    intro z19 ez19
    replace h := h z19 ez19
    obtain ⟨q20, eq20, h9⟩ := h
    replace h := h9
    clear h9
    refine ⟨q20, eq20, ?_⟩
    refine ⟨h.1, ?_⟩
    replace h := h.2
    intro z21 ez21
    replace h := h z21 ez21
    obtain ⟨q22, eq22, h9⟩ := h
    replace h := h9
    clear h9
    refine ⟨q22, eq22, ?_⟩
    refine ⟨h.1, ?_⟩
    replace h := h.2
    refine km_X0_clear _ _ _ _ (fun S23 hG h => ?_) h
    replace hF := KF_t hF hG (by decide) (by decide) (by decide) (by decide) (by decide) (by decide) (by decide) (by decide)
    exact hk _ _ hF h
