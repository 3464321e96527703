theorem wd_861 : (Jvm.Cond.fieldLink "Sleepers$Task" (21 : Nat) "Sleepers$Task" "number" "I") ∈ tb := tb_at 861 (by decide +kernel) (by decide +kernel)
theorem wd_866 : (Jvm.Cond.fieldLink "Sleepers$Task" (38 : Nat) "Sleepers$Task" "routine" "I") ∈ tb := tb_at 866 (by decide +kernel) (by decide +kernel)
theorem wd_869 : (Jvm.Cond.fieldLink "Sleepers$Task" (34 : Nat) "Sleepers$Task" "parent" "LSleepers$Task;") ∈ tb := tb_at 869 (by decide +kernel) (by decide +kernel)
theorem wd_874 : (Jvm.Cond.fieldLink "Sleepers$Task" (25 : Nat) "Sleepers$Task" "state" "I") ∈ tb := tb_at 874 (by decide +kernel) (by decide +kernel)
theorem wd_876 : (Jvm.Cond.fieldLink "Sleepers$Task" (28 : Nat) "Sleepers$Task" "how" "I") ∈ tb := tb_at 876 (by decide +kernel) (by decide +kernel)
theorem wd_879 : (Jvm.Cond.fieldLink "Sleepers$Task" (31 : Nat) "Sleepers$Task" "result" "I") ∈ tb := tb_at 879 (by decide +kernel) (by decide +kernel)
theorem wd_882 : (Jvm.Cond.fieldLink "Sleepers$Task" (41 : Nat) "Sleepers$Task" "at" "I") ∈ tb := tb_at 882 (by decide +kernel) (by decide +kernel)
theorem wd_885 : (Jvm.Cond.fieldLink "Sleepers$Runner" (79 : Nat) "Sleepers$Task" "turns" "I") ∈ tb := tb_at 885 (by decide +kernel) (by decide +kernel)
theorem wd_886 : (Jvm.Cond.fieldLink "Sleepers$Task" (44 : Nat) "Sleepers$Task" "turns" "I") ∈ tb := tb_at 886 (by decide +kernel) (by decide +kernel)
theorem wd_888 : (Jvm.Cond.fieldLink "Sleepers$Task" (47 : Nat) "Sleepers$Task" "cancelled" "Z") ∈ tb := tb_at 888 (by decide +kernel) (by decide +kernel)
theorem wd_904 : (Jvm.Cond.fieldLink "Sleepers$Runner" (68 : Nat) "Sleepers$Task" "outcome" "I") ∈ tb := tb_at 904 (by decide +kernel) (by decide +kernel)
theorem wd_906 : (Jvm.Cond.fieldLink "Sleepers$Runner" (95 : Nat) "Sleepers$Task" "value" "I") ∈ tb := tb_at 906 (by decide +kernel) (by decide +kernel)
theorem wd_973 : (Jvm.Cond.methodLink "Sleepers$Runner" (71 : Nat) ({ cls := "Sleepers$Hall", name := "takeBack", desc := "(LSleepers$Task;)V" } : Jvm.MethodName)) ∈ tb := tb_at 973 (by decide +kernel) (by decide +kernel)
theorem wd_974 : (Jvm.Cond.methodLink "Sleepers$Runner" (89 : Nat) ({ cls := "Sleepers$Program", name := "scopeAt", desc := "(I)I" } : Jvm.MethodName)) ∈ tb := tb_at 974 (by decide +kernel) (by decide +kernel)
theorem wd_975 : (Jvm.Cond.instanceMethod ({ cls := "Sleepers$Program", name := "scopeAt", desc := "(I)I" } : Jvm.MethodName)) ∈ tb := tb_at 975 (by decide +kernel) (by decide +kernel)
theorem wd_976 : (Jvm.Cond.selects "Sleepers$Program" ({ cls := "Sleepers$Program", name := "scopeAt", desc := "(I)I" } : Jvm.MethodName) ({ cls := "Sleepers$Program", name := "scopeAt", desc := "(I)I" } : Jvm.MethodName)) ∈ tb := tb_at 976 (by decide +kernel) (by decide +kernel)
theorem wd_977 : (Jvm.Cond.code ({ cls := "Sleepers$Program", name := "scopeAt", desc := "(I)I" } : Jvm.MethodName) prog_7_method_5_code (2 : Nat) (Option.some Jvm.ClassFile.FieldType.int)) ∈ tb := tb_at 977 (by decide +kernel) (by decide +kernel)
theorem dX6_wake_0 : decode cX6_wake 0 = .ok (.aload_n 1, 1) := by decide +kernel
theorem dX6_wake_1 : decode cX6_wake 1 = .ok (.getfield 68, 3) := by decide +kernel
theorem dX6_wake_4 : decode cX6_wake 4 = .ok (.istore_n 2, 1) := by decide +kernel
theorem dX6_wake_5 : decode cX6_wake 5 = .ok (.aload_n 0, 1) := by decide +kernel
theorem dX6_wake_6 : decode cX6_wake 6 = .ok (.getfield 22, 3) := by decide +kernel
theorem dX6_wake_9 : decode cX6_wake 9 = .ok (.aload_n 1, 1) := by decide +kernel
theorem dX6_wake_10 : decode cX6_wake 10 = .ok (.invokevirtual 71, 3) := by decide +kernel
theorem dX6_wake_13 : decode cX6_wake 13 = .ok (.aload_n 1, 1) := by decide +kernel
theorem dX6_wake_14 : decode cX6_wake 14 = .ok (.iconst 0, 1) := by decide +kernel
theorem dX6_wake_15 : decode cX6_wake 15 = .ok (.putfield 68, 3) := by decide +kernel
theorem dX6_wake_18 : decode cX6_wake 18 = .ok (.aload_n 1, 1) := by decide +kernel
theorem dX6_wake_19 : decode cX6_wake 19 = .ok (.iconst 4, 1) := by decide +kernel
theorem dX6_wake_20 : decode cX6_wake 20 = .ok (.putfield 76, 3) := by decide +kernel
theorem dX6_wake_23 : decode cX6_wake 23 = .ok (.aload_n 1, 1) := by decide +kernel
theorem dX6_wake_24 : decode cX6_wake 24 = .ok (.dup, 1) := by decide +kernel
theorem dX6_wake_25 : decode cX6_wake 25 = .ok (.getfield 79, 3) := by decide +kernel
theorem dX6_wake_28 : decode cX6_wake 28 = .ok (.iconst 1, 1) := by decide +kernel
theorem dX6_wake_29 : decode cX6_wake 29 = .ok (.iadd, 1) := by decide +kernel
theorem dX6_wake_30 : decode cX6_wake 30 = .ok (.putfield 79, 3) := by decide +kernel
theorem dX6_wake_33 : decode cX6_wake 33 = .ok (.aload_n 1, 1) := by decide +kernel
theorem dX6_wake_34 : decode cX6_wake 34 = .ok (.getfield 79, 3) := by decide +kernel
theorem dX6_wake_37 : decode cX6_wake 37 = .ok (.iconst 1, 1) := by decide +kernel
theorem dX6_wake_38 : decode cX6_wake 38 = .ok (.if_icmp .ne 4, 3) := by decide +kernel
theorem dX6_wake_41 : decode cX6_wake 41 = .ok (.return_, 1) := by decide +kernel
theorem dX6_wake_42 : decode cX6_wake 42 = .ok (.aload_n 0, 1) := by decide +kernel
theorem dX6_wake_43 : decode cX6_wake 43 = .ok (.getfield 22, 3) := by decide +kernel
theorem dX6_wake_46 : decode cX6_wake 46 = .ok (.getfield 82, 3) := by decide +kernel
theorem dX6_wake_49 : decode cX6_wake 49 = .ok (.aload_n 1, 1) := by decide +kernel
theorem dX6_wake_50 : decode cX6_wake 50 = .ok (.getfield 86, 3) := by decide +kernel
theorem dX6_wake_53 : decode cX6_wake 53 = .ok (.invokevirtual 89, 3) := by decide +kernel
theorem dX6_wake_56 : decode cX6_wake 56 = .ok (.istore_n 3, 1) := by decide +kernel
theorem dX6_wake_57 : decode cX6_wake 57 = .ok (.iload_n 2, 1) := by decide +kernel
theorem dX6_wake_58 : decode cX6_wake 58 = .ok (.iconst 1, 1) := by decide +kernel
theorem dX6_wake_59 : decode cX6_wake 59 = .ok (.if_icmp .ne 24, 3) := by decide +kernel
theorem dX6_wake_62 : decode cX6_wake 62 = .ok (.aload_n 0, 1) := by decide +kernel
theorem dX6_wake_63 : decode cX6_wake 63 = .ok (.aload_n 1, 1) := by decide +kernel
theorem dX6_wake_64 : decode cX6_wake 64 = .ok (.getfield 95, 3) := by decide +kernel
theorem dX6_wake_67 : decode cX6_wake 67 = .ok (.invokevirtual 98, 3) := by decide +kernel
theorem dX6_wake_70 : decode cX6_wake 70 = .ok (.aload_n 1, 1) := by decide +kernel
theorem dX6_wake_71 : decode cX6_wake 71 = .ok (.dup, 1) := by decide +kernel
theorem dX6_wake_72 : decode cX6_wake 72 = .ok (.getfield 86, 3) := by decide +kernel
theorem dX6_wake_75 : decode cX6_wake 75 = .ok (.iconst 1, 1) := by decide +kernel
theorem dX6_wake_76 : decode cX6_wake 76 = .ok (.iadd, 1) := by decide +kernel
theorem dX6_wake_77 : decode cX6_wake 77 = .ok (.putfield 86, 3) := by decide +kernel
theorem dX6_wake_80 : decode cX6_wake 80 = .ok (.goto 30, 3) := by decide +kernel
theorem dX6_wake_83 : decode cX6_wake 83 = .ok (.iload_n 2, 1) := by decide +kernel
theorem dX6_wake_84 : decode cX6_wake 84 = .ok (.iconst 2, 1) := by decide +kernel
theorem dX6_wake_85 : decode cX6_wake 85 = .ok (.if_icmp .ne 17, 3) := by decide +kernel
theorem dX6_wake_88 : decode cX6_wake 88 = .ok (.aload_n 0, 1) := by decide +kernel
theorem dX6_wake_89 : decode cX6_wake 89 = .ok (.aload_n 1, 1) := by decide +kernel
theorem dX6_wake_90 : decode cX6_wake 90 = .ok (.iconst 4, 1) := by decide +kernel
theorem dX6_wake_91 : decode cX6_wake 91 = .ok (.aload_n 1, 1) := by decide +kernel
theorem dX6_wake_92 : decode cX6_wake 92 = .ok (.getfield 95, 3) := by decide +kernel
theorem dX6_wake_95 : decode cX6_wake 95 = .ok (.iload_n 3, 1) := by decide +kernel
theorem dX6_wake_96 : decode cX6_wake 96 = .ok (.invokevirtual 102, 3) := by decide +kernel
theorem dX6_wake_99 : decode cX6_wake 99 = .ok (.goto 11, 3) := by decide +kernel
theorem dX6_wake_102 : decode cX6_wake 102 = .ok (.aload_n 0, 1) := by decide +kernel
theorem dX6_wake_103 : decode cX6_wake 103 = .ok (.aload_n 1, 1) := by decide +kernel
theorem dX6_wake_104 : decode cX6_wake 104 = .ok (.iconst 5, 1) := by decide +kernel
theorem dX6_wake_105 : decode cX6_wake 105 = .ok (.iconst 0, 1) := by decide +kernel
theorem dX6_wake_106 : decode cX6_wake 106 = .ok (.iload_n 3, 1) := by decide +kernel
theorem dX6_wake_107 : decode cX6_wake 107 = .ok (.invokevirtual 102, 3) := by decide +kernel
theorem dX6_wake_110 : decode cX6_wake 110 = .ok (.return_, 1) := by decide +kernel
theorem dX9_tell_0 : decode cX9_tell 0 = .ok (.iload_n 1, 1) := by decide +kernel
theorem dX9_tell_1 : decode cX9_tell 1 = .ok (.tableswitch 92 0 6 #[43, 48, 53, 58, 77, 82, 87], 43) := by decide +kernel
theorem dX9_tell_44 : decode cX9_tell 44 = .ok (.aload_n 0, 1) := by decide +kernel
theorem dX9_tell_45 : decode cX9_tell 45 = .ok (.getfield 25, 3) := by decide +kernel
theorem dX9_tell_48 : decode cX9_tell 48 = .ok (.ireturn, 1) := by decide +kernel
theorem dX9_tell_49 : decode cX9_tell 49 = .ok (.aload_n 0, 1) := by decide +kernel
theorem dX9_tell_50 : decode cX9_tell 50 = .ok (.getfield 28, 3) := by decide +kernel
theorem dX9_tell_53 : decode cX9_tell 53 = .ok (.ireturn, 1) := by decide +kernel
theorem dX9_tell_54 : decode cX9_tell 54 = .ok (.aload_n 0, 1) := by decide +kernel
theorem dX9_tell_55 : decode cX9_tell 55 = .ok (.getfield 31, 3) := by decide +kernel
theorem dX9_tell_58 : decode cX9_tell 58 = .ok (.ireturn, 1) := by decide +kernel
theorem dX9_tell_59 : decode cX9_tell 59 = .ok (.aload_n 0, 1) := by decide +kernel
theorem dX9_tell_60 : decode cX9_tell 60 = .ok (.getfield 34, 3) := by decide +kernel
theorem dX9_tell_63 : decode cX9_tell 63 = .ok (.ifnonnull 7, 3) := by decide +kernel
theorem dX9_tell_66 : decode cX9_tell 66 = .ok (.iconst (-1), 1) := by decide +kernel
theorem dX9_tell_67 : decode cX9_tell 67 = .ok (.goto 10, 3) := by decide +kernel
theorem dX9_tell_70 : decode cX9_tell 70 = .ok (.aload_n 0, 1) := by decide +kernel
theorem dX9_tell_71 : decode cX9_tell 71 = .ok (.getfield 34, 3) := by decide +kernel
theorem dX9_tell_74 : decode cX9_tell 74 = .ok (.getfield 21, 3) := by decide +kernel
theorem dX9_tell_77 : decode cX9_tell 77 = .ok (.ireturn, 1) := by decide +kernel
theorem dX9_tell_78 : decode cX9_tell 78 = .ok (.aload_n 0, 1) := by decide +kernel
theorem dX9_tell_79 : decode cX9_tell 79 = .ok (.getfield 38, 3) := by decide +kernel
theorem dX9_tell_82 : decode cX9_tell 82 = .ok (.ireturn, 1) := by decide +kernel
theorem dX9_tell_83 : decode cX9_tell 83 = .ok (.aload_n 0, 1) := by decide +kernel
theorem dX9_tell_84 : decode cX9_tell 84 = .ok (.getfield 41, 3) := by decide +kernel
theorem dX9_tell_87 : decode cX9_tell 87 = .ok (.ireturn, 1) := by decide +kernel
theorem dX9_tell_88 : decode cX9_tell 88 = .ok (.aload_n 0, 1) := by decide +kernel
theorem dX9_tell_89 : decode cX9_tell 89 = .ok (.getfield 44, 3) := by decide +kernel
theorem dX9_tell_92 : decode cX9_tell 92 = .ok (.ireturn, 1) := by decide +kernel
theorem dX9_tell_93 : decode cX9_tell 93 = .ok (.aload_n 0, 1) := by decide +kernel
theorem dX9_tell_94 : decode cX9_tell 94 = .ok (.getfield 47, 3) := by decide +kernel
theorem dX9_tell_97 : decode cX9_tell 97 = .ok (.ifCond .eq 7, 3) := by decide +kernel
theorem dX9_tell_100 : decode cX9_tell 100 = .ok (.iconst 1, 1) := by decide +kernel
theorem dX9_tell_101 : decode cX9_tell 101 = .ok (.goto 4, 3) := by decide +kernel
theorem dX9_tell_104 : decode cX9_tell 104 = .ok (.iconst 0, 1) := by decide +kernel
theorem dX9_tell_105 : decode cX9_tell 105 = .ok (.ireturn, 1) := by decide +kernel
def wp_X6_wake (t0 : Nat) (a0 : Nat) (S : kS) (K : kS → Prop) : Prop := hasO S a0 9 ∧ ∀ z1 : Int32, z1 = S.1 38 a0 → hasO S t0 6 ∧ ∀ z2 : Option Nat, z2 = S.2.1 41 t0 → ∃ q3 : Nat, z2 = some q3 ∧ hasO S q3 1 ∧ wp_X1_takeBack q3 a0 S (fun (S4 : kS) => hasO S4 a0 9 ∧ ∀ S5 : kS, S5 = cI S4 38 a0 0 → hasO S5 a0 9 ∧ ∀ S6 : kS, S6 = cI S5 30 a0 4 → hasO S6 a0 9 ∧ ∀ z7 : Int32, z7 = S6.1 34 a0 → ∀ z8 : Int32, z8 = z7 + 1 → hasO S6 a0 9 ∧ ∀ S9 : kS, S9 = cI S6 34 a0 z8 → hasO S9 a0 9 ∧ ∀ z10 : Int32, z10 = S9.1 34 a0 → ((¬ z10 = 1 → hasO S9 t0 6 ∧ ∀ z12 : Option Nat, z12 = S9.2.1 41 t0 → ∃ q13 : Nat, z12 = some q13 ∧ hasO S9 q13 1 ∧ ∀ z14 : Option Nat, z14 = S9.2.1 2 q13 → hasO S9 a0 9 ∧ ∀ z15 : Int32, z15 = S9.1 36 a0 → ∃ q16 : Nat, z14 = some q16 ∧ hasO S9 q16 5 ∧ wp_X5_scopeAt q16 z15 S9 (fun (S17 : kS) (r17 : Int32) => ((¬ z1 = 1 → ((¬ z1 = 2 → hasO S17 t0 6 ∧ wp_X6_leave t0 a0 5 0 r17 S17 (fun (S20 : kS) => K S20)) ∧ (z1 = 2 → hasO S17 a0 9 ∧ ∀ z21 : Int32, z21 = S17.1 39 a0 → hasO S17 t0 6 ∧ wp_X6_leave t0 a0 4 z21 r17 S17 (fun (S22 : kS) => K S22)))) ∧ (z1 = 1 → hasO S17 a0 9 ∧ ∀ z23 : Int32, z23 = S17.1 39 a0 → hasO S17 t0 6 ∧ wp_X6_push t0 z23 S17 (fun (S24 : kS) => hasO S24 a0 9 ∧ ∀ z25 : Int32, z25 = S24.1 36 a0 → ∀ z26 : Int32, z26 = z25 + 1 → hasO S24 a0 9 ∧ ∀ S27 : kS, S27 = cI S24 36 a0 z26 → K S27))))) ∧ (z10 = 1 → K S9)))
theorem cw_X6_71 {R : Room} {s : State} {args : Array Value} {fr lo : Nat} (hts : ∀ w ∈ tb, w.before args s = true) (h1 : fr + 1 ≤ R.frames) (h2 : 8 + (4 + 11) + lo ≤ R.locals) : CallW R s args RX6 RX1 71 yX1_takeBack cX1_takeBack 4 none (.code yX1_takeBack cX1_takeBack 4 none :: tb) (mRm fr lo) 0 0 1 := cwV 1 hts (gd_V wd_973 wd_467 wd_468 wd_9 wd_469) rfl rfl rfl (by decide +kernel) ⟨h1, h2⟩
theorem cw_X6_89 {R : Room} {s : State} {args : Array Value} {fr lo : Nat} (hts : ∀ w ∈ tb, w.before args s = true) (h1 : fr + 1 ≤ R.frames) (h2 : 8 + (2 + 11) + lo ≤ R.locals) : CallW R s args RX6 RX5 89 yX5_scopeAt cX5_scopeAt 2 (some .int) (.code yX5_scopeAt cX5_scopeAt 2 (some .int) :: tb) (mRm fr lo) 0 0 1 := cwV 1 hts (gd_V wd_974 wd_975 wd_976 wd_13 wd_977) rfl rfl rfl (by decide +kernel) ⟨h1, h2⟩
set_option maxHeartbeats 4000000 in
set_option maxRecDepth 100000 in
theorem kt_X6_wake (l : Launch) (S : kS) (t0 : Nat) (a0 : Nat) (K : kS → Prop) (h : wp_X6_wake t0 a0 S K) : kMv l yX6_wake cX6_wake 4 none 2 56 [.ref t0, .ref a0] S K := by
  refine kv_ofv (own := RX6) (by decide) rfl (Nat.le_of_ble_eq_true rfl) ?_
  intro E p e R s m args below meth c A ls Q hRf hRl hX hC hl hret
  have hx := hX.1.1
  have hb := hX.1.2.1
  have hown := hX.1.2.2.2.1
  have hts := hX.1.2.2.2.2
  have hl : lv_has ls 4 [(0, .ref t0), (1, .ref a0)] := hl
  unfold wp_X6_wake at h
  refine lv_aload_n hx hb dX6_wake_0 rfl (lv_at hl 1 rfl) ?_
  refine cq_geti (ci := 9) (k := 18) (f := 38) hX hC rfl in_X9 (by decide) wd_904 (fun _ h9 => h9) (fun _ _ => rfl) dX6_wake_1 h (fun z1 h => ?_)
  refine lv_istore_n (lv' := [(2, .int z1), (0, .ref t0), (1, .ref a0)]) hx hb dX6_wake_4 rfl hl (by decide) rfl (fun ls hl => ?_)
  refine lv_aload_n hx hb dX6_wake_5 rfl (lv_at hl 1 rfl) ?_
  refine cq_getr (ci := 6) (k := 3) (f := 41) hX hC rfl in_X6 (by decide) wd_307 (fun _ h9 => h9) (fun _ _ => rfl) dX6_wake_6 h (fun z2 h => ?_)
  refine lv_aload_n hx hb dX6_wake_9 rfl (lv_at hl 2 rfl) ?_
  obtain ⟨q3, e9, hh⟩ := h
  subst e9
  have h := hh
  clear hh
  refine kv_callv [.ref a0] (rest := []) (ci := 1) rfl hX hC h.1 (kt_X1_takeBack l S q3 a0 _ h.2 E _) (cw_X6_71 hts (by omega) (by omega)) rfl hl.1 (Nat.le_of_ble_eq_true rfl) ⟨Nat.zero_le _, Nat.zero_le _⟩ dX6_wake_10 (fun S4 H locs hC h => ?_)
  refine lv_aload_n hx hb dX6_wake_13 rfl (lv_at hl 2 rfl) ?_
  refine lv_iconst (v := 0) hx hb dX6_wake_14 (by decide) ?_
  refine cq_puti (v := 0) (ci := 9) (k := 18) (f := 38) hX hC rfl in_X9 (by decide) wd_904 (fun _ h9 => h9) tyX9 tyX9_ok nmX9 rfl rfl rfl (fun _ _ => Nat.le_of_ble_eq_true rfl) (fun _ _ _ => rfl) dX6_wake_15 h.1 h.2 (fun S5 H locs hC h => ?_)
  refine lv_aload_n hx hb dX6_wake_18 rfl (lv_at hl 2 rfl) ?_
  refine lv_iconst (v := 4) hx hb dX6_wake_19 (by decide) ?_
  refine cq_puti (v := 4) (ci := 9) (k := 4) (f := 30) hX hC rfl in_X9 (by decide) wd_873 (fun _ h9 => h9) tyX9 tyX9_ok nmX9 rfl rfl rfl (fun _ _ => Nat.le_of_ble_eq_true rfl) (fun _ _ _ => rfl) dX6_wake_20 h.1 h.2 (fun S6 H locs hC h => ?_)
  refine lv_aload_n hx hb dX6_wake_23 rfl (lv_at hl 2 rfl) ?_
  refine lv_dup hx hb dX6_wake_24 rfl ?_
  refine cq_geti (ci := 9) (k := 8) (f := 34) hX hC rfl in_X9 (by decide) wd_885 (fun _ h9 => h9) (fun _ _ => rfl) dX6_wake_25 h (fun z7 h => ?_)
  refine lv_iconst (v := 1) hx hb dX6_wake_28 (by decide) ?_
  refine lq_iadd hx hb dX6_wake_29 h (fun z8 h => ?_)
  refine cq_puti (v := z8) (ci := 9) (k := 8) (f := 34) hX hC rfl in_X9 (by decide) wd_885 (fun _ h9 => h9) tyX9 tyX9_ok nmX9 rfl rfl rfl (fun _ _ => Nat.le_of_ble_eq_true rfl) (fun _ _ _ => rfl) dX6_wake_30 h.1 h.2 (fun S9 H locs hC h => ?_)
  refine lv_aload_n hx hb dX6_wake_33 rfl (lv_at hl 2 rfl) ?_
  refine cq_geti (ci := 9) (k := 8) (f := 34) hX hC rfl in_X9 (by decide) wd_885 (fun _ h9 => h9) (fun _ _ => rfl) dX6_wake_34 h (fun z10 h => ?_)
  refine lv_iconst (v := 1) hx hb dX6_wake_37 (by decide) ?_
  refine lv_icmp_ne (tgt := 42) hx hb dX6_wake_38 (by decide) (fun c11 => ?_) (fun c11 => ?_)
  · have h := h.1 c11
    refine lv_aload_n hx hb dX6_wake_42 rfl (lv_at hl 1 rfl) ?_
    refine cq_getr (ci := 6) (k := 3) (f := 41) hX hC rfl in_X6 (by decide) wd_307 (fun _ h9 => h9) (fun _ _ => rfl) dX6_wake_43 h (fun z12 h => ?_)
    obtain ⟨q13, e9, hh⟩ := h
    subst e9
    have h := hh
    clear hh
    refine cq_getr (ci := 1) (k := 0) (f := 2) hX hC rfl in_X1 (by decide) wd_234 (fun _ h9 => h9) (fun _ _ => rfl) dX6_wake_46 h (fun z14 h => ?_)
    refine lv_aload_n hx hb dX6_wake_49 rfl (lv_at hl 2 rfl) ?_
    refine cq_geti (ci := 9) (k := 10) (f := 36) hX hC rfl in_X9 (by decide) wd_890 (fun _ h9 => h9) (fun _ _ => rfl) dX6_wake_50 h (fun z15 h => ?_)
    obtain ⟨q16, e9, hh⟩ := h
    subst e9
    have h := hh
    clear hh
    refine kv_calli [.int z15] (rest := []) (ci := 5) rfl hX hC h.1 (kt_X5_scopeAt l S9 q16 z15 _ h.2 E _) (cw_X6_89 hts (by omega) (by omega)) rfl hl.1 (Nat.le_of_ble_eq_true rfl) ⟨Nat.zero_le _, Nat.zero_le _⟩ dX6_wake_53 (fun r17 S17 H locs hC h => ?_)
    refine lv_istore_n (lv' := [(3, .int r17), (2, .int z1), (0, .ref t0), (1, .ref a0)]) hx hb dX6_wake_56 rfl hl (by decide) rfl (fun ls hl => ?_)
    refine lv_iload_n hx hb dX6_wake_57 rfl (lv_at hl 1 rfl) ?_
    refine lv_iconst (v := 1) hx hb dX6_wake_58 (by decide) ?_
    refine lv_icmp_ne (tgt := 83) hx hb dX6_wake_59 (by decide) (fun c18 => ?_) (fun c18 => ?_)
    · have h := h.1 c18
      refine lv_iload_n hx hb dX6_wake_83 rfl (lv_at hl 1 rfl) ?_
      refine lv_iconst (v := 2) hx hb dX6_wake_84 (by decide) ?_
      refine lv_icmp_ne (tgt := 102) hx hb dX6_wake_85 (by decide) (fun c19 => ?_) (fun c19 => ?_)
      · have h := h.1 c19
        refine lv_aload_n hx hb dX6_wake_102 rfl (lv_at hl 2 rfl) ?_
        refine lv_aload_n hx hb dX6_wake_103 rfl (lv_at hl 3 rfl) ?_
        refine lv_iconst (v := 5) hx hb dX6_wake_104 (by decide) ?_
        refine lv_iconst (v := 0) hx hb dX6_wake_105 (by decide) ?_
        refine lv_iload_n hx hb dX6_wake_106 rfl (lv_at hl 0 rfl) ?_
        refine kv_callv [.ref a0, .int 5, .int 0, .int r17] (rest := []) (ci := 6) rfl hX hC h.1 (kt_X6_leave l S17 t0 a0 5 0 r17 _ h.2 E _) (cw_X6_102 hts (by omega) (by omega)) rfl hl.1 (Nat.le_of_ble_eq_true rfl) ⟨Nat.zero_le _, Nat.zero_le _⟩ dX6_wake_107 (fun S20 H locs hC h => ?_)
        exact hret _ _ _ _ _ hC h dX6_wake_110
      · have h := h.2 c19
        refine lv_aload_n hx hb dX6_wake_88 rfl (lv_at hl 2 rfl) ?_
        refine lv_aload_n hx hb dX6_wake_89 rfl (lv_at hl 3 rfl) ?_
        refine lv_iconst (v := 4) hx hb dX6_wake_90 (by decide) ?_
        refine lv_aload_n hx hb dX6_wake_91 rfl (lv_at hl 3 rfl) ?_
        refine cq_geti (ci := 9) (k := 19) (f := 39) hX hC rfl in_X9 (by decide) wd_906 (fun _ h9 => h9) (fun _ _ => rfl) dX6_wake_92 h (fun z21 h => ?_)
        refine lv_iload_n hx hb dX6_wake_95 rfl (lv_at hl 0 rfl) ?_
        refine kv_callv [.ref a0, .int 4, .int z21, .int r17] (rest := []) (ci := 6) rfl hX hC h.1 (kt_X6_leave l S17 t0 a0 4 z21 r17 _ h.2 E _) (cw_X6_102 hts (by omega) (by omega)) rfl hl.1 (Nat.le_of_ble_eq_true rfl) ⟨Nat.zero_le _, Nat.zero_le _⟩ dX6_wake_96 (fun S22 H locs hC h => ?_)
        refine lv_goto (tgt := 110) hx hb dX6_wake_99 (by decide) ?_
        exact hret _ _ _ _ _ hC h dX6_wake_110
    · have h := h.2 c18
      refine lv_aload_n hx hb dX6_wake_62 rfl (lv_at hl 2 rfl) ?_
      refine lv_aload_n hx hb dX6_wake_63 rfl (lv_at hl 3 rfl) ?_
      refine cq_geti (ci := 9) (k := 19) (f := 39) hX hC rfl in_X9 (by decide) wd_906 (fun _ h9 => h9) (fun _ _ => rfl) dX6_wake_64 h (fun z23 h => ?_)
      refine kv_callv [.int z23] (rest := []) (ci := 6) rfl hX hC h.1 (kt_X6_push l S17 t0 z23 _ h.2 E _) (cw_X6_98 hts (by omega) (by omega)) rfl hl.1 (Nat.le_of_ble_eq_true rfl) ⟨Nat.zero_le _, Nat.zero_le _⟩ dX6_wake_67 (fun S24 H locs hC h => ?_)
      refine lv_aload_n hx hb dX6_wake_70 rfl (lv_at hl 3 rfl) ?_
      refine lv_dup hx hb dX6_wake_71 rfl ?_
      refine cq_geti (ci := 9) (k := 10) (f := 36) hX hC rfl in_X9 (by decide) wd_890 (fun _ h9 => h9) (fun _ _ => rfl) dX6_wake_72 h (fun z25 h => ?_)
      refine lv_iconst (v := 1) hx hb dX6_wake_75 (by decide) ?_
      refine lq_iadd hx hb dX6_wake_76 h (fun z26 h => ?_)
      refine cq_puti (v := z26) (ci := 9) (k := 10) (f := 36) hX hC rfl in_X9 (by decide) wd_890 (fun _ h9 => h9) tyX9 tyX9_ok nmX9 rfl rfl rfl (fun _ _ => Nat.le_of_ble_eq_true rfl) (fun _ _ _ => rfl) dX6_wake_77 h.1 h.2 (fun S27 H locs hC h => ?_)
      refine lv_goto (tgt := 110) hx hb dX6_wake_80 (by decide) ?_
      exact hret _ _ _ _ _ hC h dX6_wake_110
  · have h := h.2 c11
    exact hret _ _ _ _ _ hC h dX6_wake_41
def wp_X9_tell (t0 : Nat) (a0 : Int32) (S : kS) (K : kS → Int32 → Prop) : Prop := ((a0 = 0 → hasO S t0 9 ∧ ∀ z2 : Int32, z2 = S.1 30 t0 → K S z2) ∧ (¬ a0 = 0 → ((a0 = 1 → hasO S t0 9 ∧ ∀ z4 : Int32, z4 = S.1 31 t0 → K S z4) ∧ (¬ a0 = 1 → ((a0 = 2 → hasO S t0 9 ∧ ∀ z6 : Int32, z6 = S.1 32 t0 → K S z6) ∧ (¬ a0 = 2 → ((a0 = 3 → hasO S t0 9 ∧ ∀ z8 : Option Nat, z8 = S.2.1 56 t0 → ((z8 = none → K S (-1)) ∧ (∀ q9 : Nat, z8 = some q9 → hasO S t0 9 ∧ ∀ z10 : Option Nat, z10 = S.2.1 56 t0 → ∃ q11 : Nat, z10 = some q11 ∧ hasO S q11 9 ∧ ∀ z12 : Int32, z12 = S.1 28 q11 → K S z12))) ∧ (¬ a0 = 3 → ((a0 = 4 → hasO S t0 9 ∧ ∀ z14 : Int32, z14 = S.1 29 t0 → K S z14) ∧ (¬ a0 = 4 → ((a0 = 5 → hasO S t0 9 ∧ ∀ z16 : Int32, z16 = S.1 33 t0 → K S z16) ∧ (¬ a0 = 5 → ((a0 = 6 → hasO S t0 9 ∧ ∀ z18 : Int32, z18 = S.1 34 t0 → K S z18) ∧ (¬ a0 = 6 → hasO S t0 9 ∧ ∀ z19 : Int32, z19 = S.1 35 t0 → ((z19 = 0 → K S 0) ∧ (¬ z19 = 0 → K S 1))))))))))))))))
set_option maxHeartbeats 4000000 in
set_option maxRecDepth 100000 in
theorem kt_X9_tell (l : Launch) (S : kS) (t0 : Nat) (a0 : Int32) (K : kS → Int32 → Prop) (h : wp_X9_tell t0 a0 S K) : kMi l yX9_tell cX9_tell 2 (some .int) 0 0 [.ref t0, .int a0] S K := by
  refine kv_ofi (own := RX9) (by decide) rfl (Nat.le_of_ble_eq_true rfl) ?_
  intro E p e R s m args below meth c A ls Q hRf hRl hX hC hl hret
  have hx := hX.1.1
  have hb := hX.1.2.1
  have hown := hX.1.2.2.2.1
  have hts := hX.1.2.2.2.2
  have hl : lv_has ls 2 [(0, .ref t0), (1, .int a0)] := hl
  unfold wp_X9_tell at h
  refine lv_iload_n hx hb dX9_tell_0 rfl (lv_at hl 1 rfl) ?_
  rcases Decidable.em (a0 = 0) with c1 | c1
  · have h := h.1 c1
    refine lv_tableIn (tgt := 44) hx hb dX9_tell_1 (by rw [c1]; decide) (by rw [c1]; decide) (by rw [c1]; rfl) (by decide) ?_
    refine lv_aload_n hx hb dX9_tell_44 rfl (lv_at hl 0 rfl) ?_
    refine cq_geti (ci := 9) (k := 4) (f := 30) hX hC rfl in_X9 (by decide) wd_874 (fun _ h9 => h9) (fun _ _ => rfl) dX9_tell_45 h (fun z2 h => ?_)
    exact hret _ _ _ _ _ _ hC h dX9_tell_48
  have h := h.2 c1
  rcases Decidable.em (a0 = 1) with c3 | c3
  · have h := h.1 c3
    refine lv_tableIn (tgt := 49) hx hb dX9_tell_1 (by rw [c3]; decide) (by rw [c3]; decide) (by rw [c3]; rfl) (by decide) ?_
    refine lv_aload_n hx hb dX9_tell_49 rfl (lv_at hl 0 rfl) ?_
    refine cq_geti (ci := 9) (k := 5) (f := 31) hX hC rfl in_X9 (by decide) wd_876 (fun _ h9 => h9) (fun _ _ => rfl) dX9_tell_50 h (fun z4 h => ?_)
    exact hret _ _ _ _ _ _ hC h dX9_tell_53
  have h := h.2 c3
  rcases Decidable.em (a0 = 2) with c5 | c5
  · have h := h.1 c5
    refine lv_tableIn (tgt := 54) hx hb dX9_tell_1 (by rw [c5]; decide) (by rw [c5]; decide) (by rw [c5]; rfl) (by decide) ?_
    refine lv_aload_n hx hb dX9_tell_54 rfl (lv_at hl 0 rfl) ?_
    refine cq_geti (ci := 9) (k := 6) (f := 32) hX hC rfl in_X9 (by decide) wd_879 (fun _ h9 => h9) (fun _ _ => rfl) dX9_tell_55 h (fun z6 h => ?_)
    exact hret _ _ _ _ _ _ hC h dX9_tell_58
  have h := h.2 c5
  rcases Decidable.em (a0 = 3) with c7 | c7
  · have h := h.1 c7
    refine lv_tableIn (tgt := 59) hx hb dX9_tell_1 (by rw [c7]; decide) (by rw [c7]; decide) (by rw [c7]; rfl) (by decide) ?_
    refine lv_aload_n hx hb dX9_tell_59 rfl (lv_at hl 0 rfl) ?_
    refine cq_getr (ci := 9) (k := 2) (f := 56) hX hC rfl in_X9 (by decide) wd_869 (fun _ h9 => h9) (fun _ _ => rfl) dX9_tell_60 h (fun z8 h => ?_)
    rcases z8 with _ | q9
    · have h := h.1 rfl
      refine lv_ifnonnullN hx hb dX9_tell_63 ?_
      refine lv_iconst (v := -1) hx hb dX9_tell_66 (by decide) ?_
      refine lv_goto (tgt := 77) hx hb dX9_tell_67 (by decide) ?_
      exact hret _ _ _ _ _ _ hC h dX9_tell_77
    · have h := h.2 q9 rfl
      refine lv_ifnonnull (tgt := 70) hx hb dX9_tell_63 (by decide) ?_
      refine lv_aload_n hx hb dX9_tell_70 rfl (lv_at hl 0 rfl) ?_
      refine cq_getr (ci := 9) (k := 2) (f := 56) hX hC rfl in_X9 (by decide) wd_869 (fun _ h9 => h9) (fun _ _ => rfl) dX9_tell_71 h (fun z10 h => ?_)
      obtain ⟨q11, e9, hh⟩ := h
      subst e9
      have h := hh
      clear hh
      refine cq_geti (ci := 9) (k := 0) (f := 28) hX hC rfl in_X9 (by decide) wd_861 (fun _ h9 => h9) (fun _ _ => rfl) dX9_tell_74 h (fun z12 h => ?_)
      exact hret _ _ _ _ _ _ hC h dX9_tell_77
  have h := h.2 c7
  rcases Decidable.em (a0 = 4) with c13 | c13
  · have h := h.1 c13
    refine lv_tableIn (tgt := 78) hx hb dX9_tell_1 (by rw [c13]; decide) (by rw [c13]; decide) (by rw [c13]; rfl) (by decide) ?_
    refine lv_aload_n hx hb dX9_tell_78 rfl (lv_at hl 0 rfl) ?_
    refine cq_geti (ci := 9) (k := 1) (f := 29) hX hC rfl in_X9 (by decide) wd_866 (fun _ h9 => h9) (fun _ _ => rfl) dX9_tell_79 h (fun z14 h => ?_)
    exact hret _ _ _ _ _ _ hC h dX9_tell_82
  have h := h.2 c13
  rcases Decidable.em (a0 = 5) with c15 | c15
  · have h := h.1 c15
    refine lv_tableIn (tgt := 83) hx hb dX9_tell_1 (by rw [c15]; decide) (by rw [c15]; decide) (by rw [c15]; rfl) (by decide) ?_
    refine lv_aload_n hx hb dX9_tell_83 rfl (lv_at hl 0 rfl) ?_
    refine cq_geti (ci := 9) (k := 7) (f := 33) hX hC rfl in_X9 (by decide) wd_882 (fun _ h9 => h9) (fun _ _ => rfl) dX9_tell_84 h (fun z16 h => ?_)
    exact hret _ _ _ _ _ _ hC h dX9_tell_87
  have h := h.2 c15
  rcases Decidable.em (a0 = 6) with c17 | c17
  · have h := h.1 c17
    refine lv_tableIn (tgt := 88) hx hb dX9_tell_1 (by rw [c17]; decide) (by rw [c17]; decide) (by rw [c17]; rfl) (by decide) ?_
    refine lv_aload_n hx hb dX9_tell_88 rfl (lv_at hl 0 rfl) ?_
    refine cq_geti (ci := 9) (k := 8) (f := 34) hX hC rfl in_X9 (by decide) wd_886 (fun _ h9 => h9) (fun _ _ => rfl) dX9_tell_89 h (fun z18 h => ?_)
    exact hret _ _ _ _ _ _ hC h dX9_tell_92
  have h := h.2 c17
  refine lv_tableOut (tgt := 93) hx hb dX9_tell_1 (by have nc1 := lv_neT c1 (show (0 : Int32).toInt = 0 by decide); have nc3 := lv_neT c3 (show (1 : Int32).toInt = 1 by decide); have nc5 := lv_neT c5 (show (2 : Int32).toInt = 2 by decide); have nc7 := lv_neT c7 (show (3 : Int32).toInt = 3 by decide); have nc13 := lv_neT c13 (show (4 : Int32).toInt = 4 by decide); have nc15 := lv_neT c15 (show (5 : Int32).toInt = 5 by decide); have nc17 := lv_neT c17 (show (6 : Int32).toInt = 6 by decide); omega) (by decide) ?_
  refine lv_aload_n hx hb dX9_tell_93 rfl (lv_at hl 0 rfl) ?_
  refine cq_geti (ci := 9) (k := 9) (f := 35) hX hC rfl in_X9 (by decide) wd_888 (fun _ h9 => h9) (fun _ _ => rfl) dX9_tell_94 h (fun z19 h => ?_)
  refine lv_if_eq (tgt := 104) hx hb dX9_tell_97 (by decide) (fun c20 => ?_) (fun c20 => ?_)
  · have h := h.1 c20
    refine lv_iconst (v := 0) hx hb dX9_tell_104 (by decide) ?_
    exact hret _ _ _ _ _ _ hC h dX9_tell_105
  · have h := h.2 c20
    refine lv_iconst (v := 1) hx hb dX9_tell_100 (by decide) ?_
    refine lv_goto (tgt := 105) hx hb dX9_tell_101 (by decide) ?_
    exact hret _ _ _ _ _ _ hC h dX9_tell_105
