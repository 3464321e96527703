theorem wd_104 : (Jvm.Cond.fieldLink "Sleepers$Tokens" (22 : Nat) "Sleepers$Tokens" "tape" "[C") ∈ tb := tb_at 104 (by decide +kernel) (by decide +kernel)
theorem wd_1405 : (Jvm.Cond.fieldLink "SleepersModel" (14 : Nat) "SleepersModel" "tape" "[I") ∈ tb := tb_at 1405 (by decide +kernel) (by decide +kernel)
theorem dX10_add_0 : decode cX10_add 0 = .ok (.bipush 56, 2) := by decide +kernel
theorem dX10_add_2 : decode cX10_add 2 = .ok (.istore_n 3, 1) := by decide +kernel
theorem dX10_add_3 : decode cX10_add 3 = .ok (.iload_n 3, 1) := by decide +kernel
theorem dX10_add_4 : decode cX10_add 4 = .ok (.ifCond .lt 72, 3) := by decide +kernel
theorem dX10_add_7 : decode cX10_add 7 = .ok (.lload_n 1, 1) := by decide +kernel
theorem dX10_add_8 : decode cX10_add 8 = .ok (.iload_n 3, 1) := by decide +kernel
theorem dX10_add_9 : decode cX10_add 9 = .ok (.lushr, 1) := by decide +kernel
theorem dX10_add_10 : decode cX10_add 10 = .ok (.l2i, 1) := by decide +kernel
theorem dX10_add_11 : decode cX10_add 11 = .ok (.sipush 255, 3) := by decide +kernel
theorem dX10_add_14 : decode cX10_add 14 = .ok (.iand, 1) := by decide +kernel
theorem dX10_add_15 : decode cX10_add 15 = .ok (.istore 4, 2) := by decide +kernel
theorem dX10_add_17 : decode cX10_add 17 = .ok (.iload 4, 2) := by decide +kernel
theorem dX10_add_19 : decode cX10_add 19 = .ok (.bipush 10, 2) := by decide +kernel
theorem dX10_add_21 : decode cX10_add 21 = .ok (.if_icmp .eq 17, 3) := by decide +kernel
theorem dX10_add_24 : decode cX10_add 24 = .ok (.iload 4, 2) := by decide +kernel
theorem dX10_add_26 : decode cX10_add 26 = .ok (.bipush 32, 2) := by decide +kernel
theorem dX10_add_28 : decode cX10_add 28 = .ok (.if_icmp .lt 42, 3) := by decide +kernel
theorem dX10_add_31 : decode cX10_add 31 = .ok (.iload 4, 2) := by decide +kernel
theorem dX10_add_33 : decode cX10_add 33 = .ok (.bipush 126, 2) := by decide +kernel
theorem dX10_add_35 : decode cX10_add 35 = .ok (.if_icmp .gt 35, 3) := by decide +kernel
theorem dX10_add_38 : decode cX10_add 38 = .ok (.aload_n 0, 1) := by decide +kernel
theorem dX10_add_39 : decode cX10_add 39 = .ok (.getfield 45, 3) := by decide +kernel
theorem dX10_add_42 : decode cX10_add 42 = .ok (.sipush 4000, 3) := by decide +kernel
theorem dX10_add_45 : decode cX10_add 45 = .ok (.if_icmp .ge 25, 3) := by decide +kernel
theorem dX10_add_48 : decode cX10_add 48 = .ok (.aload_n 0, 1) := by decide +kernel
theorem dX10_add_49 : decode cX10_add 49 = .ok (.getfield 22, 3) := by decide +kernel
theorem dX10_add_52 : decode cX10_add 52 = .ok (.aload_n 0, 1) := by decide +kernel
theorem dX10_add_53 : decode cX10_add 53 = .ok (.getfield 45, 3) := by decide +kernel
theorem dX10_add_56 : decode cX10_add 56 = .ok (.iload 4, 2) := by decide +kernel
theorem dX10_add_58 : decode cX10_add 58 = .ok (.i2c, 1) := by decide +kernel
theorem dX10_add_59 : decode cX10_add 59 = .ok (.castore, 1) := by decide +kernel
theorem dX10_add_60 : decode cX10_add 60 = .ok (.aload_n 0, 1) := by decide +kernel
theorem dX10_add_61 : decode cX10_add 61 = .ok (.dup, 1) := by decide +kernel
theorem dX10_add_62 : decode cX10_add 62 = .ok (.getfield 45, 3) := by decide +kernel
theorem dX10_add_65 : decode cX10_add 65 = .ok (.iconst 1, 1) := by decide +kernel
theorem dX10_add_66 : decode cX10_add 66 = .ok (.iadd, 1) := by decide +kernel
theorem dX10_add_67 : decode cX10_add 67 = .ok (.putfield 45, 3) := by decide +kernel
theorem dX10_add_70 : decode cX10_add 70 = .ok (.iinc 3 (-8), 3) := by decide +kernel
theorem dX10_add_73 : decode cX10_add 73 = .ok (.goto (-70), 3) := by decide +kernel
theorem dX10_add_76 : decode cX10_add 76 = .ok (.return_, 1) := by decide +kernel
theorem dX12_lay_0 : decode cX12_lay 0 = .ok (.bipush 56, 2) := by decide +kernel
theorem dX12_lay_2 : decode cX12_lay 2 = .ok (.istore_n 3, 1) := by decide +kernel
theorem dX12_lay_3 : decode cX12_lay 3 = .ok (.iload_n 3, 1) := by decide +kernel
theorem dX12_lay_4 : decode cX12_lay 4 = .ok (.ifCond .lt 71, 3) := by decide +kernel
theorem dX12_lay_7 : decode cX12_lay 7 = .ok (.lload_n 1, 1) := by decide +kernel
theorem dX12_lay_8 : decode cX12_lay 8 = .ok (.iload_n 3, 1) := by decide +kernel
theorem dX12_lay_9 : decode cX12_lay 9 = .ok (.lshr, 1) := by decide +kernel
theorem dX12_lay_10 : decode cX12_lay 10 = .ok (.l2i, 1) := by decide +kernel
theorem dX12_lay_11 : decode cX12_lay 11 = .ok (.sipush 255, 3) := by decide +kernel
theorem dX12_lay_14 : decode cX12_lay 14 = .ok (.iand, 1) := by decide +kernel
theorem dX12_lay_15 : decode cX12_lay 15 = .ok (.istore 4, 2) := by decide +kernel
theorem dX12_lay_17 : decode cX12_lay 17 = .ok (.iload 4, 2) := by decide +kernel
theorem dX12_lay_19 : decode cX12_lay 19 = .ok (.bipush 10, 2) := by decide +kernel
theorem dX12_lay_21 : decode cX12_lay 21 = .ok (.if_icmp .eq 17, 3) := by decide +kernel
theorem dX12_lay_24 : decode cX12_lay 24 = .ok (.iload 4, 2) := by decide +kernel
theorem dX12_lay_26 : decode cX12_lay 26 = .ok (.bipush 32, 2) := by decide +kernel
theorem dX12_lay_28 : decode cX12_lay 28 = .ok (.if_icmp .lt 41, 3) := by decide +kernel
theorem dX12_lay_31 : decode cX12_lay 31 = .ok (.iload 4, 2) := by decide +kernel
theorem dX12_lay_33 : decode cX12_lay 33 = .ok (.bipush 126, 2) := by decide +kernel
theorem dX12_lay_35 : decode cX12_lay 35 = .ok (.if_icmp .gt 34, 3) := by decide +kernel
theorem dX12_lay_38 : decode cX12_lay 38 = .ok (.aload_n 0, 1) := by decide +kernel
theorem dX12_lay_39 : decode cX12_lay 39 = .ok (.getfield 11, 3) := by decide +kernel
theorem dX12_lay_42 : decode cX12_lay 42 = .ok (.sipush 4000, 3) := by decide +kernel
theorem dX12_lay_45 : decode cX12_lay 45 = .ok (.if_icmp .ge 24, 3) := by decide +kernel
theorem dX12_lay_48 : decode cX12_lay 48 = .ok (.aload_n 0, 1) := by decide +kernel
theorem dX12_lay_49 : decode cX12_lay 49 = .ok (.getfield 14, 3) := by decide +kernel
theorem dX12_lay_52 : decode cX12_lay 52 = .ok (.aload_n 0, 1) := by decide +kernel
theorem dX12_lay_53 : decode cX12_lay 53 = .ok (.getfield 11, 3) := by decide +kernel
theorem dX12_lay_56 : decode cX12_lay 56 = .ok (.iload 4, 2) := by decide +kernel
theorem dX12_lay_58 : decode cX12_lay 58 = .ok (.iastore, 1) := by decide +kernel
theorem dX12_lay_59 : decode cX12_lay 59 = .ok (.aload_n 0, 1) := by decide +kernel
theorem dX12_lay_60 : decode cX12_lay 60 = .ok (.dup, 1) := by decide +kernel
theorem dX12_lay_61 : decode cX12_lay 61 = .ok (.getfield 11, 3) := by decide +kernel
theorem dX12_lay_64 : decode cX12_lay 64 = .ok (.iconst 1, 1) := by decide +kernel
theorem dX12_lay_65 : decode cX12_lay 65 = .ok (.iadd, 1) := by decide +kernel
theorem dX12_lay_66 : decode cX12_lay 66 = .ok (.putfield 11, 3) := by decide +kernel
theorem dX12_lay_69 : decode cX12_lay 69 = .ok (.iinc 3 (-8), 3) := by decide +kernel
theorem dX12_lay_72 : decode cX12_lay 72 = .ok (.goto (-69), 3) := by decide +kernel
theorem dX12_lay_75 : decode cX12_lay 75 = .ok (.return_, 1) := by decide +kernel
set_option maxHeartbeats 4000000 in
set_option maxRecDepth 100000 in
theorem ct_X10_add (l : Launch) (dC : Nat → ClassId) (dI : Nat → Nat → Nat) (h0 : Nat) (kd : Nat) (pl : Nat) (va : Nat) (tp : Nat) (rs : Nat) (ktp : ClassId) (n0 : Nat) (f0 : Nat → Int32) (v : Int64) (sz : Nat) (hn0 : n0 ≤ 16) : Met l yX10_add (.code yX10_add cX10_add 5 none :: tb) ({ frames := 0, cells := 0, slots := 0, locals := 0 }) (va_Pc [.ref h0, .long v] (fun U => U.heap.size = sz ∧ va_P (dC, dI) vwCl [(h0, .inr (10, [.ref kd, .ref pl, .ref va, .int 0, .int (nI n0), .ref tp, .ref rs])), (tp, .inl (ktp, 4000, .inl (f0)))] U.heap ∧ va_K (dC, dI) vwCl [(ktp, .char)] U ∧ va_D (fun _ => True) [(h0, .inr (10, [.ref kd, .ref pl, .ref va, .int 0, .int (nI n0), .ref tp, .ref rs])), (tp, .inl (ktp, 4000, .inl (f0)))])) (va_Qv (fun (_ : Unit) => True) (fun (_ : Unit) t => ∃ (f : Nat → Int32), va_P (dC, dI) vwCl [(h0, .inr (10, [.ref kd, .ref pl, .ref va, .int 0, .int (nI (n0 + fs_n v 8)), .ref tp, .ref rs])), (tp, .inl (ktp, 4000, .inl (f)))] t.heap ∧ va_K (dC, dI) vwCl [] t ∧ va_D (va_A [(h0, .inr (10, [.ref kd, .ref pl, .ref va, .int 0, .int (nI n0), .ref tp, .ref rs])), (tp, .inl (ktp, 4000, .inl (f0)))] sz) [(h0, .inr (10, [.ref kd, .ref pl, .ref va, .int 0, .int (nI (n0 + fs_n v 8)), .ref tp, .ref rs])), (tp, .inl (ktp, 4000, .inl (f)))]) (va_A [(h0, .inr (10, [.ref kd, .ref pl, .ref va, .int 0, .int (nI n0), .ref tp, .ref rs])), (tp, .inl (ktp, 4000, .inl (f0)))] sz)) 0 0 (va_A [(h0, .inr (10, [.ref kd, .ref pl, .ref va, .int 0, .int (nI n0), .ref tp, .ref rs])), (tp, .inl (ktp, 4000, .inl (f0)))] sz) := by
  refine Met.ofW (cc := cX10_add) (maxL := 5) (ret := none) (by decide) rfl ?_
  intro p e s m args below meth c s₁ B hml hv
  obtain ⟨rfl, hsz, hP, hK, hD0⟩ := hv
  have hx := B.exec
  have hb := B.bytes
  have hr := B.returns
  have hts : ∀ w ∈ tb, w.before _ s = true := fun w h => atoms_spec (ws := (.code yX10_add cX10_add 5 none :: tb)) B.pre w (List.mem_cons_of_mem _ h)
  have hown : s.vm.findClass RX10 = some m.cls := findClass_of_methodNamed B.named
  have hlocks := B.notSynchronized
  subst hsz
  have hD := hD0.self (sz := s.heap.size)
  generalize hAe : va_A [(h0, .inr (10, [.ref kd, .ref pl, .ref va, .int 0, .int (nI n0), .ref tp, .ref rs])), (tp, .inl (ktp, 4000, .inl (f0)))] s.heap.size = A at hD ⊢
  have hA : ∀ q : Nat, s.heap.size ≤ q → A q := fun q h => by rw [← hAe]; exact Or.inr h
  have hS : va_S A s.heap s.heap [] := va_S.rf
  have hP : va_P (dC, dI) vwCl [(h0, .inr (10, [.ref kd, .ref pl, .ref va, .int 0, .int (nI n0), .ref tp, .ref rs])), (tp, .inl (ktp, 4000, .inl (f0)))] s.heap := hP
  have hl := lv_entry ([.ref h0, .long v]) (n := 5) (Nat.le_of_ble_eq_true rfl)
  rw [lg_entry_eq]
  generalize (lg_sl ([.ref h0, .long v]) ++ List.replicate (5 - (lg_sl ([.ref h0, .long v])).length) Slot.unset).toArray = ls at hl ⊢
  have hl : lv_has ls 5 [(0, .ref h0), (1, .long v)] := hl
  refine lv_bipush (v := 56) hx hb dX10_add_0 (by decide) ?_
  refine lv_istore_n (lv' := [(3, .int 56), (0, .ref h0), (1, .long v)]) hx hb dX10_add_2 rfl hl (by decide) rfl (fun ls hl => ?_)
  generalize hQ : MQ below _ _ s _ _ A = Q
  generalize hR : (headSpec _ _).room = R
  have loop : ∀ (j n : Nat) (sh : Int32) (f : Nat → Int32) (H : Heap) (locs : List Loc) (ls : Array Slot), j ≤ 8 → n + j ≤ 4000 → n + fs_n v j = n0 + fs_n v 8 → sh = nI (8 * j) - 8 → va_P (dC, dI) vwCl [(h0, .inr (10, [.ref kd, .ref pl, .ref va, .int 0, .int (nI n), .ref tp, .ref rs])), (tp, .inl (ktp, 4000, .inl (f)))] H → va_D A [(h0, .inr (10, [.ref kd, .ref pl, .ref va, .int 0, .int (nI n), .ref tp, .ref rs])), (tp, .inl (ktp, 4000, .inl (f)))] → va_S A s.heap H locs → lv_has ls 5 [(3, .int sh), (0, .ref h0), (1, .long v)] → W p l e R s m #[.ref h0, .long v] below meth c H locs 0 0 Q (F0 m 3 ls []) := by
    intro j
    induction j with
    | zero =>
      intro n sh f H locs ls hj hn hc hsh hP hD hS hl
      refine lv_iload_n hx hb dX10_add_3 rfl (lv_at hl 0 rfl) ?_
      refine lv_if_lt (tgt := 76) hx hb dX10_add_4 (by decide) (fun _ => ?_) (fun h => absurd (by rw [hsh]; exact fs_neg) h)
      subst hQ
      subst hR
      obtain rfl : n = n0 + fs_n v 8 := hc
      have hP9 := hP.sub (ws' := [(h0, .inr (10, [.ref kd, .ref pl, .ref va, .int 0, .int (nI (n0 + fs_n v 8)), .ref tp, .ref rs])), (tp, .inl (ktp, 4000, .inl (f)))]) [0, 1] rfl
      have hD9 := hD.sub (ws' := [(h0, .inr (10, [.ref kd, .ref pl, .ref va, .int 0, .int (nI (n0 + fs_n v 8)), .ref tp, .ref rs])), (tp, .inl (ktp, 4000, .inl (f)))]) [0, 1] (by decide) rfl
      have hK9 := hK.sub (tys' := []) [] rfl
      refine W.widen (k := 0) (n := 0) (Nat.le_of_ble_eq_true rfl) (Nat.le_of_ble_eq_true rfl) ?_
      exact W.vret hx hb hr (fun t ht hW => ⟨⟨(), rfl, trivial, f, by rw [ht]; exact hP9, va_K.moved hW.alike hK9, hD9⟩, hS.F ht⟩) hS.2.2 dX10_add_76
    | succ j ih =>
      intro n sh f H locs ls hj hn hc hsh hP hD hS hl
      rw [fs_sh j (by omega)] at hsh
      subst hsh
      refine lv_iload_n hx hb dX10_add_3 rfl (lv_at hl 0 rfl) ?_
      refine lv_if_lt (tgt := 76) hx hb dX10_add_4 (by decide) (fun h => absurd h (fs_npos (by omega))) (fun _ => ?_)
      refine lv_lload_n hx hb dX10_add_7 rfl (lv_at hl 2 rfl) ?_
      refine lv_iload_n hx hb dX10_add_8 rfl (lv_at hl 0 rfl) ?_
      refine lv_lushr hx hb dX10_add_9 rfl ?_
      refine lv_l2i hx hb dX10_add_10 rfl ?_
      refine lv_sipush (v := 255) hx hb dX10_add_11 (by decide) ?_
      refine lv_iand hx hb dX10_add_14 ?_
      refine lv_topi (fun z1 ez1 => ?_)
      replace ez1 : z1 = fs_b v j := ez1
      refine lv_istore (lv' := [(4, .int z1), (3, .int (nI (8 * j))), (0, .ref h0), (1, .long v)]) hx hb dX10_add_15 hl (by decide) rfl (fun ls hl => ?_)
      refine lv_iload hx hb dX10_add_17 (lv_at hl 0 rfl) ?_
      refine lv_bipush (v := 10) hx hb dX10_add_19 (by decide) ?_
      refine lv_icmp_eq (tgt := 38) hx hb dX10_add_21 (by decide) (fun c2 => ?_) (fun c2 => ?_)
      · refine lv_aload_n hx hb dX10_add_38 rfl (lv_at hl 2 rfl) ?_
        refine va_get (D := (dC, dI)) (ci := 10) (v := .int (nI n)) (C := RX10) (T := TX10) (N := 7) hx hb hts in_X10 hown hK hP 0 rfl rfl 4 (by decide) (hts _ wd_103) (fun _ h9 => h9) rfl dX10_add_39 ?_
        refine lv_sipush (v := 4000) hx hb dX10_add_42 (by decide) ?_
        refine lv_icmp_ge (tgt := 70) hx hb dX10_add_45 (by decide) (fun c3 => ?_) (fun c3 => ?_)
        · exact absurd (show nI 4000 ≤ nI n from c3) (nI_ge (by omega) (by omega))
        · refine lv_aload_n hx hb dX10_add_48 rfl (lv_at hl 2 rfl) ?_
          refine va_get (D := (dC, dI)) (ci := 10) (v := .ref tp) (C := RX10) (T := TX10) (N := 7) hx hb hts in_X10 hown hK hP 0 rfl rfl 5 (by decide) (hts _ wd_104) (fun _ h9 => h9) rfl dX10_add_49 ?_
          refine lv_aload_n hx hb dX10_add_52 rfl (lv_at hl 2 rfl) ?_
          refine va_get (D := (dC, dI)) (ci := 10) (v := .int (nI n)) (C := RX10) (T := TX10) (N := 7) hx hb hts in_X10 hown hK hP 0 rfl rfl 4 (by decide) (hts _ wd_103) (fun _ h9 => h9) rfl dX10_add_53 ?_
          refine lv_iload hx hb dX10_add_56 (lv_at hl 0 rfl) ?_
          refine lv_i2c hx hb dX10_add_58 rfl ?_
          refine lv_topi (fun z4 ez4 => ?_)
          refine va_cast hx hb hK hP hD hS 1 0 rfl rfl (vp_in_nI (by omega) (by omega)) dX10_add_59 (fun H locs hP hD hS => ?_)
          have hP : va_P (dC, dI) vwCl [(h0, .inr (10, [.ref kd, .ref pl, .ref va, .int 0, .int (nI n), .ref tp, .ref rs])), (tp, .inl (ktp, 4000, .inl (upd (f) (nI n : Int32).toNatClampNeg (vp_nar .char z4))))] H := hP
          have hD : va_D A [(h0, .inr (10, [.ref kd, .ref pl, .ref va, .int 0, .int (nI n), .ref tp, .ref rs])), (tp, .inl (ktp, 4000, .inl (upd (f) (nI n : Int32).toNatClampNeg (vp_nar .char z4))))] := hD
          obtain ⟨f5, ef5⟩ : ∃ g : Nat → Int32, g = (upd (f) (nI n : Int32).toNatClampNeg (vp_nar .char z4)) := ⟨_, rfl⟩
          rw [← ef5] at hP hD
          have hP : va_P (dC, dI) vwCl [(h0, .inr (10, [.ref kd, .ref pl, .ref va, .int 0, .int (nI n), .ref tp, .ref rs])), (tp, .inl (ktp, 4000, .inl (f5)))] H := hP
          have hD : va_D A [(h0, .inr (10, [.ref kd, .ref pl, .ref va, .int 0, .int (nI n), .ref tp, .ref rs])), (tp, .inl (ktp, 4000, .inl (f5)))] := hD
          refine lv_aload_n hx hb dX10_add_60 rfl (lv_at hl 2 rfl) ?_
          refine lv_dup hx hb dX10_add_61 rfl ?_
          refine va_get (D := (dC, dI)) (ci := 10) (v := .int (nI n)) (C := RX10) (T := TX10) (N := 7) hx hb hts in_X10 hown hK hP 0 rfl rfl 4 (by decide) (hts _ wd_103) (fun _ h9 => h9) rfl dX10_add_62 ?_
          refine lv_iconst (v := 1) hx hb dX10_add_65 (by decide) ?_
          refine lv_iadd hx hb dX10_add_66 ?_
          refine lv_topi (fun z6 ez6 => ?_)
          refine va_put (D := (dC, dI)) (ci := 10) (v := .int z6) (ty := (tyX10 4)) (C := RX10) (T := TX10) (N := 7) hx hb hts in_X10 tyX10 tyX10_ok nmX10 hown hK hP hD hS 0 rfl rfl 4 (by decide) (hts _ wd_103) (fun _ h9 => h9) rfl (tyX10_ok 4 (by decide)) rfl rfl (Nat.le_of_ble_eq_true rfl) dX10_add_67 (fun H locs hP hD hS => ?_)
          have hP : va_P (dC, dI) vwCl [(h0, .inr (10, [.ref kd, .ref pl, .ref va, .int 0, .int z6, .ref tp, .ref rs])), (tp, .inl (ktp, 4000, .inl (f5)))] H := hP
          have hD : va_D A [(h0, .inr (10, [.ref kd, .ref pl, .ref va, .int 0, .int z6, .ref tp, .ref rs])), (tp, .inl (ktp, 4000, .inl (f5)))] := hD
          obtain ⟨z7, ez7⟩ : ∃ y : Int32, y = nI (8 * j) + -8 := ⟨_, rfl⟩
          refine lv_iinc (v := z7) (lv' := [(3, .int z7), (4, .int z1), (0, .ref h0), (1, .long v)]) hx hb dX10_add_70 hl (k := 1) rfl (by rw [ez7]; rfl) (by decide) rfl (fun ls hl => ?_)
          refine lv_goto (tgt := 3) hx hb dX10_add_73 (by decide) ?_
          have hok := fs_y1 c2
          rw [ez1] at hok
          have hc2 : n + (fs_n v j + (fs_ok (fs_b v j)).toNat) = n0 + fs_n v 8 := hc
          rw [hok] at hc2
          have hP := hP
          rw [show z6 = nI (n + 1) from ez6.trans (nI_1 n)] at hP hD
          exact ih (n + 1) _ f5 _ _ _ (by omega) (by omega) (by omega) (by rw [ez7]; exact fs_m8) hP hD hS (lv_sub hl [0, 2, 3] rfl)
      · refine lv_iload hx hb dX10_add_24 (lv_at hl 0 rfl) ?_
        refine lv_bipush (v := 32) hx hb dX10_add_26 (by decide) ?_
        refine lv_icmp_lt (tgt := 70) hx hb dX10_add_28 (by decide) (fun c8 => ?_) (fun c8 => ?_)
        · obtain ⟨z9, ez9⟩ : ∃ y : Int32, y = nI (8 * j) + -8 := ⟨_, rfl⟩
          refine lv_iinc (v := z9) (lv' := [(3, .int z9), (4, .int z1), (0, .ref h0), (1, .long v)]) hx hb dX10_add_70 hl (k := 1) rfl (by rw [ez9]; rfl) (by decide) rfl (fun ls hl => ?_)
          refine lv_goto (tgt := 3) hx hb dX10_add_73 (by decide) ?_
          have hok := fs_n1 c2 c8
          rw [ez1] at hok
          have hc2 : n + (fs_n v j + (fs_ok (fs_b v j)).toNat) = n0 + fs_n v 8 := hc
          rw [hok] at hc2
          exact ih n _ f _ _ _ (by omega) (by omega) (by omega) (by rw [ez9]; exact fs_m8) hP hD hS (lv_sub hl [0, 2, 3] rfl)
        · refine lv_iload hx hb dX10_add_31 (lv_at hl 0 rfl) ?_
          refine lv_bipush (v := 126) hx hb dX10_add_33 (by decide) ?_
          refine lv_icmp_gt (tgt := 70) hx hb dX10_add_35 (by decide) (fun c10 => ?_) (fun c10 => ?_)
          · obtain ⟨z11, ez11⟩ : ∃ y : Int32, y = nI (8 * j) + -8 := ⟨_, rfl⟩
            refine lv_iinc (v := z11) (lv' := [(3, .int z11), (4, .int z1), (0, .ref h0), (1, .long v)]) hx hb dX10_add_70 hl (k := 1) rfl (by rw [ez11]; rfl) (by decide) rfl (fun ls hl => ?_)
            refine lv_goto (tgt := 3) hx hb dX10_add_73 (by decide) ?_
            have hok := fs_n2 c2 c10
            rw [ez1] at hok
            have hc2 : n + (fs_n v j + (fs_ok (fs_b v j)).toNat) = n0 + fs_n v 8 := hc
            rw [hok] at hc2
            exact ih n _ f _ _ _ (by omega) (by omega) (by omega) (by rw [ez11]; exact fs_m8) hP hD hS (lv_sub hl [0, 2, 3] rfl)
          · refine lv_aload_n hx hb dX10_add_38 rfl (lv_at hl 2 rfl) ?_
            refine va_get (D := (dC, dI)) (ci := 10) (v := .int (nI n)) (C := RX10) (T := TX10) (N := 7) hx hb hts in_X10 hown hK hP 0 rfl rfl 4 (by decide) (hts _ wd_103) (fun _ h9 => h9) rfl dX10_add_39 ?_
            refine lv_sipush (v := 4000) hx hb dX10_add_42 (by decide) ?_
            refine lv_icmp_ge (tgt := 70) hx hb dX10_add_45 (by decide) (fun c12 => ?_) (fun c12 => ?_)
            · exact absurd (show nI 4000 ≤ nI n from c12) (nI_ge (by omega) (by omega))
            · refine lv_aload_n hx hb dX10_add_48 rfl (lv_at hl 2 rfl) ?_
              refine va_get (D := (dC, dI)) (ci := 10) (v := .ref tp) (C := RX10) (T := TX10) (N := 7) hx hb hts in_X10 hown hK hP 0 rfl rfl 5 (by decide) (hts _ wd_104) (fun _ h9 => h9) rfl dX10_add_49 ?_
              refine lv_aload_n hx hb dX10_add_52 rfl (lv_at hl 2 rfl) ?_
              refine va_get (D := (dC, dI)) (ci := 10) (v := .int (nI n)) (C := RX10) (T := TX10) (N := 7) hx hb hts in_X10 hown hK hP 0 rfl rfl 4 (by decide) (hts _ wd_103) (fun _ h9 => h9) rfl dX10_add_53 ?_
              refine lv_iload hx hb dX10_add_56 (lv_at hl 0 rfl) ?_
              refine lv_i2c hx hb dX10_add_58 rfl ?_
              refine lv_topi (fun z13 ez13 => ?_)
              refine va_cast hx hb hK hP hD hS 1 0 rfl rfl (vp_in_nI (by omega) (by omega)) dX10_add_59 (fun H locs hP hD hS => ?_)
              have hP : va_P (dC, dI) vwCl [(h0, .inr (10, [.ref kd, .ref pl, .ref va, .int 0, .int (nI n), .ref tp, .ref rs])), (tp, .inl (ktp, 4000, .inl (upd (f) (nI n : Int32).toNatClampNeg (vp_nar .char z13))))] H := hP
              have hD : va_D A [(h0, .inr (10, [.ref kd, .ref pl, .ref va, .int 0, .int (nI n), .ref tp, .ref rs])), (tp, .inl (ktp, 4000, .inl (upd (f) (nI n : Int32).toNatClampNeg (vp_nar .char z13))))] := hD
              obtain ⟨f14, ef14⟩ : ∃ g : Nat → Int32, g = (upd (f) (nI n : Int32).toNatClampNeg (vp_nar .char z13)) := ⟨_, rfl⟩
              rw [← ef14] at hP hD
              have hP : va_P (dC, dI) vwCl [(h0, .inr (10, [.ref kd, .ref pl, .ref va, .int 0, .int (nI n), .ref tp, .ref rs])), (tp, .inl (ktp, 4000, .inl (f14)))] H := hP
              have hD : va_D A [(h0, .inr (10, [.ref kd, .ref pl, .ref va, .int 0, .int (nI n), .ref tp, .ref rs])), (tp, .inl (ktp, 4000, .inl (f14)))] := hD
              refine lv_aload_n hx hb dX10_add_60 rfl (lv_at hl 2 rfl) ?_
              refine lv_dup hx hb dX10_add_61 rfl ?_
              refine va_get (D := (dC, dI)) (ci := 10) (v := .int (nI n)) (C := RX10) (T := TX10) (N := 7) hx hb hts in_X10 hown hK hP 0 rfl rfl 4 (by decide) (hts _ wd_103) (fun _ h9 => h9) rfl dX10_add_62 ?_
              refine lv_iconst (v := 1) hx hb dX10_add_65 (by decide) ?_
              refine lv_iadd hx hb dX10_add_66 ?_
              refine lv_topi (fun z15 ez15 => ?_)
              refine va_put (D := (dC, dI)) (ci := 10) (v := .int z15) (ty := (tyX10 4)) (C := RX10) (T := TX10) (N := 7) hx hb hts in_X10 tyX10 tyX10_ok nmX10 hown hK hP hD hS 0 rfl rfl 4 (by decide) (hts _ wd_103) (fun _ h9 => h9) rfl (tyX10_ok 4 (by decide)) rfl rfl (Nat.le_of_ble_eq_true rfl) dX10_add_67 (fun H locs hP hD hS => ?_)
              have hP : va_P (dC, dI) vwCl [(h0, .inr (10, [.ref kd, .ref pl, .ref va, .int 0, .int z15, .ref tp, .ref rs])), (tp, .inl (ktp, 4000, .inl (f14)))] H := hP
              have hD : va_D A [(h0, .inr (10, [.ref kd, .ref pl, .ref va, .int 0, .int z15, .ref tp, .ref rs])), (tp, .inl (ktp, 4000, .inl (f14)))] := hD
              obtain ⟨z16, ez16⟩ : ∃ y : Int32, y = nI (8 * j) + -8 := ⟨_, rfl⟩
              refine lv_iinc (v := z16) (lv' := [(3, .int z16), (4, .int z1), (0, .ref h0), (1, .long v)]) hx hb dX10_add_70 hl (k := 1) rfl (by rw [ez16]; rfl) (by decide) rfl (fun ls hl => ?_)
              refine lv_goto (tgt := 3) hx hb dX10_add_73 (by decide) ?_
              have hok := fs_y2 c8 c10
              rw [ez1] at hok
              have hc2 : n + (fs_n v j + (fs_ok (fs_b v j)).toNat) = n0 + fs_n v 8 := hc
              rw [hok] at hc2
              have hP := hP
              rw [show z15 = nI (n + 1) from ez15.trans (nI_1 n)] at hP hD
              exact ih (n + 1) _ f14 _ _ _ (by omega) (by omega) (by omega) (by rw [ez16]; exact fs_m8) hP hD hS (lv_sub hl [0, 2, 3] rfl)
  exact loop 8 n0 _ f0 _ _ _ (Nat.le_refl 8) (by omega) rfl (by decide) hP hD hS hl
set_option maxHeartbeats 4000000 in
set_option maxRecDepth 100000 in
theorem ct_X12_lay (l : Launch) (dC : Nat → ClassId) (dI : Nat → Nat → Nat) (h0 : Nat) (q : Nat → Nat) (ks : Nat) (k_tape : ClassId) (n0 : Nat) (f0 : Nat → Int32) (v : Int64) (sz : Nat) (hn0 : n0 ≤ 16) : Met l yX12_lay (.code yX12_lay cX12_lay 5 none :: tb) ({ frames := 0, cells := 0, slots := 0, locals := 0 }) (va_Pc [.ref h0, .long v] (fun U => U.heap.size = sz ∧ va_P (dC, dI) vwCl [(h0, .inr (12, [.int 0, .ref (q 0), .int (nI n0), .int 0, .ref (q 1), .ref (q 2), .ref (q 3), .int 0, .int 0, .ref ks, .ref (q 4), .int 0, .int 0, .ref (q 5), .ref (q 6), .ref (q 7), .ref (q 8), .ref (q 9), .ref (q 10), .ref (q 11), .ref (q 12), .ref (q 13), .ref (q 14), .int 0, .ref (q 15), .ref (q 16), .ref (q 17), .ref (q 18), .ref (q 19), .ref (q 20), .ref (q 21), .int 0, .ref (q 22), .ref (q 23), .ref (q 24), .int 0, .ref (q 25), .ref (q 26), .ref (q 27), .ref (q 28), .ref (q 29), .ref (q 30), .ref (q 31), .ref (q 32), .ref (q 33), .ref (q 34), .ref (q 35), .ref (q 36), .ref (q 37), .ref (q 38), .ref (q 39), .int 0, .ref (q 40), .ref (q 41), .ref (q 42), .ref (q 43), .ref (q 44), .ref (q 45), .ref (q 46), .ref (q 47), .ref (q 48), .int 0, .int 0, .int 0, .int 0, .int 0, .int 0, .int 0, .int 0, .int 0, .int 1, .ref (q 49), .ref (q 50), .int 0, .int 0, .ref (q 51), .ref (q 52), .ref (q 53), .ref (q 54), .ref (q 55), .ref (q 56), .ref (q 57), .ref (q 58), .ref (q 59), .ref (q 60), .ref (q 61), .ref (q 62), .ref (q 63), .ref (q 64), .ref (q 65), .ref (q 66), .ref (q 67), .ref (q 68), .ref (q 69), .ref (q 70), .ref (q 71), .ref (q 72), .ref (q 73), .int 0, .int 0, .int 0, .int 0, .int 0, .ref (q 74), .ref (q 75), .int 0, .ref (q 76), .ref (q 77), .ref (q 78), .ref (q 79), .int 0, .ref (q 80), .ref (q 81), .ref (q 82), .ref (q 83), .ref (q 84), .ref (q 85), .ref (q 86), .ref (q 87), .int 0, .ref (q 88), .int 0, .int 0, .int 0, .int 0, .int 0, .int 0, .int 0])), (q 0, .inl (k_tape, 4000, .inl (f0)))] U.heap ∧ va_K (dC, dI) vwCl [(k_tape, .int)] U ∧ va_D (fun _ => True) [(h0, .inr (12, [.int 0, .ref (q 0), .int (nI n0), .int 0, .ref (q 1), .ref (q 2), .ref (q 3), .int 0, .int 0, .ref ks, .ref (q 4), .int 0, .int 0, .ref (q 5), .ref (q 6), .ref (q 7), .ref (q 8), .ref (q 9), .ref (q 10), .ref (q 11), .ref (q 12), .ref (q 13), .ref (q 14), .int 0, .ref (q 15), .ref (q 16), .ref (q 17), .ref (q 18), .ref (q 19), .ref (q 20), .ref (q 21), .int 0, .ref (q 22), .ref (q 23), .ref (q 24), .int 0, .ref (q 25), .ref (q 26), .ref (q 27), .ref (q 28), .ref (q 29), .ref (q 30), .ref (q 31), .ref (q 32), .ref (q 33), .ref (q 34), .ref (q 35), .ref (q 36), .ref (q 37), .ref (q 38), .ref (q 39), .int 0, .ref (q 40), .ref (q 41), .ref (q 42), .ref (q 43), .ref (q 44), .ref (q 45), .ref (q 46), .ref (q 47), .ref (q 48), .int 0, .int 0, .int 0, .int 0, .int 0, .int 0, .int 0, .int 0, .int 0, .int 1, .ref (q 49), .ref (q 50), .int 0, .int 0, .ref (q 51), .ref (q 52), .ref (q 53), .ref (q 54), .ref (q 55), .ref (q 56), .ref (q 57), .ref (q 58), .ref (q 59), .ref (q 60), .ref (q 61), .ref (q 62), .ref (q 63), .ref (q 64), .ref (q 65), .ref (q 66), .ref (q 67), .ref (q 68), .ref (q 69), .ref (q 70), .ref (q 71), .ref (q 72), .ref (q 73), .int 0, .int 0, .int 0, .int 0, .int 0, .ref (q 74), .ref (q 75), .int 0, .ref (q 76), .ref (q 77), .ref (q 78), .ref (q 79), .int 0, .ref (q 80), .ref (q 81), .ref (q 82), .ref (q 83), .ref (q 84), .ref (q 85), .ref (q 86), .ref (q 87), .int 0, .ref (q 88), .int 0, .int 0, .int 0, .int 0, .int 0, .int 0, .int 0])), (q 0, .inl (k_tape, 4000, .inl (f0)))])) (va_Qv (fun (_ : Unit) => True) (fun (_ : Unit) t => ∃ (f : Nat → Int32), va_P (dC, dI) vwCl [(h0, .inr (12, [.int 0, .ref (q 0), .int (nI (n0 + fs_n v 8)), .int 0, .ref (q 1), .ref (q 2), .ref (q 3), .int 0, .int 0, .ref ks, .ref (q 4), .int 0, .int 0, .ref (q 5), .ref (q 6), .ref (q 7), .ref (q 8), .ref (q 9), .ref (q 10), .ref (q 11), .ref (q 12), .ref (q 13), .ref (q 14), .int 0, .ref (q 15), .ref (q 16), .ref (q 17), .ref (q 18), .ref (q 19), .ref (q 20), .ref (q 21), .int 0, .ref (q 22), .ref (q 23), .ref (q 24), .int 0, .ref (q 25), .ref (q 26), .ref (q 27), .ref (q 28), .ref (q 29), .ref (q 30), .ref (q 31), .ref (q 32), .ref (q 33), .ref (q 34), .ref (q 35), .ref (q 36), .ref (q 37), .ref (q 38), .ref (q 39), .int 0, .ref (q 40), .ref (q 41), .ref (q 42), .ref (q 43), .ref (q 44), .ref (q 45), .ref (q 46), .ref (q 47), .ref (q 48), .int 0, .int 0, .int 0, .int 0, .int 0, .int 0, .int 0, .int 0, .int 0, .int 1, .ref (q 49), .ref (q 50), .int 0, .int 0, .ref (q 51), .ref (q 52), .ref (q 53), .ref (q 54), .ref (q 55), .ref (q 56), .ref (q 57), .ref (q 58), .ref (q 59), .ref (q 60), .ref (q 61), .ref (q 62), .ref (q 63), .ref (q 64), .ref (q 65), .ref (q 66), .ref (q 67), .ref (q 68), .ref (q 69), .ref (q 70), .ref (q 71), .ref (q 72), .ref (q 73), .int 0, .int 0, .int 0, .int 0, .int 0, .ref (q 74), .ref (q 75), .int 0, .ref (q 76), .ref (q 77), .ref (q 78), .ref (q 79), .int 0, .ref (q 80), .ref (q 81), .ref (q 82), .ref (q 83), .ref (q 84), .ref (q 85), .ref (q 86), .ref (q 87), .int 0, .ref (q 88), .int 0, .int 0, .int 0, .int 0, .int 0, .int 0, .int 0])), (q 0, .inl (k_tape, 4000, .inl (f)))] t.heap ∧ va_K (dC, dI) vwCl [] t ∧ va_D (va_A [(h0, .inr (12, [.int 0, .ref (q 0), .int (nI n0), .int 0, .ref (q 1), .ref (q 2), .ref (q 3), .int 0, .int 0, .ref ks, .ref (q 4), .int 0, .int 0, .ref (q 5), .ref (q 6), .ref (q 7), .ref (q 8), .ref (q 9), .ref (q 10), .ref (q 11), .ref (q 12), .ref (q 13), .ref (q 14), .int 0, .ref (q 15), .ref (q 16), .ref (q 17), .ref (q 18), .ref (q 19), .ref (q 20), .ref (q 21), .int 0, .ref (q 22), .ref (q 23), .ref (q 24), .int 0, .ref (q 25), .ref (q 26), .ref (q 27), .ref (q 28), .ref (q 29), .ref (q 30), .ref (q 31), .ref (q 32), .ref (q 33), .ref (q 34), .ref (q 35), .ref (q 36), .ref (q 37), .ref (q 38), .ref (q 39), .int 0, .ref (q 40), .ref (q 41), .ref (q 42), .ref (q 43), .ref (q 44), .ref (q 45), .ref (q 46), .ref (q 47), .ref (q 48), .int 0, .int 0, .int 0, .int 0, .int 0, .int 0, .int 0, .int 0, .int 0, .int 1, .ref (q 49), .ref (q 50), .int 0, .int 0, .ref (q 51), .ref (q 52), .ref (q 53), .ref (q 54), .ref (q 55), .ref (q 56), .ref (q 57), .ref (q 58), .ref (q 59), .ref (q 60), .ref (q 61), .ref (q 62), .ref (q 63), .ref (q 64), .ref (q 65), .ref (q 66), .ref (q 67), .ref (q 68), .ref (q 69), .ref (q 70), .ref (q 71), .ref (q 72), .ref (q 73), .int 0, .int 0, .int 0, .int 0, .int 0, .ref (q 74), .ref (q 75), .int 0, .ref (q 76), .ref (q 77), .ref (q 78), .ref (q 79), .int 0, .ref (q 80), .ref (q 81), .ref (q 82), .ref (q 83), .ref (q 84), .ref (q 85), .ref (q 86), .ref (q 87), .int 0, .ref (q 88), .int 0, .int 0, .int 0, .int 0, .int 0, .int 0, .int 0])), (q 0, .inl (k_tape, 4000, .inl (f0)))] sz) [(h0, .inr (12, [.int 0, .ref (q 0), .int (nI (n0 + fs_n v 8)), .int 0, .ref (q 1), .ref (q 2), .ref (q 3), .int 0, .int 0, .ref ks, .ref (q 4), .int 0, .int 0, .ref (q 5), .ref (q 6), .ref (q 7), .ref (q 8), .ref (q 9), .ref (q 10), .ref (q 11), .ref (q 12), .ref (q 13), .ref (q 14), .int 0, .ref (q 15), .ref (q 16), .ref (q 17), .ref (q 18), .ref (q 19), .ref (q 20), .ref (q 21), .int 0, .ref (q 22), .ref (q 23), .ref (q 24), .int 0, .ref (q 25), .ref (q 26), .ref (q 27), .ref (q 28), .ref (q 29), .ref (q 30), .ref (q 31), .ref (q 32), .ref (q 33), .ref (q 34), .ref (q 35), .ref (q 36), .ref (q 37), .ref (q 38), .ref (q 39), .int 0, .ref (q 40), .ref (q 41), .ref (q 42), .ref (q 43), .ref (q 44), .ref (q 45), .ref (q 46), .ref (q 47), .ref (q 48), .int 0, .int 0, .int 0, .int 0, .int 0, .int 0, .int 0, .int 0, .int 0, .int 1, .ref (q 49), .ref (q 50), .int 0, .int 0, .ref (q 51), .ref (q 52), .ref (q 53), .ref (q 54), .ref (q 55), .ref (q 56), .ref (q 57), .ref (q 58), .ref (q 59), .ref (q 60), .ref (q 61), .ref (q 62), .ref (q 63), .ref (q 64), .ref (q 65), .ref (q 66), .ref (q 67), .ref (q 68), .ref (q 69), .ref (q 70), .ref (q 71), .ref (q 72), .ref (q 73), .int 0, .int 0, .int 0, .int 0, .int 0, .ref (q 74), .ref (q 75), .int 0, .ref (q 76), .ref (q 77), .ref (q 78), .ref (q 79), .int 0, .ref (q 80), .ref (q 81), .ref (q 82), .ref (q 83), .ref (q 84), .ref (q 85), .ref (q 86), .ref (q 87), .int 0, .ref (q 88), .int 0, .int 0, .int 0, .int 0, .int 0, .int 0, .int 0])), (q 0, .inl (k_tape, 4000, .inl (f)))]) (va_A [(h0, .inr (12, [.int 0, .ref (q 0), .int (nI n0), .int 0, .ref (q 1), .ref (q 2), .ref (q 3), .int 0, .int 0, .ref ks, .ref (q 4), .int 0, .int 0, .ref (q 5), .ref (q 6), .ref (q 7), .ref (q 8), .ref (q 9), .ref (q 10), .ref (q 11), .ref (q 12), .ref (q 13), .ref (q 14), .int 0, .ref (q 15), .ref (q 16), .ref (q 17), .ref (q 18), .ref (q 19), .ref (q 20), .ref (q 21), .int 0, .ref (q 22), .ref (q 23), .ref (q 24), .int 0, .ref (q 25), .ref (q 26), .ref (q 27), .ref (q 28), .ref (q 29), .ref (q 30), .ref (q 31), .ref (q 32), .ref (q 33), .ref (q 34), .ref (q 35), .ref (q 36), .ref (q 37), .ref (q 38), .ref (q 39), .int 0, .ref (q 40), .ref (q 41), .ref (q 42), .ref (q 43), .ref (q 44), .ref (q 45), .ref (q 46), .ref (q 47), .ref (q 48), .int 0, .int 0, .int 0, .int 0, .int 0, .int 0, .int 0, .int 0, .int 0, .int 1, .ref (q 49), .ref (q 50), .int 0, .int 0, .ref (q 51), .ref (q 52), .ref (q 53), .ref (q 54), .ref (q 55), .ref (q 56), .ref (q 57), .ref (q 58), .ref (q 59), .ref (q 60), .ref (q 61), .ref (q 62), .ref (q 63), .ref (q 64), .ref (q 65), .ref (q 66), .ref (q 67), .ref (q 68), .ref (q 69), .ref (q 70), .ref (q 71), .ref (q 72), .ref (q 73), .int 0, .int 0, .int 0, .int 0, .int 0, .ref (q 74), .ref (q 75), .int 0, .ref (q 76), .ref (q 77), .ref (q 78), .ref (q 79), .int 0, .ref (q 80), .ref (q 81), .ref (q 82), .ref (q 83), .ref (q 84), .ref (q 85), .ref (q 86), .ref (q 87), .int 0, .ref (q 88), .int 0, .int 0, .int 0, .int 0, .int 0, .int 0, .int 0])), (q 0, .inl (k_tape, 4000, .inl (f0)))] sz)) 0 0 (va_A [(h0, .inr (12, [.int 0, .ref (q 0), .int (nI n0), .int 0, .ref (q 1), .ref (q 2), .ref (q 3), .int 0, .int 0, .ref ks, .ref (q 4), .int 0, .int 0, .ref (q 5), .ref (q 6), .ref (q 7), .ref (q 8), .ref (q 9), .ref (q 10), .ref (q 11), .ref (q 12), .ref (q 13), .ref (q 14), .int 0, .ref (q 15), .ref (q 16), .ref (q 17), .ref (q 18), .ref (q 19), .ref (q 20), .ref (q 21), .int 0, .ref (q 22), .ref (q 23), .ref (q 24), .int 0, .ref (q 25), .ref (q 26), .ref (q 27), .ref (q 28), .ref (q 29), .ref (q 30), .ref (q 31), .ref (q 32), .ref (q 33), .ref (q 34), .ref (q 35), .ref (q 36), .ref (q 37), .ref (q 38), .ref (q 39), .int 0, .ref (q 40), .ref (q 41), .ref (q 42), .ref (q 43), .ref (q 44), .ref (q 45), .ref (q 46), .ref (q 47), .ref (q 48), .int 0, .int 0, .int 0, .int 0, .int 0, .int 0, .int 0, .int 0, .int 0, .int 1, .ref (q 49), .ref (q 50), .int 0, .int 0, .ref (q 51), .ref (q 52), .ref (q 53), .ref (q 54), .ref (q 55), .ref (q 56), .ref (q 57), .ref (q 58), .ref (q 59), .ref (q 60), .ref (q 61), .ref (q 62), .ref (q 63), .ref (q 64), .ref (q 65), .ref (q 66), .ref (q 67), .ref (q 68), .ref (q 69), .ref (q 70), .ref (q 71), .ref (q 72), .ref (q 73), .int 0, .int 0, .int 0, .int 0, .int 0, .ref (q 74), .ref (q 75), .int 0, .ref (q 76), .ref (q 77), .ref (q 78), .ref (q 79), .int 0, .ref (q 80), .ref (q 81), .ref (q 82), .ref (q 83), .ref (q 84), .ref (q 85), .ref (q 86), .ref (q 87), .int 0, .ref (q 88), .int 0, .int 0, .int 0, .int 0, .int 0, .int 0, .int 0])), (q 0, .inl (k_tape, 4000, .inl (f0)))] sz) := by
  refine Met.ofW (cc := cX12_lay) (maxL := 5) (ret := none) (by decide) rfl ?_
  intro p e s m args below meth c s₁ B hml hv
  obtain ⟨rfl, hsz, hP, hK, hD0⟩ := hv
  have hx := B.exec
  have hb := B.bytes
  have hr := B.returns
  have hts : ∀ w ∈ tb, w.before _ s = true := fun w h => atoms_spec (ws := (.code yX12_lay cX12_lay 5 none :: tb)) B.pre w (List.mem_cons_of_mem _ h)
  have hown : s.vm.findClass RX12 = some m.cls := findClass_of_methodNamed B.named
  have hlocks := B.notSynchronized
  subst hsz
  have hD := hD0.self (sz := s.heap.size)
  generalize hAe : va_A [(h0, .inr (12, [.int 0, .ref (q 0), .int (nI n0), .int 0, .ref (q 1), .ref (q 2), .ref (q 3), .int 0, .int 0, .ref ks, .ref (q 4), .int 0, .int 0, .ref (q 5), .ref (q 6), .ref (q 7), .ref (q 8), .ref (q 9), .ref (q 10), .ref (q 11), .ref (q 12), .ref (q 13), .ref (q 14), .int 0, .ref (q 15), .ref (q 16), .ref (q 17), .ref (q 18), .ref (q 19), .ref (q 20), .ref (q 21), .int 0, .ref (q 22), .ref (q 23), .ref (q 24), .int 0, .ref (q 25), .ref (q 26), .ref (q 27), .ref (q 28), .ref (q 29), .ref (q 30), .ref (q 31), .ref (q 32), .ref (q 33), .ref (q 34), .ref (q 35), .ref (q 36), .ref (q 37), .ref (q 38), .ref (q 39), .int 0, .ref (q 40), .ref (q 41), .ref (q 42), .ref (q 43), .ref (q 44), .ref (q 45), .ref (q 46), .ref (q 47), .ref (q 48), .int 0, .int 0, .int 0, .int 0, .int 0, .int 0, .int 0, .int 0, .int 0, .int 1, .ref (q 49), .ref (q 50), .int 0, .int 0, .ref (q 51), .ref (q 52), .ref (q 53), .ref (q 54), .ref (q 55), .ref (q 56), .ref (q 57), .ref (q 58), .ref (q 59), .ref (q 60), .ref (q 61), .ref (q 62), .ref (q 63), .ref (q 64), .ref (q 65), .ref (q 66), .ref (q 67), .ref (q 68), .ref (q 69), .ref (q 70), .ref (q 71), .ref (q 72), .ref (q 73), .int 0, .int 0, .int 0, .int 0, .int 0, .ref (q 74), .ref (q 75), .int 0, .ref (q 76), .ref (q 77), .ref (q 78), .ref (q 79), .int 0, .ref (q 80), .ref (q 81), .ref (q 82), .ref (q 83), .ref (q 84), .ref (q 85), .ref (q 86), .ref (q 87), .int 0, .ref (q 88), .int 0, .int 0, .int 0, .int 0, .int 0, .int 0, .int 0])), (q 0, .inl (k_tape, 4000, .inl (f0)))] s.heap.size = A at hD ⊢
  have hA : ∀ q : Nat, s.heap.size ≤ q → A q := fun q h => by rw [← hAe]; exact Or.inr h
  have hS : va_S A s.heap s.heap [] := va_S.rf
  have hP : va_P (dC, dI) vwCl [(h0, .inr (12, [.int 0, .ref (q 0), .int (nI n0), .int 0, .ref (q 1), .ref (q 2), .ref (q 3), .int 0, .int 0, .ref ks, .ref (q 4), .int 0, .int 0, .ref (q 5), .ref (q 6), .ref (q 7), .ref (q 8), .ref (q 9), .ref (q 10), .ref (q 11), .ref (q 12), .ref (q 13), .ref (q 14), .int 0, .ref (q 15), .ref (q 16), .ref (q 17), .ref (q 18), .ref (q 19), .ref (q 20), .ref (q 21), .int 0, .ref (q 22), .ref (q 23), .ref (q 24), .int 0, .ref (q 25), .ref (q 26), .ref (q 27), .ref (q 28), .ref (q 29), .ref (q 30), .ref (q 31), .ref (q 32), .ref (q 33), .ref (q 34), .ref (q 35), .ref (q 36), .ref (q 37), .ref (q 38), .ref (q 39), .int 0, .ref (q 40), .ref (q 41), .ref (q 42), .ref (q 43), .ref (q 44), .ref (q 45), .ref (q 46), .ref (q 47), .ref (q 48), .int 0, .int 0, .int 0, .int 0, .int 0, .int 0, .int 0, .int 0, .int 0, .int 1, .ref (q 49), .ref (q 50), .int 0, .int 0, .ref (q 51), .ref (q 52), .ref (q 53), .ref (q 54), .ref (q 55), .ref (q 56), .ref (q 57), .ref (q 58), .ref (q 59), .ref (q 60), .ref (q 61), .ref (q 62), .ref (q 63), .ref (q 64), .ref (q 65), .ref (q 66), .ref (q 67), .ref (q 68), .ref (q 69), .ref (q 70), .ref (q 71), .ref (q 72), .ref (q 73), .int 0, .int 0, .int 0, .int 0, .int 0, .ref (q 74), .ref (q 75), .int 0, .ref (q 76), .ref (q 77), .ref (q 78), .ref (q 79), .int 0, .ref (q 80), .ref (q 81), .ref (q 82), .ref (q 83), .ref (q 84), .ref (q 85), .ref (q 86), .ref (q 87), .int 0, .ref (q 88), .int 0, .int 0, .int 0, .int 0, .int 0, .int 0, .int 0])), (q 0, .inl (k_tape, 4000, .inl (f0)))] s.heap := hP
  have hl := lv_entry ([.ref h0, .long v]) (n := 5) (Nat.le_of_ble_eq_true rfl)
  rw [lg_entry_eq]
  generalize (lg_sl ([.ref h0, .long v]) ++ List.replicate (5 - (lg_sl ([.ref h0, .long v])).length) Slot.unset).toArray = ls at hl ⊢
  have hl : lv_has ls 5 [(0, .ref h0), (1, .long v)] := hl
  refine lv_bipush (v := 56) hx hb dX12_lay_0 (by decide) ?_
  refine lv_istore_n (lv' := [(3, .int 56), (0, .ref h0), (1, .long v)]) hx hb dX12_lay_2 rfl hl (by decide) rfl (fun ls hl => ?_)
  generalize hQ : MQ below _ _ s _ _ A = Q
  generalize hR : (headSpec _ _).room = R
  have loop : ∀ (j n : Nat) (sh : Int32) (f : Nat → Int32) (H : Heap) (locs : List Loc) (ls : Array Slot), j ≤ 8 → n + j ≤ 4000 → n + fs_n v j = n0 + fs_n v 8 → sh = nI (8 * j) - 8 → va_P (dC, dI) vwCl [(h0, .inr (12, [.int 0, .ref (q 0), .int (nI n), .int 0, .ref (q 1), .ref (q 2), .ref (q 3), .int 0, .int 0, .ref ks, .ref (q 4), .int 0, .int 0, .ref (q 5), .ref (q 6), .ref (q 7), .ref (q 8), .ref (q 9), .ref (q 10), .ref (q 11), .ref (q 12), .ref (q 13), .ref (q 14), .int 0, .ref (q 15), .ref (q 16), .ref (q 17), .ref (q 18), .ref (q 19), .ref (q 20), .ref (q 21), .int 0, .ref (q 22), .ref (q 23), .ref (q 24), .int 0, .ref (q 25), .ref (q 26), .ref (q 27), .ref (q 28), .ref (q 29), .ref (q 30), .ref (q 31), .ref (q 32), .ref (q 33), .ref (q 34), .ref (q 35), .ref (q 36), .ref (q 37), .ref (q 38), .ref (q 39), .int 0, .ref (q 40), .ref (q 41), .ref (q 42), .ref (q 43), .ref (q 44), .ref (q 45), .ref (q 46), .ref (q 47), .ref (q 48), .int 0, .int 0, .int 0, .int 0, .int 0, .int 0, .int 0, .int 0, .int 0, .int 1, .ref (q 49), .ref (q 50), .int 0, .int 0, .ref (q 51), .ref (q 52), .ref (q 53), .ref (q 54), .ref (q 55), .ref (q 56), .ref (q 57), .ref (q 58), .ref (q 59), .ref (q 60), .ref (q 61), .ref (q 62), .ref (q 63), .ref (q 64), .ref (q 65), .ref (q 66), .ref (q 67), .ref (q 68), .ref (q 69), .ref (q 70), .ref (q 71), .ref (q 72), .ref (q 73), .int 0, .int 0, .int 0, .int 0, .int 0, .ref (q 74), .ref (q 75), .int 0, .ref (q 76), .ref (q 77), .ref (q 78), .ref (q 79), .int 0, .ref (q 80), .ref (q 81), .ref (q 82), .ref (q 83), .ref (q 84), .ref (q 85), .ref (q 86), .ref (q 87), .int 0, .ref (q 88), .int 0, .int 0, .int 0, .int 0, .int 0, .int 0, .int 0])), (q 0, .inl (k_tape, 4000, .inl (f)))] H → va_D A [(h0, .inr (12, [.int 0, .ref (q 0), .int (nI n), .int 0, .ref (q 1), .ref (q 2), .ref (q 3), .int 0, .int 0, .ref ks, .ref (q 4), .int 0, .int 0, .ref (q 5), .ref (q 6), .ref (q 7), .ref (q 8), .ref (q 9), .ref (q 10), .ref (q 11), .ref (q 12), .ref (q 13), .ref (q 14), .int 0, .ref (q 15), .ref (q 16), .ref (q 17), .ref (q 18), .ref (q 19), .ref (q 20), .ref (q 21), .int 0, .ref (q 22), .ref (q 23), .ref (q 24), .int 0, .ref (q 25), .ref (q 26), .ref (q 27), .ref (q 28), .ref (q 29), .ref (q 30), .ref (q 31), .ref (q 32), .ref (q 33), .ref (q 34), .ref (q 35), .ref (q 36), .ref (q 37), .ref (q 38), .ref (q 39), .int 0, .ref (q 40), .ref (q 41), .ref (q 42), .ref (q 43), .ref (q 44), .ref (q 45), .ref (q 46), .ref (q 47), .ref (q 48), .int 0, .int 0, .int 0, .int 0, .int 0, .int 0, .int 0, .int 0, .int 0, .int 1, .ref (q 49), .ref (q 50), .int 0, .int 0, .ref (q 51), .ref (q 52), .ref (q 53), .ref (q 54), .ref (q 55), .ref (q 56), .ref (q 57), .ref (q 58), .ref (q 59), .ref (q 60), .ref (q 61), .ref (q 62), .ref (q 63), .ref (q 64), .ref (q 65), .ref (q 66), .ref (q 67), .ref (q 68), .ref (q 69), .ref (q 70), .ref (q 71), .ref (q 72), .ref (q 73), .int 0, .int 0, .int 0, .int 0, .int 0, .ref (q 74), .ref (q 75), .int 0, .ref (q 76), .ref (q 77), .ref (q 78), .ref (q 79), .int 0, .ref (q 80), .ref (q 81), .ref (q 82), .ref (q 83), .ref (q 84), .ref (q 85), .ref (q 86), .ref (q 87), .int 0, .ref (q 88), .int 0, .int 0, .int 0, .int 0, .int 0, .int 0, .int 0])), (q 0, .inl (k_tape, 4000, .inl (f)))] → va_S A s.heap H locs → lv_has ls 5 [(3, .int sh), (0, .ref h0), (1, .long v)] → W p l e R s m #[.ref h0, .long v] below meth c H locs 0 0 Q (F0 m 3 ls []) := by
    intro j
    induction j with
    | zero =>
      intro n sh f H locs ls hj hn hc hsh hP hD hS hl
      refine lv_iload_n hx hb dX12_lay_3 rfl (lv_at hl 0 rfl) ?_
      refine lv_if_lt (tgt := 75) hx hb dX12_lay_4 (by decide) (fun _ => ?_) (fun h => absurd (by rw [hsh]; exact fs_neg) h)
      subst hQ
      subst hR
      obtain rfl : n = n0 + fs_n v 8 := hc
      have hP9 := hP.sub (ws' := [(h0, .inr (12, [.int 0, .ref (q 0), .int (nI (n0 + fs_n v 8)), .int 0, .ref (q 1), .ref (q 2), .ref (q 3), .int 0, .int 0, .ref ks, .ref (q 4), .int 0, .int 0, .ref (q 5), .ref (q 6), .ref (q 7), .ref (q 8), .ref (q 9), .ref (q 10), .ref (q 11), .ref (q 12), .ref (q 13), .ref (q 14), .int 0, .ref (q 15), .ref (q 16), .ref (q 17), .ref (q 18), .ref (q 19), .ref (q 20), .ref (q 21), .int 0, .ref (q 22), .ref (q 23), .ref (q 24), .int 0, .ref (q 25), .ref (q 26), .ref (q 27), .ref (q 28), .ref (q 29), .ref (q 30), .ref (q 31), .ref (q 32), .ref (q 33), .ref (q 34), .ref (q 35), .ref (q 36), .ref (q 37), .ref (q 38), .ref (q 39), .int 0, .ref (q 40), .ref (q 41), .ref (q 42), .ref (q 43), .ref (q 44), .ref (q 45), .ref (q 46), .ref (q 47), .ref (q 48), .int 0, .int 0, .int 0, .int 0, .int 0, .int 0, .int 0, .int 0, .int 0, .int 1, .ref (q 49), .ref (q 50), .int 0, .int 0, .ref (q 51), .ref (q 52), .ref (q 53), .ref (q 54), .ref (q 55), .ref (q 56), .ref (q 57), .ref (q 58), .ref (q 59), .ref (q 60), .ref (q 61), .ref (q 62), .ref (q 63), .ref (q 64), .ref (q 65), .ref (q 66), .ref (q 67), .ref (q 68), .ref (q 69), .ref (q 70), .ref (q 71), .ref (q 72), .ref (q 73), .int 0, .int 0, .int 0, .int 0, .int 0, .ref (q 74), .ref (q 75), .int 0, .ref (q 76), .ref (q 77), .ref (q 78), .ref (q 79), .int 0, .ref (q 80), .ref (q 81), .ref (q 82), .ref (q 83), .ref (q 84), .ref (q 85), .ref (q 86), .ref (q 87), .int 0, .ref (q 88), .int 0, .int 0, .int 0, .int 0, .int 0, .int 0, .int 0])), (q 0, .inl (k_tape, 4000, .inl (f)))]) [0, 1] rfl
      have hD9 := hD.sub (ws' := [(h0, .inr (12, [.int 0, .ref (q 0), .int (nI (n0 + fs_n v 8)), .int 0, .ref (q 1), .ref (q 2), .ref (q 3), .int 0, .int 0, .ref ks, .ref (q 4), .int 0, .int 0, .ref (q 5), .ref (q 6), .ref (q 7), .ref (q 8), .ref (q 9), .ref (q 10), .ref (q 11), .ref (q 12), .ref (q 13), .ref (q 14), .int 0, .ref (q 15), .ref (q 16), .ref (q 17), .ref (q 18), .ref (q 19), .ref (q 20), .ref (q 21), .int 0, .ref (q 22), .ref (q 23), .ref (q 24), .int 0, .ref (q 25), .ref (q 26), .ref (q 27), .ref (q 28), .ref (q 29), .ref (q 30), .ref (q 31), .ref (q 32), .ref (q 33), .ref (q 34), .ref (q 35), .ref (q 36), .ref (q 37), .ref (q 38), .ref (q 39), .int 0, .ref (q 40), .ref (q 41), .ref (q 42), .ref (q 43), .ref (q 44), .ref (q 45), .ref (q 46), .ref (q 47), .ref (q 48), .int 0, .int 0, .int 0, .int 0, .int 0, .int 0, .int 0, .int 0, .int 0, .int 1, .ref (q 49), .ref (q 50), .int 0, .int 0, .ref (q 51), .ref (q 52), .ref (q 53), .ref (q 54), .ref (q 55), .ref (q 56), .ref (q 57), .ref (q 58), .ref (q 59), .ref (q 60), .ref (q 61), .ref (q 62), .ref (q 63), .ref (q 64), .ref (q 65), .ref (q 66), .ref (q 67), .ref (q 68), .ref (q 69), .ref (q 70), .ref (q 71), .ref (q 72), .ref (q 73), .int 0, .int 0, .int 0, .int 0, .int 0, .ref (q 74), .ref (q 75), .int 0, .ref (q 76), .ref (q 77), .ref (q 78), .ref (q 79), .int 0, .ref (q 80), .ref (q 81), .ref (q 82), .ref (q 83), .ref (q 84), .ref (q 85), .ref (q 86), .ref (q 87), .int 0, .ref (q 88), .int 0, .int 0, .int 0, .int 0, .int 0, .int 0, .int 0])), (q 0, .inl (k_tape, 4000, .inl (f)))]) [0, 1] (by decide) rfl
      have hK9 := hK.sub (tys' := []) [] rfl
      refine W.widen (k := 0) (n := 0) (Nat.le_of_ble_eq_true rfl) (Nat.le_of_ble_eq_true rfl) ?_
      exact W.vret hx hb hr (fun t ht hW => ⟨⟨(), rfl, trivial, f, by rw [ht]; exact hP9, va_K.moved hW.alike hK9, hD9⟩, hS.F ht⟩) hS.2.2 dX12_lay_75
    | succ j ih =>
      intro n sh f H locs ls hj hn hc hsh hP hD hS hl
      rw [fs_sh j (by omega)] at hsh
      subst hsh
      refine lv_iload_n hx hb dX12_lay_3 rfl (lv_at hl 0 rfl) ?_
      refine lv_if_lt (tgt := 75) hx hb dX12_lay_4 (by decide) (fun h => absurd h (fs_npos (by omega))) (fun _ => ?_)
      refine lv_lload_n hx hb dX12_lay_7 rfl (lv_at hl 2 rfl) ?_
      refine lv_iload_n hx hb dX12_lay_8 rfl (lv_at hl 0 rfl) ?_
      refine lv_lshr hx hb dX12_lay_9 rfl ?_
      refine lv_l2i hx hb dX12_lay_10 rfl ?_
      refine lv_sipush (v := 255) hx hb dX12_lay_11 (by decide) ?_
      refine lv_iand hx hb dX12_lay_14 ?_
      refine lv_topi (fun z1 ez1 => ?_)
      replace ez1 : z1 = fs_c v j := ez1
      refine lv_istore (lv' := [(4, .int z1), (3, .int (nI (8 * j))), (0, .ref h0), (1, .long v)]) hx hb dX12_lay_15 hl (by decide) rfl (fun ls hl => ?_)
      refine lv_iload hx hb dX12_lay_17 (lv_at hl 0 rfl) ?_
      refine lv_bipush (v := 10) hx hb dX12_lay_19 (by decide) ?_
      refine lv_icmp_eq (tgt := 38) hx hb dX12_lay_21 (by decide) (fun c2 => ?_) (fun c2 => ?_)
      · refine lv_aload_n hx hb dX12_lay_38 rfl (lv_at hl 2 rfl) ?_
        refine va_get (D := (dC, dI)) (ci := 12) (v := .int (nI n)) (C := RX12) (T := TX12) (N := 128) hx hb hts in_X12 hown hK hP 0 rfl rfl 2 (by decide) (hts _ wd_1406) (fun _ h9 => h9) rfl dX12_lay_39 ?_
        refine lv_sipush (v := 4000) hx hb dX12_lay_42 (by decide) ?_
        refine lv_icmp_ge (tgt := 69) hx hb dX12_lay_45 (by decide) (fun c3 => ?_) (fun c3 => ?_)
        · exact absurd (show nI 4000 ≤ nI n from c3) (nI_ge (by omega) (by omega))
        · refine lv_aload_n hx hb dX12_lay_48 rfl (lv_at hl 2 rfl) ?_
          refine va_get (D := (dC, dI)) (ci := 12) (v := .ref (q 0)) (C := RX12) (T := TX12) (N := 128) hx hb hts in_X12 hown hK hP 0 rfl rfl 1 (by decide) (hts _ wd_1405) (fun _ h9 => h9) rfl dX12_lay_49 ?_
          refine lv_aload_n hx hb dX12_lay_52 rfl (lv_at hl 2 rfl) ?_
          refine va_get (D := (dC, dI)) (ci := 12) (v := .int (nI n)) (C := RX12) (T := TX12) (N := 128) hx hb hts in_X12 hown hK hP 0 rfl rfl 2 (by decide) (hts _ wd_1406) (fun _ h9 => h9) rfl dX12_lay_53 ?_
          refine lv_iload hx hb dX12_lay_56 (lv_at hl 0 rfl) ?_
          refine va_iast hx hb hK hP hD hS 1 0 rfl rfl (vp_in_nI (by omega) (by omega)) dX12_lay_58 (fun H locs hP hD hS => ?_)
          have hP : va_P (dC, dI) vwCl [(h0, .inr (12, [.int 0, .ref (q 0), .int (nI n), .int 0, .ref (q 1), .ref (q 2), .ref (q 3), .int 0, .int 0, .ref ks, .ref (q 4), .int 0, .int 0, .ref (q 5), .ref (q 6), .ref (q 7), .ref (q 8), .ref (q 9), .ref (q 10), .ref (q 11), .ref (q 12), .ref (q 13), .ref (q 14), .int 0, .ref (q 15), .ref (q 16), .ref (q 17), .ref (q 18), .ref (q 19), .ref (q 20), .ref (q 21), .int 0, .ref (q 22), .ref (q 23), .ref (q 24), .int 0, .ref (q 25), .ref (q 26), .ref (q 27), .ref (q 28), .ref (q 29), .ref (q 30), .ref (q 31), .ref (q 32), .ref (q 33), .ref (q 34), .ref (q 35), .ref (q 36), .ref (q 37), .ref (q 38), .ref (q 39), .int 0, .ref (q 40), .ref (q 41), .ref (q 42), .ref (q 43), .ref (q 44), .ref (q 45), .ref (q 46), .ref (q 47), .ref (q 48), .int 0, .int 0, .int 0, .int 0, .int 0, .int 0, .int 0, .int 0, .int 0, .int 1, .ref (q 49), .ref (q 50), .int 0, .int 0, .ref (q 51), .ref (q 52), .ref (q 53), .ref (q 54), .ref (q 55), .ref (q 56), .ref (q 57), .ref (q 58), .ref (q 59), .ref (q 60), .ref (q 61), .ref (q 62), .ref (q 63), .ref (q 64), .ref (q 65), .ref (q 66), .ref (q 67), .ref (q 68), .ref (q 69), .ref (q 70), .ref (q 71), .ref (q 72), .ref (q 73), .int 0, .int 0, .int 0, .int 0, .int 0, .ref (q 74), .ref (q 75), .int 0, .ref (q 76), .ref (q 77), .ref (q 78), .ref (q 79), .int 0, .ref (q 80), .ref (q 81), .ref (q 82), .ref (q 83), .ref (q 84), .ref (q 85), .ref (q 86), .ref (q 87), .int 0, .ref (q 88), .int 0, .int 0, .int 0, .int 0, .int 0, .int 0, .int 0])), (q 0, .inl (k_tape, 4000, .inl (upd (f) (nI n : Int32).toNatClampNeg z1)))] H := hP
          have hD : va_D A [(h0, .inr (12, [.int 0, .ref (q 0), .int (nI n), .int 0, .ref (q 1), .ref (q 2), .ref (q 3), .int 0, .int 0, .ref ks, .ref (q 4), .int 0, .int 0, .ref (q 5), .ref (q 6), .ref (q 7), .ref (q 8), .ref (q 9), .ref (q 10), .ref (q 11), .ref (q 12), .ref (q 13), .ref (q 14), .int 0, .ref (q 15), .ref (q 16), .ref (q 17), .ref (q 18), .ref (q 19), .ref (q 20), .ref (q 21), .int 0, .ref (q 22), .ref (q 23), .ref (q 24), .int 0, .ref (q 25), .ref (q 26), .ref (q 27), .ref (q 28), .ref (q 29), .ref (q 30), .ref (q 31), .ref (q 32), .ref (q 33), .ref (q 34), .ref (q 35), .ref (q 36), .ref (q 37), .ref (q 38), .ref (q 39), .int 0, .ref (q 40), .ref (q 41), .ref (q 42), .ref (q 43), .ref (q 44), .ref (q 45), .ref (q 46), .ref (q 47), .ref (q 48), .int 0, .int 0, .int 0, .int 0, .int 0, .int 0, .int 0, .int 0, .int 0, .int 1, .ref (q 49), .ref (q 50), .int 0, .int 0, .ref (q 51), .ref (q 52), .ref (q 53), .ref (q 54), .ref (q 55), .ref (q 56), .ref (q 57), .ref (q 58), .ref (q 59), .ref (q 60), .ref (q 61), .ref (q 62), .ref (q 63), .ref (q 64), .ref (q 65), .ref (q 66), .ref (q 67), .ref (q 68), .ref (q 69), .ref (q 70), .ref (q 71), .ref (q 72), .ref (q 73), .int 0, .int 0, .int 0, .int 0, .int 0, .ref (q 74), .ref (q 75), .int 0, .ref (q 76), .ref (q 77), .ref (q 78), .ref (q 79), .int 0, .ref (q 80), .ref (q 81), .ref (q 82), .ref (q 83), .ref (q 84), .ref (q 85), .ref (q 86), .ref (q 87), .int 0, .ref (q 88), .int 0, .int 0, .int 0, .int 0, .int 0, .int 0, .int 0])), (q 0, .inl (k_tape, 4000, .inl (upd (f) (nI n : Int32).toNatClampNeg z1)))] := hD
          obtain ⟨f4, ef4⟩ : ∃ g : Nat → Int32, g = (upd (f) (nI n : Int32).toNatClampNeg z1) := ⟨_, rfl⟩
          rw [← ef4] at hP hD
          have hP : va_P (dC, dI) vwCl [(h0, .inr (12, [.int 0, .ref (q 0), .int (nI n), .int 0, .ref (q 1), .ref (q 2), .ref (q 3), .int 0, .int 0, .ref ks, .ref (q 4), .int 0, .int 0, .ref (q 5), .ref (q 6), .ref (q 7), .ref (q 8), .ref (q 9), .ref (q 10), .ref (q 11), .ref (q 12), .ref (q 13), .ref (q 14), .int 0, .ref (q 15), .ref (q 16), .ref (q 17), .ref (q 18), .ref (q 19), .ref (q 20), .ref (q 21), .int 0, .ref (q 22), .ref (q 23), .ref (q 24), .int 0, .ref (q 25), .ref (q 26), .ref (q 27), .ref (q 28), .ref (q 29), .ref (q 30), .ref (q 31), .ref (q 32), .ref (q 33), .ref (q 34), .ref (q 35), .ref (q 36), .ref (q 37), .ref (q 38), .ref (q 39), .int 0, .ref (q 40), .ref (q 41), .ref (q 42), .ref (q 43), .ref (q 44), .ref (q 45), .ref (q 46), .ref (q 47), .ref (q 48), .int 0, .int 0, .int 0, .int 0, .int 0, .int 0, .int 0, .int 0, .int 0, .int 1, .ref (q 49), .ref (q 50), .int 0, .int 0, .ref (q 51), .ref (q 52), .ref (q 53), .ref (q 54), .ref (q 55), .ref (q 56), .ref (q 57), .ref (q 58), .ref (q 59), .ref (q 60), .ref (q 61), .ref (q 62), .ref (q 63), .ref (q 64), .ref (q 65), .ref (q 66), .ref (q 67), .ref (q 68), .ref (q 69), .ref (q 70), .ref (q 71), .ref (q 72), .ref (q 73), .int 0, .int 0, .int 0, .int 0, .int 0, .ref (q 74), .ref (q 75), .int 0, .ref (q 76), .ref (q 77), .ref (q 78), .ref (q 79), .int 0, .ref (q 80), .ref (q 81), .ref (q 82), .ref (q 83), .ref (q 84), .ref (q 85), .ref (q 86), .ref (q 87), .int 0, .ref (q 88), .int 0, .int 0, .int 0, .int 0, .int 0, .int 0, .int 0])), (q 0, .inl (k_tape, 4000, .inl (f4)))] H := hP
          have hD : va_D A [(h0, .inr (12, [.int 0, .ref (q 0), .int (nI n), .int 0, .ref (q 1), .ref (q 2), .ref (q 3), .int 0, .int 0, .ref ks, .ref (q 4), .int 0, .int 0, .ref (q 5), .ref (q 6), .ref (q 7), .ref (q 8), .ref (q 9), .ref (q 10), .ref (q 11), .ref (q 12), .ref (q 13), .ref (q 14), .int 0, .ref (q 15), .ref (q 16), .ref (q 17), .ref (q 18), .ref (q 19), .ref (q 20), .ref (q 21), .int 0, .ref (q 22), .ref (q 23), .ref (q 24), .int 0, .ref (q 25), .ref (q 26), .ref (q 27), .ref (q 28), .ref (q 29), .ref (q 30), .ref (q 31), .ref (q 32), .ref (q 33), .ref (q 34), .ref (q 35), .ref (q 36), .ref (q 37), .ref (q 38), .ref (q 39), .int 0, .ref (q 40), .ref (q 41), .ref (q 42), .ref (q 43), .ref (q 44), .ref (q 45), .ref (q 46), .ref (q 47), .ref (q 48), .int 0, .int 0, .int 0, .int 0, .int 0, .int 0, .int 0, .int 0, .int 0, .int 1, .ref (q 49), .ref (q 50), .int 0, .int 0, .ref (q 51), .ref (q 52), .ref (q 53), .ref (q 54), .ref (q 55), .ref (q 56), .ref (q 57), .ref (q 58), .ref (q 59), .ref (q 60), .ref (q 61), .ref (q 62), .ref (q 63), .ref (q 64), .ref (q 65), .ref (q 66), .ref (q 67), .ref (q 68), .ref (q 69), .ref (q 70), .ref (q 71), .ref (q 72), .ref (q 73), .int 0, .int 0, .int 0, .int 0, .int 0, .ref (q 74), .ref (q 75), .int 0, .ref (q 76), .ref (q 77), .ref (q 78), .ref (q 79), .int 0, .ref (q 80), .ref (q 81), .ref (q 82), .ref (q 83), .ref (q 84), .ref (q 85), .ref (q 86), .ref (q 87), .int 0, .ref (q 88), .int 0, .int 0, .int 0, .int 0, .int 0, .int 0, .int 0])), (q 0, .inl (k_tape, 4000, .inl (f4)))] := hD
          refine lv_aload_n hx hb dX12_lay_59 rfl (lv_at hl 2 rfl) ?_
          refine lv_dup hx hb dX12_lay_60 rfl ?_
          refine va_get (D := (dC, dI)) (ci := 12) (v := .int (nI n)) (C := RX12) (T := TX12) (N := 128) hx hb hts in_X12 hown hK hP 0 rfl rfl 2 (by decide) (hts _ wd_1406) (fun _ h9 => h9) rfl dX12_lay_61 ?_
          refine lv_iconst (v := 1) hx hb dX12_lay_64 (by decide) ?_
          refine lv_iadd hx hb dX12_lay_65 ?_
          refine lv_topi (fun z5 ez5 => ?_)
          refine va_put (D := (dC, dI)) (ci := 12) (v := .int z5) (ty := (tyX12 2)) (C := RX12) (T := TX12) (N := 128) hx hb hts in_X12 tyX12 tyX12_ok nmX12 hown hK hP hD hS 0 rfl rfl 2 (by decide) (hts _ wd_1406) (fun _ h9 => h9) rfl (tyX12_ok 2 (by decide)) rfl rfl (Nat.le_of_ble_eq_true rfl) dX12_lay_66 (fun H locs hP hD hS => ?_)
          have hP : va_P (dC, dI) vwCl [(h0, .inr (12, [.int 0, .ref (q 0), .int z5, .int 0, .ref (q 1), .ref (q 2), .ref (q 3), .int 0, .int 0, .ref ks, .ref (q 4), .int 0, .int 0, .ref (q 5), .ref (q 6), .ref (q 7), .ref (q 8), .ref (q 9), .ref (q 10), .ref (q 11), .ref (q 12), .ref (q 13), .ref (q 14), .int 0, .ref (q 15), .ref (q 16), .ref (q 17), .ref (q 18), .ref (q 19), .ref (q 20), .ref (q 21), .int 0, .ref (q 22), .ref (q 23), .ref (q 24), .int 0, .ref (q 25), .ref (q 26), .ref (q 27), .ref (q 28), .ref (q 29), .ref (q 30), .ref (q 31), .ref (q 32), .ref (q 33), .ref (q 34), .ref (q 35), .ref (q 36), .ref (q 37), .ref (q 38), .ref (q 39), .int 0, .ref (q 40), .ref (q 41), .ref (q 42), .ref (q 43), .ref (q 44), .ref (q 45), .ref (q 46), .ref (q 47), .ref (q 48), .int 0, .int 0, .int 0, .int 0, .int 0, .int 0, .int 0, .int 0, .int 0, .int 1, .ref (q 49), .ref (q 50), .int 0, .int 0, .ref (q 51), .ref (q 52), .ref (q 53), .ref (q 54), .ref (q 55), .ref (q 56), .ref (q 57), .ref (q 58), .ref (q 59), .ref (q 60), .ref (q 61), .ref (q 62), .ref (q 63), .ref (q 64), .ref (q 65), .ref (q 66), .ref (q 67), .ref (q 68), .ref (q 69), .ref (q 70), .ref (q 71), .ref (q 72), .ref (q 73), .int 0, .int 0, .int 0, .int 0, .int 0, .ref (q 74), .ref (q 75), .int 0, .ref (q 76), .ref (q 77), .ref (q 78), .ref (q 79), .int 0, .ref (q 80), .ref (q 81), .ref (q 82), .ref (q 83), .ref (q 84), .ref (q 85), .ref (q 86), .ref (q 87), .int 0, .ref (q 88), .int 0, .int 0, .int 0, .int 0, .int 0, .int 0, .int 0])), (q 0, .inl (k_tape, 4000, .inl (f4)))] H := hP
          have hD : va_D A [(h0, .inr (12, [.int 0, .ref (q 0), .int z5, .int 0, .ref (q 1), .ref (q 2), .ref (q 3), .int 0, .int 0, .ref ks, .ref (q 4), .int 0, .int 0, .ref (q 5), .ref (q 6), .ref (q 7), .ref (q 8), .ref (q 9), .ref (q 10), .ref (q 11), .ref (q 12), .ref (q 13), .ref (q 14), .int 0, .ref (q 15), .ref (q 16), .ref (q 17), .ref (q 18), .ref (q 19), .ref (q 20), .ref (q 21), .int 0, .ref (q 22), .ref (q 23), .ref (q 24), .int 0, .ref (q 25), .ref (q 26), .ref (q 27), .ref (q 28), .ref (q 29), .ref (q 30), .ref (q 31), .ref (q 32), .ref (q 33), .ref (q 34), .ref (q 35), .ref (q 36), .ref (q 37), .ref (q 38), .ref (q 39), .int 0, .ref (q 40), .ref (q 41), .ref (q 42), .ref (q 43), .ref (q 44), .ref (q 45), .ref (q 46), .ref (q 47), .ref (q 48), .int 0, .int 0, .int 0, .int 0, .int 0, .int 0, .int 0, .int 0, .int 0, .int 1, .ref (q 49), .ref (q 50), .int 0, .int 0, .ref (q 51), .ref (q 52), .ref (q 53), .ref (q 54), .ref (q 55), .ref (q 56), .ref (q 57), .ref (q 58), .ref (q 59), .ref (q 60), .ref (q 61), .ref (q 62), .ref (q 63), .ref (q 64), .ref (q 65), .ref (q 66), .ref (q 67), .ref (q 68), .ref (q 69), .ref (q 70), .ref (q 71), .ref (q 72), .ref (q 73), .int 0, .int 0, .int 0, .int 0, .int 0, .ref (q 74), .ref (q 75), .int 0, .ref (q 76), .ref (q 77), .ref (q 78), .ref (q 79), .int 0, .ref (q 80), .ref (q 81), .ref (q 82), .ref (q 83), .ref (q 84), .ref (q 85), .ref (q 86), .ref (q 87), .int 0, .ref (q 88), .int 0, .int 0, .int 0, .int 0, .int 0, .int 0, .int 0])), (q 0, .inl (k_tape, 4000, .inl (f4)))] := hD
          obtain ⟨z6, ez6⟩ : ∃ y : Int32, y = nI (8 * j) + -8 := ⟨_, rfl⟩
          refine lv_iinc (v := z6) (lv' := [(3, .int z6), (4, .int z1), (0, .ref h0), (1, .long v)]) hx hb dX12_lay_69 hl (k := 1) rfl (by rw [ez6]; rfl) (by decide) rfl (fun ls hl => ?_)
          refine lv_goto (tgt := 3) hx hb dX12_lay_72 (by decide) ?_
          have hok := fs_y1 c2
          rw [ez1] at hok
          have hc2 : n + (fs_n v j + (fs_ok (fs_b v j)).toNat) = n0 + fs_n v 8 := hc
          rw [show fs_ok (fs_b v j) = fs_ok (fs_c v j) from by rw [fs_bc v (by omega)], hok] at hc2
          have hP := hP
          rw [show z5 = nI (n + 1) from ez5.trans (nI_1 n)] at hP hD
          exact ih (n + 1) _ f4 _ _ _ (by omega) (by omega) (by omega) (by rw [ez6]; exact fs_m8) hP hD hS (lv_sub hl [0, 2, 3] rfl)
      · refine lv_iload hx hb dX12_lay_24 (lv_at hl 0 rfl) ?_
        refine lv_bipush (v := 32) hx hb dX12_lay_26 (by decide) ?_
        refine lv_icmp_lt (tgt := 69) hx hb dX12_lay_28 (by decide) (fun c7 => ?_) (fun c7 => ?_)
        · obtain ⟨z8, ez8⟩ : ∃ y : Int32, y = nI (8 * j) + -8 := ⟨_, rfl⟩
          refine lv_iinc (v := z8) (lv' := [(3, .int z8), (4, .int z1), (0, .ref h0), (1, .long v)]) hx hb dX12_lay_69 hl (k := 1) rfl (by rw [ez8]; rfl) (by decide) rfl (fun ls hl => ?_)
          refine lv_goto (tgt := 3) hx hb dX12_lay_72 (by decide) ?_
          have hok := fs_n1 c2 c7
          rw [ez1] at hok
          have hc2 : n + (fs_n v j + (fs_ok (fs_b v j)).toNat) = n0 + fs_n v 8 := hc
          rw [show fs_ok (fs_b v j) = fs_ok (fs_c v j) from by rw [fs_bc v (by omega)], hok] at hc2
          exact ih n _ f _ _ _ (by omega) (by omega) (by omega) (by rw [ez8]; exact fs_m8) hP hD hS (lv_sub hl [0, 2, 3] rfl)
        · refine lv_iload hx hb dX12_lay_31 (lv_at hl 0 rfl) ?_
          refine lv_bipush (v := 126) hx hb dX12_lay_33 (by decide) ?_
          refine lv_icmp_gt (tgt := 69) hx hb dX12_lay_35 (by decide) (fun c9 => ?_) (fun c9 => ?_)
          · obtain ⟨z10, ez10⟩ : ∃ y : Int32, y = nI (8 * j) + -8 := ⟨_, rfl⟩
            refine lv_iinc (v := z10) (lv' := [(3, .int z10), (4, .int z1), (0, .ref h0), (1, .long v)]) hx hb dX12_lay_69 hl (k := 1) rfl (by rw [ez10]; rfl) (by decide) rfl (fun ls hl => ?_)
            refine lv_goto (tgt := 3) hx hb dX12_lay_72 (by decide) ?_
            have hok := fs_n2 c2 c9
            rw [ez1] at hok
            have hc2 : n + (fs_n v j + (fs_ok (fs_b v j)).toNat) = n0 + fs_n v 8 := hc
            rw [show fs_ok (fs_b v j) = fs_ok (fs_c v j) from by rw [fs_bc v (by omega)], hok] at hc2
            exact ih n _ f _ _ _ (by omega) (by omega) (by omega) (by rw [ez10]; exact fs_m8) hP hD hS (lv_sub hl [0, 2, 3] rfl)
          · refine lv_aload_n hx hb dX12_lay_38 rfl (lv_at hl 2 rfl) ?_
            refine va_get (D := (dC, dI)) (ci := 12) (v := .int (nI n)) (C := RX12) (T := TX12) (N := 128) hx hb hts in_X12 hown hK hP 0 rfl rfl 2 (by decide) (hts _ wd_1406) (fun _ h9 => h9) rfl dX12_lay_39 ?_
            refine lv_sipush (v := 4000) hx hb dX12_lay_42 (by decide) ?_
            refine lv_icmp_ge (tgt := 69) hx hb dX12_lay_45 (by decide) (fun c11 => ?_) (fun c11 => ?_)
            · exact absurd (show nI 4000 ≤ nI n from c11) (nI_ge (by omega) (by omega))
            · refine lv_aload_n hx hb dX12_lay_48 rfl (lv_at hl 2 rfl) ?_
              refine va_get (D := (dC, dI)) (ci := 12) (v := .ref (q 0)) (C := RX12) (T := TX12) (N := 128) hx hb hts in_X12 hown hK hP 0 rfl rfl 1 (by decide) (hts _ wd_1405) (fun _ h9 => h9) rfl dX12_lay_49 ?_
              refine lv_aload_n hx hb dX12_lay_52 rfl (lv_at hl 2 rfl) ?_
              refine va_get (D := (dC, dI)) (ci := 12) (v := .int (nI n)) (C := RX12) (T := TX12) (N := 128) hx hb hts in_X12 hown hK hP 0 rfl rfl 2 (by decide) (hts _ wd_1406) (fun _ h9 => h9) rfl dX12_lay_53 ?_
              refine lv_iload hx hb dX12_lay_56 (lv_at hl 0 rfl) ?_
              refine va_iast hx hb hK hP hD hS 1 0 rfl rfl (vp_in_nI (by omega) (by omega)) dX12_lay_58 (fun H locs hP hD hS => ?_)
              have hP : va_P (dC, dI) vwCl [(h0, .inr (12, [.int 0, .ref (q 0), .int (nI n), .int 0, .ref (q 1), .ref (q 2), .ref (q 3), .int 0, .int 0, .ref ks, .ref (q 4), .int 0, .int 0, .ref (q 5), .ref (q 6), .ref (q 7), .ref (q 8), .ref (q 9), .ref (q 10), .ref (q 11), .ref (q 12), .ref (q 13), .ref (q 14), .int 0, .ref (q 15), .ref (q 16), .ref (q 17), .ref (q 18), .ref (q 19), .ref (q 20), .ref (q 21), .int 0, .ref (q 22), .ref (q 23), .ref (q 24), .int 0, .ref (q 25), .ref (q 26), .ref (q 27), .ref (q 28), .ref (q 29), .ref (q 30), .ref (q 31), .ref (q 32), .ref (q 33), .ref (q 34), .ref (q 35), .ref (q 36), .ref (q 37), .ref (q 38), .ref (q 39), .int 0, .ref (q 40), .ref (q 41), .ref (q 42), .ref (q 43), .ref (q 44), .ref (q 45), .ref (q 46), .ref (q 47), .ref (q 48), .int 0, .int 0, .int 0, .int 0, .int 0, .int 0, .int 0, .int 0, .int 0, .int 1, .ref (q 49), .ref (q 50), .int 0, .int 0, .ref (q 51), .ref (q 52), .ref (q 53), .ref (q 54), .ref (q 55), .ref (q 56), .ref (q 57), .ref (q 58), .ref (q 59), .ref (q 60), .ref (q 61), .ref (q 62), .ref (q 63), .ref (q 64), .ref (q 65), .ref (q 66), .ref (q 67), .ref (q 68), .ref (q 69), .ref (q 70), .ref (q 71), .ref (q 72), .ref (q 73), .int 0, .int 0, .int 0, .int 0, .int 0, .ref (q 74), .ref (q 75), .int 0, .ref (q 76), .ref (q 77), .ref (q 78), .ref (q 79), .int 0, .ref (q 80), .ref (q 81), .ref (q 82), .ref (q 83), .ref (q 84), .ref (q 85), .ref (q 86), .ref (q 87), .int 0, .ref (q 88), .int 0, .int 0, .int 0, .int 0, .int 0, .int 0, .int 0])), (q 0, .inl (k_tape, 4000, .inl (upd (f) (nI n : Int32).toNatClampNeg z1)))] H := hP
              have hD : va_D A [(h0, .inr (12, [.int 0, .ref (q 0), .int (nI n), .int 0, .ref (q 1), .ref (q 2), .ref (q 3), .int 0, .int 0, .ref ks, .ref (q 4), .int 0, .int 0, .ref (q 5), .ref (q 6), .ref (q 7), .ref (q 8), .ref (q 9), .ref (q 10), .ref (q 11), .ref (q 12), .ref (q 13), .ref (q 14), .int 0, .ref (q 15), .ref (q 16), .ref (q 17), .ref (q 18), .ref (q 19), .ref (q 20), .ref (q 21), .int 0, .ref (q 22), .ref (q 23), .ref (q 24), .int 0, .ref (q 25), .ref (q 26), .ref (q 27), .ref (q 28), .ref (q 29), .ref (q 30), .ref (q 31), .ref (q 32), .ref (q 33), .ref (q 34), .ref (q 35), .ref (q 36), .ref (q 37), .ref (q 38), .ref (q 39), .int 0, .ref (q 40), .ref (q 41), .ref (q 42), .ref (q 43), .ref (q 44), .ref (q 45), .ref (q 46), .ref (q 47), .ref (q 48), .int 0, .int 0, .int 0, .int 0, .int 0, .int 0, .int 0, .int 0, .int 0, .int 1, .ref (q 49), .ref (q 50), .int 0, .int 0, .ref (q 51), .ref (q 52), .ref (q 53), .ref (q 54), .ref (q 55), .ref (q 56), .ref (q 57), .ref (q 58), .ref (q 59), .ref (q 60), .ref (q 61), .ref (q 62), .ref (q 63), .ref (q 64), .ref (q 65), .ref (q 66), .ref (q 67), .ref (q 68), .ref (q 69), .ref (q 70), .ref (q 71), .ref (q 72), .ref (q 73), .int 0, .int 0, .int 0, .int 0, .int 0, .ref (q 74), .ref (q 75), .int 0, .ref (q 76), .ref (q 77), .ref (q 78), .ref (q 79), .int 0, .ref (q 80), .ref (q 81), .ref (q 82), .ref (q 83), .ref (q 84), .ref (q 85), .ref (q 86), .ref (q 87), .int 0, .ref (q 88), .int 0, .int 0, .int 0, .int 0, .int 0, .int 0, .int 0])), (q 0, .inl (k_tape, 4000, .inl (upd (f) (nI n : Int32).toNatClampNeg z1)))] := hD
              obtain ⟨f12, ef12⟩ : ∃ g : Nat → Int32, g = (upd (f) (nI n : Int32).toNatClampNeg z1) := ⟨_, rfl⟩
              rw [← ef12] at hP hD
              have hP : va_P (dC, dI) vwCl [(h0, .inr (12, [.int 0, .ref (q 0), .int (nI n), .int 0, .ref (q 1), .ref (q 2), .ref (q 3), .int 0, .int 0, .ref ks, .ref (q 4), .int 0, .int 0, .ref (q 5), .ref (q 6), .ref (q 7), .ref (q 8), .ref (q 9), .ref (q 10), .ref (q 11), .ref (q 12), .ref (q 13), .ref (q 14), .int 0, .ref (q 15), .ref (q 16), .ref (q 17), .ref (q 18), .ref (q 19), .ref (q 20), .ref (q 21), .int 0, .ref (q 22), .ref (q 23), .ref (q 24), .int 0, .ref (q 25), .ref (q 26), .ref (q 27), .ref (q 28), .ref (q 29), .ref (q 30), .ref (q 31), .ref (q 32), .ref (q 33), .ref (q 34), .ref (q 35), .ref (q 36), .ref (q 37), .ref (q 38), .ref (q 39), .int 0, .ref (q 40), .ref (q 41), .ref (q 42), .ref (q 43), .ref (q 44), .ref (q 45), .ref (q 46), .ref (q 47), .ref (q 48), .int 0, .int 0, .int 0, .int 0, .int 0, .int 0, .int 0, .int 0, .int 0, .int 1, .ref (q 49), .ref (q 50), .int 0, .int 0, .ref (q 51), .ref (q 52), .ref (q 53), .ref (q 54), .ref (q 55), .ref (q 56), .ref (q 57), .ref (q 58), .ref (q 59), .ref (q 60), .ref (q 61), .ref (q 62), .ref (q 63), .ref (q 64), .ref (q 65), .ref (q 66), .ref (q 67), .ref (q 68), .ref (q 69), .ref (q 70), .ref (q 71), .ref (q 72), .ref (q 73), .int 0, .int 0, .int 0, .int 0, .int 0, .ref (q 74), .ref (q 75), .int 0, .ref (q 76), .ref (q 77), .ref (q 78), .ref (q 79), .int 0, .ref (q 80), .ref (q 81), .ref (q 82), .ref (q 83), .ref (q 84), .ref (q 85), .ref (q 86), .ref (q 87), .int 0, .ref (q 88), .int 0, .int 0, .int 0, .int 0, .int 0, .int 0, .int 0])), (q 0, .inl (k_tape, 4000, .inl (f12)))] H := hP
              have hD : va_D A [(h0, .inr (12, [.int 0, .ref (q 0), .int (nI n), .int 0, .ref (q 1), .ref (q 2), .ref (q 3), .int 0, .int 0, .ref ks, .ref (q 4), .int 0, .int 0, .ref (q 5), .ref (q 6), .ref (q 7), .ref (q 8), .ref (q 9), .ref (q 10), .ref (q 11), .ref (q 12), .ref (q 13), .ref (q 14), .int 0, .ref (q 15), .ref (q 16), .ref (q 17), .ref (q 18), .ref (q 19), .ref (q 20), .ref (q 21), .int 0, .ref (q 22), .ref (q 23), .ref (q 24), .int 0, .ref (q 25), .ref (q 26), .ref (q 27), .ref (q 28), .ref (q 29), .ref (q 30), .ref (q 31), .ref (q 32), .ref (q 33), .ref (q 34), .ref (q 35), .ref (q 36), .ref (q 37), .ref (q 38), .ref (q 39), .int 0, .ref (q 40), .ref (q 41), .ref (q 42), .ref (q 43), .ref (q 44), .ref (q 45), .ref (q 46), .ref (q 47), .ref (q 48), .int 0, .int 0, .int 0, .int 0, .int 0, .int 0, .int 0, .int 0, .int 0, .int 1, .ref (q 49), .ref (q 50), .int 0, .int 0, .ref (q 51), .ref (q 52), .ref (q 53), .ref (q 54), .ref (q 55), .ref (q 56), .ref (q 57), .ref (q 58), .ref (q 59), .ref (q 60), .ref (q 61), .ref (q 62), .ref (q 63), .ref (q 64), .ref (q 65), .ref (q 66), .ref (q 67), .ref (q 68), .ref (q 69), .ref (q 70), .ref (q 71), .ref (q 72), .ref (q 73), .int 0, .int 0, .int 0, .int 0, .int 0, .ref (q 74), .ref (q 75), .int 0, .ref (q 76), .ref (q 77), .ref (q 78), .ref (q 79), .int 0, .ref (q 80), .ref (q 81), .ref (q 82), .ref (q 83), .ref (q 84), .ref (q 85), .ref (q 86), .ref (q 87), .int 0, .ref (q 88), .int 0, .int 0, .int 0, .int 0, .int 0, .int 0, .int 0])), (q 0, .inl (k_tape, 4000, .inl (f12)))] := hD
              refine lv_aload_n hx hb dX12_lay_59 rfl (lv_at hl 2 rfl) ?_
              refine lv_dup hx hb dX12_lay_60 rfl ?_
              refine va_get (D := (dC, dI)) (ci := 12) (v := .int (nI n)) (C := RX12) (T := TX12) (N := 128) hx hb hts in_X12 hown hK hP 0 rfl rfl 2 (by decide) (hts _ wd_1406) (fun _ h9 => h9) rfl dX12_lay_61 ?_
              refine lv_iconst (v := 1) hx hb dX12_lay_64 (by decide) ?_
              refine lv_iadd hx hb dX12_lay_65 ?_
              refine lv_topi (fun z13 ez13 => ?_)
              refine va_put (D := (dC, dI)) (ci := 12) (v := .int z13) (ty := (tyX12 2)) (C := RX12) (T := TX12) (N := 128) hx hb hts in_X12 tyX12 tyX12_ok nmX12 hown hK hP hD hS 0 rfl rfl 2 (by decide) (hts _ wd_1406) (fun _ h9 => h9) rfl (tyX12_ok 2 (by decide)) rfl rfl (Nat.le_of_ble_eq_true rfl) dX12_lay_66 (fun H locs hP hD hS => ?_)
              have hP : va_P (dC, dI) vwCl [(h0, .inr (12, [.int 0, .ref (q 0), .int z13, .int 0, .ref (q 1), .ref (q 2), .ref (q 3), .int 0, .int 0, .ref ks, .ref (q 4), .int 0, .int 0, .ref (q 5), .ref (q 6), .ref (q 7), .ref (q 8), .ref (q 9), .ref (q 10), .ref (q 11), .ref (q 12), .ref (q 13), .ref (q 14), .int 0, .ref (q 15), .ref (q 16), .ref (q 17), .ref (q 18), .ref (q 19), .ref (q 20), .ref (q 21), .int 0, .ref (q 22), .ref (q 23), .ref (q 24), .int 0, .ref (q 25), .ref (q 26), .ref (q 27), .ref (q 28), .ref (q 29), .ref (q 30), .ref (q 31), .ref (q 32), .ref (q 33), .ref (q 34), .ref (q 35), .ref (q 36), .ref (q 37), .ref (q 38), .ref (q 39), .int 0, .ref (q 40), .ref (q 41), .ref (q 42), .ref (q 43), .ref (q 44), .ref (q 45), .ref (q 46), .ref (q 47), .ref (q 48), .int 0, .int 0, .int 0, .int 0, .int 0, .int 0, .int 0, .int 0, .int 0, .int 1, .ref (q 49), .ref (q 50), .int 0, .int 0, .ref (q 51), .ref (q 52), .ref (q 53), .ref (q 54), .ref (q 55), .ref (q 56), .ref (q 57), .ref (q 58), .ref (q 59), .ref (q 60), .ref (q 61), .ref (q 62), .ref (q 63), .ref (q 64), .ref (q 65), .ref (q 66), .ref (q 67), .ref (q 68), .ref (q 69), .ref (q 70), .ref (q 71), .ref (q 72), .ref (q 73), .int 0, .int 0, .int 0, .int 0, .int 0, .ref (q 74), .ref (q 75), .int 0, .ref (q 76), .ref (q 77), .ref (q 78), .ref (q 79), .int 0, .ref (q 80), .ref (q 81), .ref (q 82), .ref (q 83), .ref (q 84), .ref (q 85), .ref (q 86), .ref (q 87), .int 0, .ref (q 88), .int 0, .int 0, .int 0, .int 0, .int 0, .int 0, .int 0])), (q 0, .inl (k_tape, 4000, .inl (f12)))] H := hP
              have hD : va_D A [(h0, .inr (12, [.int 0, .ref (q 0), .int z13, .int 0, .ref (q 1), .ref (q 2), .ref (q 3), .int 0, .int 0, .ref ks, .ref (q 4), .int 0, .int 0, .ref (q 5), .ref (q 6), .ref (q 7), .ref (q 8), .ref (q 9), .ref (q 10), .ref (q 11), .ref (q 12), .ref (q 13), .ref (q 14), .int 0, .ref (q 15), .ref (q 16), .ref (q 17), .ref (q 18), .ref (q 19), .ref (q 20), .ref (q 21), .int 0, .ref (q 22), .ref (q 23), .ref (q 24), .int 0, .ref (q 25), .ref (q 26), .ref (q 27), .ref (q 28), .ref (q 29), .ref (q 30), .ref (q 31), .ref (q 32), .ref (q 33), .ref (q 34), .ref (q 35), .ref (q 36), .ref (q 37), .ref (q 38), .ref (q 39), .int 0, .ref (q 40), .ref (q 41), .ref (q 42), .ref (q 43), .ref (q 44), .ref (q 45), .ref (q 46), .ref (q 47), .ref (q 48), .int 0, .int 0, .int 0, .int 0, .int 0, .int 0, .int 0, .int 0, .int 0, .int 1, .ref (q 49), .ref (q 50), .int 0, .int 0, .ref (q 51), .ref (q 52), .ref (q 53), .ref (q 54), .ref (q 55), .ref (q 56), .ref (q 57), .ref (q 58), .ref (q 59), .ref (q 60), .ref (q 61), .ref (q 62), .ref (q 63), .ref (q 64), .ref (q 65), .ref (q 66), .ref (q 67), .ref (q 68), .ref (q 69), .ref (q 70), .ref (q 71), .ref (q 72), .ref (q 73), .int 0, .int 0, .int 0, .int 0, .int 0, .ref (q 74), .ref (q 75), .int 0, .ref (q 76), .ref (q 77), .ref (q 78), .ref (q 79), .int 0, .ref (q 80), .ref (q 81), .ref (q 82), .ref (q 83), .ref (q 84), .ref (q 85), .ref (q 86), .ref (q 87), .int 0, .ref (q 88), .int 0, .int 0, .int 0, .int 0, .int 0, .int 0, .int 0])), (q 0, .inl (k_tape, 4000, .inl (f12)))] := hD
              obtain ⟨z14, ez14⟩ : ∃ y : Int32, y = nI (8 * j) + -8 := ⟨_, rfl⟩
              refine lv_iinc (v := z14) (lv' := [(3, .int z14), (4, .int z1), (0, .ref h0), (1, .long v)]) hx hb dX12_lay_69 hl (k := 1) rfl (by rw [ez14]; rfl) (by decide) rfl (fun ls hl => ?_)
              refine lv_goto (tgt := 3) hx hb dX12_lay_72 (by decide) ?_
              have hok := fs_y2 c7 c9
              rw [ez1] at hok
              have hc2 : n + (fs_n v j + (fs_ok (fs_b v j)).toNat) = n0 + fs_n v 8 := hc
              rw [show fs_ok (fs_b v j) = fs_ok (fs_c v j) from by rw [fs_bc v (by omega)], hok] at hc2
              have hP := hP
              rw [show z13 = nI (n + 1) from ez13.trans (nI_1 n)] at hP hD
              exact ih (n + 1) _ f12 _ _ _ (by omega) (by omega) (by omega) (by rw [ez14]; exact fs_m8) hP hD hS (lv_sub hl [0, 2, 3] rfl)
  exact loop 8 n0 _ f0 _ _ _ (Nat.le_refl 8) (by omega) rfl (by decide) hP hD hS hl
