theorem wd_103 : (Jvm.Cond.fieldLink "Sleepers$Tokens" (45 : Nat) "Sleepers$Tokens" "signs" "I") ∈ tb := tb_at 103 (by decide +kernel) (by decide +kernel)
theorem dX10_add_0 : decode cX10_add 0 = .ok (.bipush 56, 2) := by decide +kernel
theorem dX10_add_2 : decode cX10_add 2 = .ok (.istore_n 3, 1) := by decide +kernel
theorem dX10_add_3 : decode cX10_add 3 = .ok (.iload_n 3, 1) := by decide +kernel
theorem dX10_add_4 : decode cX10_add 4 = .ok (.ifCond .lt 72, 3) := by decide +kernel
theorem dX10_add_7 : decode cX10_add 7 = .ok (.lload_n 1, 1) := by decide +kernel
theorem dX10_add_8 : decode cX10_add 8 = .ok (.iload_n 3, 1) := by decide +kernel
theorem dX10_add_9 : decode cX10_add 9 = .ok (.lushr, 1) := by decide +kernel
theorem dX10_add_10 : decode cX10_add 10 = .ok (.l2i, 1) := by decide +kernel
theorem dX10_add_11 : decode cX10_add 11 = .ok (.sipush 255, 3) := by decide +kernel
theorem dX10_add_14 : decode cX10_add 14 = .ok (.iand, 1) := by decide +kernel
theorem dX10_add_15 : decode cX10_add 15 = .ok (.istore 4, 2) := by decide +kernel
theorem dX10_add_17 : decode cX10_add 17 = .ok (.iload 4, 2) := by decide +kernel
theorem dX10_add_19 : decode cX10_add 19 = .ok (.bipush 10, 2) := by decide +kernel
theorem dX10_add_21 : decode cX10_add 21 = .ok (.if_icmp .eq 17, 3) := by decide +kernel
theorem dX10_add_24 : decode cX10_add 24 = .ok (.iload 4, 2) := by decide +kernel
theorem dX10_add_26 : decode cX10_add 26 = .ok (.bipush 32, 2) := by decide +kernel
theorem dX10_add_28 : decode cX10_add 28 = .ok (.if_icmp .lt 42, 3) := by decide +kernel
theorem dX10_add_31 : decode cX10_add 31 = .ok (.iload 4, 2) := by decide +kernel
theorem dX10_add_33 : decode cX10_add 33 = .ok (.bipush 126, 2) := by decide +kernel
theorem dX10_add_35 : decode cX10_add 35 = .ok (.if_icmp .gt 35, 3) := by decide +kernel
theorem dX10_add_38 : decode cX10_add 38 = .ok (.aload_n 0, 1) := by decide +kernel
theorem dX10_add_39 : decode cX10_add 39 = .ok (.getfield 45, 3) := by decide +kernel
theorem dX10_add_42 : decode cX10_add 42 = .ok (.sipush 4000, 3) := by decide +kernel
theorem dX10_add_45 : decode cX10_add 45 = .ok (.if_icmp .ge 25, 3) := by decide +kernel
theorem dX10_add_48 : decode cX10_add 48 = .ok (.aload_n 0, 1) := by decide +kernel
theorem dX10_add_49 : decode cX10_add 49 = .ok (.getfield 22, 3) := by decide +kernel
theorem dX10_add_52 : decode cX10_add 52 = .ok (.aload_n 0, 1) := by decide +kernel
theorem dX10_add_53 : decode cX10_add 53 = .ok (.getfield 45, 3) := by decide +kernel
theorem dX10_add_56 : decode cX10_add 56 = .ok (.iload 4, 2) := by decide +kernel
theorem dX10_add_58 : decode cX10_add 58 = .ok (.i2c, 1) := by decide +kernel
theorem dX10_add_59 : decode cX10_add 59 = .ok (.castore, 1) := by decide +kernel
theorem dX10_add_60 : decode cX10_add 60 = .ok (.aload_n 0, 1) := by decide +kernel
theorem dX10_add_61 : decode cX10_add 61 = .ok (.dup, 1) := by decide +kernel
theorem dX10_add_62 : decode cX10_add 62 = .ok (.getfield 45, 3) := by decide +kernel
theorem dX10_add_65 : decode cX10_add 65 = .ok (.iconst 1, 1) := by decide +kernel
theorem dX10_add_66 : decode cX10_add 66 = .ok (.iadd, 1) := by decide +kernel
theorem dX10_add_67 : decode cX10_add 67 = .ok (.putfield 45, 3) := by decide +kernel
theorem dX10_add_70 : decode cX10_add 70 = .ok (.iinc 3 (-8), 3) := by decide +kernel
theorem dX10_add_73 : decode cX10_add 73 = .ok (.goto (-70), 3) := by decide +kernel
theorem dX10_add_76 : decode cX10_add 76 = .ok (.return_, 1) := by decide +kernel
set_option maxHeartbeats 4000000 in
set_option maxRecDepth 100000 in
theorem ct_X10_add (l : Launch) (dC : Nat → ClassId) (dI : Nat → Nat → Nat) (h0 : Nat) (kd : Nat) (pl : Nat) (va : Nat) (tp : Nat) (rs : Nat) (cn : Int32) (ktp : ClassId) (n0 : Nat) (f0 : Nat → Int32) (v : Int64) (sz : Nat) (hn0 : n0 ≤ 4000) : Met l yX10_add (.code yX10_add cX10_add 5 none :: tb) ({ frames := 0, cells := 0, slots := 0, locals := 0 }) (va_Pc [.ref h0, .long v] (fun U => U.heap.size = sz ∧ va_P (dC, dI) vwCl [(h0, .inr (10, [.ref kd, .ref pl, .ref va, .int cn, .int (nI n0), .ref tp, .ref rs])), (tp, .inl (ktp, 4000, .inl (f0)))] U.heap ∧ va_K (dC, dI) vwCl [(ktp, .char)] U ∧ va_D (fun _ => True) [(h0, .inr (10, [.ref kd, .ref pl, .ref va, .int cn, .int (nI n0), .ref tp, .ref rs])), (tp, .inl (ktp, 4000, .inl (f0)))])) (va_Qv (fun (_ : Unit) => True) (fun (_ : Unit) t => ∃ (f : Nat → Int32), va_P (dC, dI) vwCl [(h0, .inr (10, [.ref kd, .ref pl, .ref va, .int cn, .int (nI (min 4000 (n0 + fs_n v 8))), .ref tp, .ref rs])), (tp, .inl (ktp, 4000, .inl (f)))] t.heap ∧ va_K (dC, dI) vwCl [] t ∧ va_D (va_A [(h0, .inr (10, [.ref kd, .ref pl, .ref va, .int cn, .int (nI n0), .ref tp, .ref rs])), (tp, .inl (ktp, 4000, .inl (f0)))] sz) [(h0, .inr (10, [.ref kd, .ref pl, .ref va, .int cn, .int (nI (min 4000 (n0 + fs_n v 8))), .ref tp, .ref rs])), (tp, .inl (ktp, 4000, .inl (f)))]) (va_A [(h0, .inr (10, [.ref kd, .ref pl, .ref va, .int cn, .int (nI n0), .ref tp, .ref rs])), (tp, .inl (ktp, 4000, .inl (f0)))] sz)) 0 0 (va_A [(h0, .inr (10, [.ref kd, .ref pl, .ref va, .int cn, .int (nI n0), .ref tp, .ref rs])), (tp, .inl (ktp, 4000, .inl (f0)))] sz) := by
  refine Met.ofW (cc := cX10_add) (maxL := 5) (ret := none) (by decide) rfl ?_
  intro p e s m args below meth c s₁ B hml hv
  obtain ⟨rfl, hsz, hP, hK, hD0⟩ := hv
  have hx := B.exec
  have hb := B.bytes
  have hr := B.returns
  have hts : ∀ w ∈ tb, w.before _ s = true := fun w h => atoms_spec (ws := (.code yX10_add cX10_add 5 none :: tb)) B.pre w (List.mem_cons_of_mem _ h)
  have hown : s.vm.findClass RX10 = some m.cls := findClass_of_methodNamed B.named
  have hlocks := B.notSynchronized
  subst hsz
  have hD := hD0.self (sz := s.heap.size)
  generalize hAe : va_A [(h0, .inr (10, [.ref kd, .ref pl, .ref va, .int cn, .int (nI n0), .ref tp, .ref rs])), (tp, .inl (ktp, 4000, .inl (f0)))] s.heap.size = A at hD ⊢
  have hA : ∀ q : Nat, s.heap.size ≤ q → A q := fun q h => by rw [← hAe]; exact Or.inr h
  have hS : va_S A s.heap s.heap [] := va_S.rf
  have hP : va_P (dC, dI) vwCl [(h0, .inr (10, [.ref kd, .ref pl, .ref va, .int cn, .int (nI n0), .ref tp, .ref rs])), (tp, .inl (ktp, 4000, .inl (f0)))] s.heap := hP
  have hl := lv_entry ([.ref h0, .long v]) (n := 5) (Nat.le_of_ble_eq_true rfl)
  rw [lg_entry_eq]
  generalize (lg_sl ([.ref h0, .long v]) ++ List.replicate (5 - (lg_sl ([.ref h0, .long v])).length) Slot.unset).toArray = ls at hl ⊢
  have hl : lv_has ls 5 [(0, .ref h0), (1, .long v)] := hl
  refine lv_bipush (v := 56) hx hb dX10_add_0 (by decide) ?_
  refine lv_istore_n (lv' := [(3, .int 56), (0, .ref h0), (1, .long v)]) hx hb dX10_add_2 rfl hl (by decide) rfl (fun ls hl => ?_)
  generalize hQ : MQ below _ _ s _ _ A = Q
  generalize hR : (headSpec _ _).room = R
  have loop : ∀ (j n : Nat) (sh : Int32) (f : Nat → Int32) (H : Heap) (locs : List Loc) (ls : Array Slot), j ≤ 8 → n ≤ 4000 → min 4000 (n + fs_n v j) = min 4000 (n0 + fs_n v 8) → sh = nI (8 * j) - 8 → va_P (dC, dI) vwCl [(h0, .inr (10, [.ref kd, .ref pl, .ref va, .int cn, .int (nI n), .ref tp, .ref rs])), (tp, .inl (ktp, 4000, .inl (f)))] H → va_D A [(h0, .inr (10, [.ref kd, .ref pl, .ref va, .int cn, .int (nI n), .ref tp, .ref rs])), (tp, .inl (ktp, 4000, .inl (f)))] → va_S A s.heap H locs → lv_has ls 5 [(3, .int sh), (0, .ref h0), (1, .long v)] → W p l e R s m #[.ref h0, .long v] below meth c H locs 0 0 Q (F0 m 3 ls []) := by
    intro j
    induction j with
    | zero =>
      intro n sh f H locs ls hj hn hc hsh hP hD hS hl
      refine lv_iload_n hx hb dX10_add_3 rfl (lv_at hl 0 rfl) ?_
      refine lv_if_lt (tgt := 76) hx hb dX10_add_4 (by decide) (fun _ => ?_) (fun h => absurd (by rw [hsh]; exact fs_neg) h)
      subst hQ
      subst hR
      have hc9 : min 4000 (n + 0) = min 4000 (n0 + fs_n v 8) := hc
      obtain rfl : n = min 4000 (n0 + fs_n v 8) := by omega
      have hP9 := hP.sub (ws' := [(h0, .inr (10, [.ref kd, .ref pl, .ref va, .int cn, .int (nI (min 4000 (n0 + fs_n v 8))), .ref tp, .ref rs])), (tp, .inl (ktp, 4000, .inl (f)))]) [0, 1] rfl
      have hD9 := hD.sub (ws' := [(h0, .inr (10, [.ref kd, .ref pl, .ref va, .int cn, .int (nI (min 4000 (n0 + fs_n v 8))), .ref tp, .ref rs])), (tp, .inl (ktp, 4000, .inl (f)))]) [0, 1] (by decide) rfl
      have hK9 := hK.sub (tys' := []) [] rfl
      refine W.widen (k := 0) (n := 0) (Nat.le_of_ble_eq_true rfl) (Nat.le_of_ble_eq_true rfl) ?_
      exact W.vret hx hb hr (fun t ht hW => ⟨⟨(), rfl, trivial, f, by rw [ht]; exact hP9, va_K.moved hW.alike hK9, hD9⟩, hS.F ht⟩) hS.2.2 dX10_add_76
    | succ j ih =>
      intro n sh f H locs ls hj hn hc hsh hP hD hS hl
      rw [fs_sh j (by omega)] at hsh
      subst hsh
      have hc2 : min 4000 (n + (fs_n v j + (fs_ok (fs_b v j)).toNat)) = min 4000 (n0 + fs_n v 8) := hc
      refine lv_iload_n hx hb dX10_add_3 rfl (lv_at hl 0 rfl) ?_
      refine lv_if_lt (tgt := 76) hx hb dX10_add_4 (by decide) (fun h => absurd h (fs_npos (by omega))) (fun _ => ?_)
      refine lv_lload_n hx hb dX10_add_7 rfl (lv_at hl 2 rfl) ?_
      refine lv_iload_n hx hb dX10_add_8 rfl (lv_at hl 0 rfl) ?_
      refine lv_lushr hx hb dX10_add_9 rfl ?_
      refine lv_l2i hx hb dX10_add_10 rfl ?_
      refine lv_sipush (v := 255) hx hb dX10_add_11 (by decide) ?_
      refine lv_iand hx hb dX10_add_14 ?_
      refine lv_topi (fun z1 ez1 => ?_)
      replace ez1 : z1 = fs_b v j := ez1
      refine lv_istore (lv' := [(4, .int z1), (3, .int (nI (8 * j))), (0, .ref h0), (1, .long v)]) hx hb dX10_add_15 hl (by decide) rfl (fun ls hl => ?_)
      refine lv_iload hx hb dX10_add_17 (lv_at hl 0 rfl) ?_
      refine lv_bipush (v := 10) hx hb dX10_add_19 (by decide) ?_
      refine lv_icmp_eq (tgt := 38) hx hb dX10_add_21 (by decide) (fun c2 => ?_) (fun c2 => ?_)
      · refine lv_aload_n hx hb dX10_add_38 rfl (lv_at hl 2 rfl) ?_
        refine va_get (D := (dC, dI)) (ci := 10) (v := .int (nI n)) (C := RX10) (T := TX10) (N := 7) hx hb hts in_X10 hown hK hP 0 rfl rfl 4 (by decide) (hts _ wd_103) (fun _ h9 => h9) rfl dX10_add_39 ?_
        refine lv_sipush (v := 4000) hx hb dX10_add_42 (by decide) ?_
        refine lv_icmp_ge (tgt := 70) hx hb dX10_add_45 (by decide) (fun c3 => ?_) (fun c3 => ?_)
        · have hfull : 4000 ≤ n := by rcases Nat.lt_or_ge n 4000 with q | q; exact absurd (show nI 4000 ≤ nI n from c3) (nI_ge (by omega) (by omega)); exact q
          obtain ⟨z4, ez4⟩ : ∃ y : Int32, y = nI (8 * j) + -8 := ⟨_, rfl⟩
          refine lv_iinc (v := z4) (lv' := [(3, .int z4), (4, .int z1), (0, .ref h0), (1, .long v)]) hx hb dX10_add_70 hl (k := 1) rfl (by rw [ez4]; rfl) (by decide) rfl (fun ls hl => ?_)
          refine lv_goto (tgt := 3) hx hb dX10_add_73 (by decide) ?_
          exact ih n _ f _ _ _ (by omega) (by omega) (by omega) (by rw [ez4]; exact fs_m8) hP hD hS (lv_sub hl [0, 2, 3] rfl)
        · have hlt : n < 4000 := by rcases Nat.lt_or_ge n 4000 with q | q; exact q; exact absurd (show nI 4000 ≤ nI n from nI_le q (by omega)) c3
          refine lv_aload_n hx hb dX10_add_48 rfl (lv_at hl 2 rfl) ?_
          refine va_get (D := (dC, dI)) (ci := 10) (v := .ref tp) (C := RX10) (T := TX10) (N := 7) hx hb hts in_X10 hown hK hP 0 rfl rfl 5 (by decide) (hts _ wd_104) (fun _ h9 => h9) rfl dX10_add_49 ?_
          refine lv_aload_n hx hb dX10_add_52 rfl (lv_at hl 2 rfl) ?_
          refine va_get (D := (dC, dI)) (ci := 10) (v := .int (nI n)) (C := RX10) (T := TX10) (N := 7) hx hb hts in_X10 hown hK hP 0 rfl rfl 4 (by decide) (hts _ wd_103) (fun _ h9 => h9) rfl dX10_add_53 ?_
          refine lv_iload hx hb dX10_add_56 (lv_at hl 0 rfl) ?_
          refine lv_i2c hx hb dX10_add_58 rfl ?_
          refine lv_topi (fun z5 ez5 => ?_)
          refine va_cast hx hb hK hP hD hS 1 0 rfl rfl (vp_in_nI (by omega) (by omega)) dX10_add_59 (fun H locs hP hD hS => ?_)
          have hP : va_P (dC, dI) vwCl [(h0, .inr (10, [.ref kd, .ref pl, .ref va, .int cn, .int (nI n), .ref tp, .ref rs])), (tp, .inl (ktp, 4000, .inl (upd (f) (nI n : Int32).toNatClampNeg (vp_nar .char z5))))] H := hP
          have hD : va_D A [(h0, .inr (10, [.ref kd, .ref pl, .ref va, .int cn, .int (nI n), .ref tp, .ref rs])), (tp, .inl (ktp, 4000, .inl (upd (f) (nI n : Int32).toNatClampNeg (vp_nar .char z5))))] := hD
          obtain ⟨f6, ef6⟩ : ∃ g : Nat → Int32, g = (upd (f) (nI n : Int32).toNatClampNeg (vp_nar .char z5)) := ⟨_, rfl⟩
          rw [← ef6] at hP hD
          have hP : va_P (dC, dI) vwCl [(h0, .inr (10, [.ref kd, .ref pl, .ref va, .int cn, .int (nI n), .ref tp, .ref rs])), (tp, .inl (ktp, 4000, .inl (f6)))] H := hP
          have hD : va_D A [(h0, .inr (10, [.ref kd, .ref pl, .ref va, .int cn, .int (nI n), .ref tp, .ref rs])), (tp, .inl (ktp, 4000, .inl (f6)))] := hD
          refine lv_aload_n hx hb dX10_add_60 rfl (lv_at hl 2 rfl) ?_
          refine lv_dup hx hb dX10_add_61 rfl ?_
          refine va_get (D := (dC, dI)) (ci := 10) (v := .int (nI n)) (C := RX10) (T := TX10) (N := 7) hx hb hts in_X10 hown hK hP 0 rfl rfl 4 (by decide) (hts _ wd_103) (fun _ h9 => h9) rfl dX10_add_62 ?_
          refine lv_iconst (v := 1) hx hb dX10_add_65 (by decide) ?_
          refine lv_iadd hx hb dX10_add_66 ?_
          refine lv_topi (fun z7 ez7 => ?_)
          refine va_put (D := (dC, dI)) (ci := 10) (v := .int z7) (ty := (tyX10 4)) (C := RX10) (T := TX10) (N := 7) hx hb hts in_X10 tyX10 tyX10_ok nmX10 hown hK hP hD hS 0 rfl rfl 4 (by decide) (hts _ wd_103) (fun _ h9 => h9) rfl (tyX10_ok 4 (by decide)) rfl rfl (Nat.le_of_ble_eq_true rfl) dX10_add_67 (fun H locs hP hD hS => ?_)
          have hP : va_P (dC, dI) vwCl [(h0, .inr (10, [.ref kd, .ref pl, .ref va, .int cn, .int z7, .ref tp, .ref rs])), (tp, .inl (ktp, 4000, .inl (f6)))] H := hP
          have hD : va_D A [(h0, .inr (10, [.ref kd, .ref pl, .ref va, .int cn, .int z7, .ref tp, .ref rs])), (tp, .inl (ktp, 4000, .inl (f6)))] := hD
          obtain ⟨z8, ez8⟩ : ∃ y : Int32, y = nI (8 * j) + -8 := ⟨_, rfl⟩
          refine lv_iinc (v := z8) (lv' := [(3, .int z8), (4, .int z1), (0, .ref h0), (1, .long v)]) hx hb dX10_add_70 hl (k := 1) rfl (by rw [ez8]; rfl) (by decide) rfl (fun ls hl => ?_)
          refine lv_goto (tgt := 3) hx hb dX10_add_73 (by decide) ?_
          have hok := fs_y1 c2
          rw [ez1] at hok
          rw [hok] at hc2
          rw [show z7 = nI (n + 1) from ez7.trans (nI_1 n)] at hP hD
          exact ih (n + 1) _ f6 _ _ _ (by omega) (by omega) (by omega) (by rw [ez8]; exact fs_m8) hP hD hS (lv_sub hl [0, 2, 3] rfl)
      · refine lv_iload hx hb dX10_add_24 (lv_at hl 0 rfl) ?_
        refine lv_bipush (v := 32) hx hb dX10_add_26 (by decide) ?_
        refine lv_icmp_lt (tgt := 70) hx hb dX10_add_28 (by decide) (fun c9 => ?_) (fun c9 => ?_)
        · obtain ⟨z10, ez10⟩ : ∃ y : Int32, y = nI (8 * j) + -8 := ⟨_, rfl⟩
          refine lv_iinc (v := z10) (lv' := [(3, .int z10), (4, .int z1), (0, .ref h0), (1, .long v)]) hx hb dX10_add_70 hl (k := 1) rfl (by rw [ez10]; rfl) (by decide) rfl (fun ls hl => ?_)
          refine lv_goto (tgt := 3) hx hb dX10_add_73 (by decide) ?_
          have hok := fs_n1 c2 c9
          rw [ez1] at hok
          rw [hok] at hc2
          exact ih n _ f _ _ _ (by omega) (by omega) (by omega) (by rw [ez10]; exact fs_m8) hP hD hS (lv_sub hl [0, 2, 3] rfl)
        · refine lv_iload hx hb dX10_add_31 (lv_at hl 0 rfl) ?_
          refine lv_bipush (v := 126) hx hb dX10_add_33 (by decide) ?_
          refine lv_icmp_gt (tgt := 70) hx hb dX10_add_35 (by decide) (fun c11 => ?_) (fun c11 => ?_)
          · obtain ⟨z12, ez12⟩ : ∃ y : Int32, y = nI (8 * j) + -8 := ⟨_, rfl⟩
            refine lv_iinc (v := z12) (lv' := [(3, .int z12), (4, .int z1), (0, .ref h0), (1, .long v)]) hx hb dX10_add_70 hl (k := 1) rfl (by rw [ez12]; rfl) (by decide) rfl (fun ls hl => ?_)
            refine lv_goto (tgt := 3) hx hb dX10_add_73 (by decide) ?_
            have hok := fs_n2 c2 c11
            rw [ez1] at hok
            rw [hok] at hc2
            exact ih n _ f _ _ _ (by omega) (by omega) (by omega) (by rw [ez12]; exact fs_m8) hP hD hS (lv_sub hl [0, 2, 3] rfl)
          · refine lv_aload_n hx hb dX10_add_38 rfl (lv_at hl 2 rfl) ?_
            refine va_get (D := (dC, dI)) (ci := 10) (v := .int (nI n)) (C := RX10) (T := TX10) (N := 7) hx hb hts in_X10 hown hK hP 0 rfl rfl 4 (by decide) (hts _ wd_103) (fun _ h9 => h9) rfl dX10_add_39 ?_
            refine lv_sipush (v := 4000) hx hb dX10_add_42 (by decide) ?_
            refine lv_icmp_ge (tgt := 70) hx hb dX10_add_45 (by decide) (fun c13 => ?_) (fun c13 => ?_)
            · have hfull : 4000 ≤ n := by rcases Nat.lt_or_ge n 4000 with q | q; exact absurd (show nI 4000 ≤ nI n from c13) (nI_ge (by omega) (by omega)); exact q
              obtain ⟨z14, ez14⟩ : ∃ y : Int32, y = nI (8 * j) + -8 := ⟨_, rfl⟩
              refine lv_iinc (v := z14) (lv' := [(3, .int z14), (4, .int z1), (0, .ref h0), (1, .long v)]) hx hb dX10_add_70 hl (k := 1) rfl (by rw [ez14]; rfl) (by decide) rfl (fun ls hl => ?_)
              refine lv_goto (tgt := 3) hx hb dX10_add_73 (by decide) ?_
              exact ih n _ f _ _ _ (by omega) (by omega) (by omega) (by rw [ez14]; exact fs_m8) hP hD hS (lv_sub hl [0, 2, 3] rfl)
            · have hlt : n < 4000 := by rcases Nat.lt_or_ge n 4000 with q | q; exact q; exact absurd (show nI 4000 ≤ nI n from nI_le q (by omega)) c13
              refine lv_aload_n hx hb dX10_add_48 rfl (lv_at hl 2 rfl) ?_
              refine va_get (D := (dC, dI)) (ci := 10) (v := .ref tp) (C := RX10) (T := TX10) (N := 7) hx hb hts in_X10 hown hK hP 0 rfl rfl 5 (by decide) (hts _ wd_104) (fun _ h9 => h9) rfl dX10_add_49 ?_
              refine lv_aload_n hx hb dX10_add_52 rfl (lv_at hl 2 rfl) ?_
              refine va_get (D := (dC, dI)) (ci := 10) (v := .int (nI n)) (C := RX10) (T := TX10) (N := 7) hx hb hts in_X10 hown hK hP 0 rfl rfl 4 (by decide) (hts _ wd_103) (fun _ h9 => h9) rfl dX10_add_53 ?_
              refine lv_iload hx hb dX10_add_56 (lv_at hl 0 rfl) ?_
              refine lv_i2c hx hb dX10_add_58 rfl ?_
              refine lv_topi (fun z15 ez15 => ?_)
              refine va_cast hx hb hK hP hD hS 1 0 rfl rfl (vp_in_nI (by omega) (by omega)) dX10_add_59 (fun H locs hP hD hS => ?_)
              have hP : va_P (dC, dI) vwCl [(h0, .inr (10, [.ref kd, .ref pl, .ref va, .int cn, .int (nI n), .ref tp, .ref rs])), (tp, .inl (ktp, 4000, .inl (upd (f) (nI n : Int32).toNatClampNeg (vp_nar .char z15))))] H := hP
              have hD : va_D A [(h0, .inr (10, [.ref kd, .ref pl, .ref va, .int cn, .int (nI n), .ref tp, .ref rs])), (tp, .inl (ktp, 4000, .inl (upd (f) (nI n : Int32).toNatClampNeg (vp_nar .char z15))))] := hD
              obtain ⟨f16, ef16⟩ : ∃ g : Nat → Int32, g = (upd (f) (nI n : Int32).toNatClampNeg (vp_nar .char z15)) := ⟨_, rfl⟩
              rw [← ef16] at hP hD
              have hP : va_P (dC, dI) vwCl [(h0, .inr (10, [.ref kd, .ref pl, .ref va, .int cn, .int (nI n), .ref tp, .ref rs])), (tp, .inl (ktp, 4000, .inl (f16)))] H := hP
              have hD : va_D A [(h0, .inr (10, [.ref kd, .ref pl, .ref va, .int cn, .int (nI n), .ref tp, .ref rs])), (tp, .inl (ktp, 4000, .inl (f16)))] := hD
              refine lv_aload_n hx hb dX10_add_60 rfl (lv_at hl 2 rfl) ?_
              refine lv_dup hx hb dX10_add_61 rfl ?_
              refine va_get (D := (dC, dI)) (ci := 10) (v := .int (nI n)) (C := RX10) (T := TX10) (N := 7) hx hb hts in_X10 hown hK hP 0 rfl rfl 4 (by decide) (hts _ wd_103) (fun _ h9 => h9) rfl dX10_add_62 ?_
              refine lv_iconst (v := 1) hx hb dX10_add_65 (by decide) ?_
              refine lv_iadd hx hb dX10_add_66 ?_
              refine lv_topi (fun z17 ez17 => ?_)
              refine va_put (D := (dC, dI)) (ci := 10) (v := .int z17) (ty := (tyX10 4)) (C := RX10) (T := TX10) (N := 7) hx hb hts in_X10 tyX10 tyX10_ok nmX10 hown hK hP hD hS 0 rfl rfl 4 (by decide) (hts _ wd_103) (fun _ h9 => h9) rfl (tyX10_ok 4 (by decide)) rfl rfl (Nat.le_of_ble_eq_true rfl) dX10_add_67 (fun H locs hP hD hS => ?_)
              have hP : va_P (dC, dI) vwCl [(h0, .inr (10, [.ref kd, .ref pl, .ref va, .int cn, .int z17, .ref tp, .ref rs])), (tp, .inl (ktp, 4000, .inl (f16)))] H := hP
              have hD : va_D A [(h0, .inr (10, [.ref kd, .ref pl, .ref va, .int cn, .int z17, .ref tp, .ref rs])), (tp, .inl (ktp, 4000, .inl (f16)))] := hD
              obtain ⟨z18, ez18⟩ : ∃ y : Int32, y = nI (8 * j) + -8 := ⟨_, rfl⟩
              refine lv_iinc (v := z18) (lv' := [(3, .int z18), (4, .int z1), (0, .ref h0), (1, .long v)]) hx hb dX10_add_70 hl (k := 1) rfl (by rw [ez18]; rfl) (by decide) rfl (fun ls hl => ?_)
              refine lv_goto (tgt := 3) hx hb dX10_add_73 (by decide) ?_
              have hok := fs_y2 c9 c11
              rw [ez1] at hok
              rw [hok] at hc2
              rw [show z17 = nI (n + 1) from ez17.trans (nI_1 n)] at hP hD
              exact ih (n + 1) _ f16 _ _ _ (by omega) (by omega) (by omega) (by rw [ez18]; exact fs_m8) hP hD hS (lv_sub hl [0, 2, 3] rfl)
  exact loop 8 n0 _ f0 _ _ _ (Nat.le_refl 8) (by omega) rfl (by decide) hP hD hS hl
