
theorem inR_nI {i : Int32} {n : Nat} (h : inR i n) : nI (ix i) = i := by
  have h1 := inR_ix h
  have h2 : i.toInt < 2 ^ 31 := by have := i.toInt_lt; omega
  exact Int32.toInt_inj.mp (by rw [nI_toInt (by have := inR_ix h; omega)]; exact h1.symm)
theorem mq_charAt {p : Program} {l : Launch} {e : Env} {R : Room} {s : State} {m : MethodId} {args : Array Value} {below : List Frame} {meth : Method} {c : Code} {H : Heap} {locs : List Loc} {cells slots : Nat} {Q : State → Prop} {cc : ByteArray} {nL pc index : Nat} {ls : Array Slot} {rest : List Value} {E : mE} {A : Nat → Prop} {S : mS} {own : String} (hX : mXo own p s m args c cc nL E A) (hC : mC E A s.heap S H locs) {a v n : Nat} {bs : List Int32} (hsx : sx_F a v n bs A s s.heap) (hsj : sj_F A s s.heap) (hn : n < 2 ^ 31) {i : Int32} (hk : inR i n) (cw : CallW R s args own RJ0 index yJ0_charAt_5068e cJ0_charAt_5068e 2 (some .char) (.code yJ0_charAt_5068e cJ0_charAt_5068e 2 (some .char) :: tb) ({ frames := 3, cells := 0, slots := 0, locals := 64 }) 0 0 1) (hls : ls.size = nL) (hW : (rest.map fun v => v.category).sum ≤ 8) (hf : cells ≤ R.cells ∧ slots ≤ R.slots) (hd : decode cc pc = .ok (.invokevirtual index, 3)) (kk : ∀ (H1 : Heap) (locs1 : List Loc), mC E A s.heap S H1 locs1 → W p l e R s m args below meth c H1 locs1 cells slots Q (F0 m (pc + 3) ls (.int (sx_c bs (ix i)) :: rest))) : W p l e R s m args below meth c H locs cells slots Q (F0 m pc ls (.int i :: .ref a :: rest)) := by
  have e := inR_nI hk
  have q := mx_charAt (k := ix i) (rest := rest) hX hC hsx hsj hn (inR_lt hk) cw hls hW hf hd kk
  rw [e] at q
  exact q
def wp_minit_812 (nn : Nat) (bs : List Int32) (K : mS → Prop) (k812 : Int32 × Int64 × Int32 × mS → Prop) (x1 : Int32) (x2 : Int64) (x4 : Int32) (S : mS) : Prop := ∀ z1 : Int32, z1 = nI nn → ((z1 ≤ x4 → K S) ∧ (¬ z1 ≤ x4 → inR x4 nn ∧ ∀ z3 : Int32, z3 = sx_c bs (ix x4) → ((¬ z3 = 32 → ∀ z5 : Int64, z5 = 37 * x2 → wp_rank z3 S (fun (S6 : mS) (r6 : Int32) => ∀ z7 : Int64, z7 = Int32.toInt64 r6 → ∀ z8 : Int64, z8 = z5 + z7 → ∀ z9 : Int32, z9 = x4 + 1 → k812 (x1, z8, z9, S6))) ∧ (z3 = 32 → inR x1 22 ∧ ∀ S10 : mS, S10 = sG S 4 (ix x1) x2 → ∀ z11 : Int32, z11 = x1 + 1 → ∀ z12 : Int32, z12 = x4 + 1 → k812 (z11, 0, z12, S10)))))
def ls_minit_812 (nn : Nat) (bs : List Int32) (K : mS → Prop) (k812 : Int32 × Int64 × Int32 × mS → Prop) (u : Int32 × Int64 × Int32 × mS) : Prop := wp_minit_812 nn bs K k812 u.1 u.2.1 u.2.2.1 u.2.2.2
def wp_minit (nn : Nat) (bs : List Int32) (S : mS) (K : mS → Prop) : Prop := (∃ n9, it (ls_minit_812 nn bs K) n9 (0, 0, 0, S))
set_option maxHeartbeats 4000000 in
set_option maxRecDepth 100000 in
theorem ct_minit {p : Program} {l : Launch} {e : Env} {R : Room} {s : State} {m : MethodId} {args : Array Value} {below : List Frame} {meth : Method} {c : Code} {A : Nat → Prop} {ls : Array Slot} {Q : State → Prop} {H : Heap} {locs : List Loc} {E : mE} {nn v : Nat} {bs : List Int32} {tx : String} (S : mS) (K : mS → Prop) (h : wp_minit nn bs S K) (hX : mX p s m args c cX12_init 6 E A) (hC : mC E A s.heap S H locs) (hvk : vk_R RX12 34 tx E.2.2.2.2 s) (hsx : sx_F E.2.2.2.2 v nn bs A s s.heap) (hsj : sj_F A s s.heap) (hn : nn < 2 ^ 31) (hl : lv_has ls 6 [(0, .ref E.2.1)]) (hRf : 8 ≤ R.frames) (hRl : 400 ≤ R.locals) (hRc : 89 ≤ R.cells) (hRs : 1127702 ≤ R.slots)
    (hret : ∀ (S1 : mS) (H : Heap) (locs : List Loc) (pc : Nat) (ls1 : Array Slot), mC E A s.heap S1 H locs → K S1 → decode cX12_init pc = .ok (.return_, 1) → W p l e R s m args below meth c H locs 89 1127702 Q (F0 m pc ls1 [])) : W p l e R s m args below meth c H locs 89 1127702 Q (F0 m 805 ls []) := by
  have hx := hX.1.1
  have hb := hX.1.2.1
  have hown := hX.1.2.2.2.1
  have hts := hX.1.2.2.2.2
  have cut812 : ∀ (n812 : Nat) (x1 : Int32) (x2 : Int64) (x4 : Int32) (S : mS) (H : Heap) (locs : List Loc) (ls : Array Slot), it (ls_minit_812 nn bs K) n812 (x1, x2, x4, S) → mC E A s.heap S H locs → lv_has ls 6 [(0, .ref E.2.1), (1, .int x1), (2, .long x2), (4, .int x4)] → W p l e R s m args below meth c H locs 89 1127702 Q (F0 m 812 ls []) := by
    intro n812
    induction n812 with
    | zero => intro x1 x2 x4 S H locs ls h hC hl; exact h.elim
    | succ n812 ih812 =>
      intro x1 x2 x4 S H locs ls h hC hl
      have h : wp_minit_812 nn bs K (it (ls_minit_812 nn bs K) n812) x1 x2 x4 S := h
      unfold wp_minit_812 at h
      refine lv_iload hx hb dX12_init_812 (lv_at hl 3 rfl) ?_
      refine va_ldcS hx hb hown hvk dX12_init_814 ?_
      refine mx_length (rest := [.int x4]) hX hC hsx hsj hn (cwV 0 hts (gd_V wd_1391 wd_40 wd_41 wd_3 wd_42) rfl rfl rfl (by decide +kernel) ⟨by show 1 + 1 ≤ R.frames; omega, by show 8 + (1 + 11) + 20 ≤ R.locals; omega⟩) hl.1 (Nat.le_of_ble_eq_true rfl) ⟨hRc, hRs⟩ dX12_init_816 (fun H locs hC => ?_)
      obtain ⟨z1, ez1⟩ : ∃ y : Int32, y = nI nn := ⟨_, rfl⟩
      rw [← ez1]
      have h := h z1 ez1
      refine lv_icmp_ge (tgt := 872) hx hb dX12_init_819 (by decide) (fun c2 => ?_) (fun c2 => ?_)
      · have h := h.1 c2
        exact hret _ _ _ _ _ hC h dX12_init_872
      · have h := h.2 c2
        refine va_ldcS hx hb hown hvk dX12_init_822 ?_
        refine lv_iload hx hb dX12_init_824 (lv_at hl 3 rfl) ?_
        refine mq_charAt (i := x4) (rest := []) hX hC hsx hsj hn h.1 (cwV 1 hts (gd_V wd_1392 wd_50 wd_51 wd_3 wd_52) rfl rfl rfl (by decide +kernel) ⟨by show 3 + 1 ≤ R.frames; omega, by show 8 + (2 + 11) + 64 ≤ R.locals; omega⟩) hl.1 (Nat.le_of_ble_eq_true rfl) ⟨hRc, hRs⟩ dX12_init_826 (fun H locs hC => ?_)
        obtain ⟨z3, ez3⟩ : ∃ y : Int32, y = sx_c bs (ix x4) := ⟨_, rfl⟩
        rw [← ez3]
        have h := h.2 z3 ez3
        refine lv_istore (lv' := [(5, .int z3), (0, .ref E.2.1), (1, .int x1), (2, .long x2), (4, .int x4)]) hx hb dX12_init_829 hl (by decide) rfl (fun ls hl => ?_)
        refine lv_iload hx hb dX12_init_831 (lv_at hl 0 rfl) ?_
        refine lv_bipush (v := 32) hx hb dX12_init_833 (by decide) ?_
        refine lv_icmp_ne (tgt := 853) hx hb dX12_init_835 (by decide) (fun c4 => ?_) (fun c4 => ?_)
        · have h := h.1 c4
          refine lv_ldc2 (v := 37) hx hb hown (hts _ wd_1393) dX12_init_853 ?_
          refine lv_lload_n hx hb dX12_init_856 rfl (lv_at hl 3 rfl) ?_
          refine lq_lmul hx hb dX12_init_857 h (fun z5 h => ?_)
          refine lv_iload hx hb dX12_init_858 (lv_at hl 0 rfl) ?_
          refine mv_calls1 [.int z3] (rest := [.long z5]) hX hC (ct_rank l S z3 _ h E _) (cw_X12_rank hts (by omega) (by omega)) rfl hl.1 (Nat.le_of_ble_eq_true rfl) ⟨hRc, hRs⟩ dX12_init_860 (fun r6 S6 H locs hC h => ?_)
          refine lq_i2l hx hb dX12_init_863 h (fun z7 h => ?_)
          refine lq_ladd hx hb dX12_init_864 h (fun z8 h => ?_)
          refine lv_lstore_n (lv' := [(2, .long z8), (5, .int z3), (0, .ref E.2.1), (1, .int x1), (4, .int x4)]) hx hb dX12_init_865 rfl hl (by decide) rfl (fun ls hl => ?_)
          obtain ⟨z9, ez9⟩ : ∃ y : Int32, y = x4 + 1 := ⟨_, rfl⟩
          have h := h z9 ez9
          refine lv_iinc (v := z9) (lv' := [(4, .int z9), (2, .long z8), (5, .int z3), (0, .ref E.2.1), (1, .int x1)]) hx hb dX12_init_866 hl (k := 4) rfl (by rw [ez9]; rfl) (by decide) rfl (fun ls hl => ?_)
          refine lv_goto (tgt := 812) hx hb dX12_init_869 (by decide) ?_
          exact ih812 x1 z8 z9 S6 _ _ _ h hC (lv_sub hl [3, 4, 1, 0] rfl)
        · have h := h.2 c4
          refine lv_aload_n hx hb dX12_init_838 rfl (lv_at hl 1 rfl) ?_
          refine mv_get (v := .ref (E.2.2.1 4)) hX hC 10 (Nat.le_of_ble_eq_true rfl) wd_1410 rfl dX12_init_839 ?_
          refine lv_iload_n hx hb dX12_init_842 rfl (lv_at hl 2 rfl) ?_
          refine lv_lload_n hx hb dX12_init_843 rfl (lv_at hl 3 rfl) ?_
          refine mq_lst (n := 22) (v := x2) hX hC 4 rfl rfl mf_4 dX12_init_844 h.1 h.2 (fun S10 H locs hC h => ?_)
          obtain ⟨z11, ez11⟩ : ∃ y : Int32, y = x1 + 1 := ⟨_, rfl⟩
          have h := h z11 ez11
          refine lv_iinc (v := z11) (lv' := [(1, .int z11), (5, .int z3), (0, .ref E.2.1), (2, .long x2), (4, .int x4)]) hx hb dX12_init_845 hl (k := 2) rfl (by rw [ez11]; rfl) (by decide) rfl (fun ls hl => ?_)
          refine lv_lconst (v := 0) hx hb dX12_init_848 (by decide) ?_
          refine lv_lstore_n (lv' := [(2, .long 0), (1, .int z11), (5, .int z3), (0, .ref E.2.1), (4, .int x4)]) hx hb dX12_init_849 rfl hl (by decide) rfl (fun ls hl => ?_)
          refine lv_goto (tgt := 866) hx hb dX12_init_850 (by decide) ?_
          obtain ⟨z12, ez12⟩ : ∃ y : Int32, y = x4 + 1 := ⟨_, rfl⟩
          have h := h z12 ez12
          refine lv_iinc (v := z12) (lv' := [(4, .int z12), (2, .long 0), (1, .int z11), (5, .int z3), (0, .ref E.2.1)]) hx hb dX12_init_866 hl (k := 4) rfl (by rw [ez12]; rfl) (by decide) rfl (fun ls hl => ?_)
          refine lv_goto (tgt := 812) hx hb dX12_init_869 (by decide) ?_
          exact ih812 z11 0 z12 S10 _ _ _ h hC (lv_sub hl [4, 2, 1, 0] rfl)
  unfold wp_minit at h
  refine lv_iconst (v := 0) hx hb dX12_init_805 (by decide) ?_
  refine lv_istore_n (lv' := [(1, .int 0), (0, .ref E.2.1)]) hx hb dX12_init_806 rfl hl (by decide) rfl (fun ls hl => ?_)
  refine lv_lconst (v := 0) hx hb dX12_init_807 (by decide) ?_
  refine lv_lstore_n (lv' := [(2, .long 0), (1, .int 0), (0, .ref E.2.1)]) hx hb dX12_init_808 rfl hl (by decide) rfl (fun ls hl => ?_)
  refine lv_iconst (v := 0) hx hb dX12_init_809 (by decide) ?_
  refine lv_istore (lv' := [(4, .int 0), (2, .long 0), (1, .int 0), (0, .ref E.2.1)]) hx hb dX12_init_810 hl (by decide) rfl (fun ls hl => ?_)
  obtain ⟨n9, h⟩ := h
  exact cut812 n9 0 0 0 S _ _ _ h hC (lv_sub hl [3, 2, 1, 0] rfl)
