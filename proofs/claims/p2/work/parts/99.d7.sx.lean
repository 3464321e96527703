
theorem mx_length {p : Program} {l : Launch} {e : Env} {R : Room} {s : State} {m : MethodId} {args : Array Value} {below : List Frame} {meth : Method} {c : Code} {H : Heap} {locs : List Loc} {cells slots : Nat} {Q : State → Prop} {cc : ByteArray} {nL pc index : Nat} {ls : Array Slot} {rest : List Value} {E : mE} {A : Nat → Prop} {S : mS} {own : String} (hX : mXo own p s m args c cc nL E A) (hC : mC E A s.heap S H locs) {a v n : Nat} {bs : List Int32} (hsx : sx_F a v n bs A s s.heap) (hsj : sj_F A s s.heap) (hn : n < 2 ^ 31) (cw : CallW R s args own RJ0 index yJ0_length_8abf5 cJ0_length_8abf5 1 (some .int) (.code yJ0_length_8abf5 cJ0_length_8abf5 1 (some .int) :: tb) ({ frames := 1, cells := 0, slots := 0, locals := 20 }) 0 0 0) (hls : ls.size = nL) (hW : (rest.map fun v => v.category).sum ≤ 8) (hf : cells ≤ R.cells ∧ slots ≤ R.slots) (hd : decode cc pc = .ok (.invokevirtual index, 3)) (kk : ∀ (H1 : Heap) (locs1 : List Loc), mC E A s.heap S H1 locs1 → W p l e R s m args below meth c H1 locs1 cells slots Q (F0 m (pc + 3) ls (.int (nI n) :: rest))) : W p l e R s m args below meth c H locs cells slots Q (F0 m pc ls (.ref a :: rest)) := by
  have hFc : ∀ q, va_A [] H.size q → A q := fun q h => by
    rcases h with ⟨k, e9, h⟩ | h
    · simp at h
    · exact hX.2.2 q (Nat.le_trans hC.2.2.1 h)
  refine va_calli (va_runV (As := []) (rest := rest) hX.1 (ct_J0_length_8abf5 l E.1.1 E.1.2 a v n bs H.size hn) cw ⟨fun a U g mk q => by
    obtain ⟨q0, q1, qP, qK, qD, qZ0, qZ1⟩ := q
    exact ⟨q0, q1, qP, va_K.moved (u := U) (U := U.calling g mk a) (Vm.Alike.refl U.vm) qK, qD, sx_F.moved (u := U) (U := U.calling g mk a) (Vm.Alike.refl U.vm) qZ0, sj_F.moved (u := U) (U := U.calling g mk a) (Vm.Alike.refl U.vm) qZ1⟩, sx_recv hsx hC.2.2, fun U hU hW => ⟨rfl, by rw [hU], fun k q h => by simp at h, va_K.moved hW.alike ⟨hX.2.1.1, fun k q h => by simp at h⟩, ⟨fun i j p q h => by simp at h, fun k q h => by simp at h⟩, by rw [hU]; exact ((hsx.kept hC.2.2.2.1).narrow hFc).moved hW.alike, by rw [hU]; exact ((hsj.kept hC.2.2.2.1).narrow hFc).moved hW.alike⟩⟩ rfl rfl hls rfl (lv_room hW) hd hf) hC.2.2 (fun q _ h => hFc q h) hFc (fun r u t H1 locs1 ht hvm hw hB hz1 hk1 hS1 => ?_)
  subst hw
  refine kk H1 locs1 ⟨hC.1.kept (fun k q hk => ?_), hC.2.1, hS1⟩
  have hlt := (hC.1 k q hk).lt
  refine hk1 q.1 hlt (fun h => ?_)
  rcases h with ⟨k, e9, h⟩ | h
  · simp at h
  · exact absurd h (Nat.not_le.mpr hlt)
theorem mx_charAt {p : Program} {l : Launch} {e : Env} {R : Room} {s : State} {m : MethodId} {args : Array Value} {below : List Frame} {meth : Method} {c : Code} {H : Heap} {locs : List Loc} {cells slots : Nat} {Q : State → Prop} {cc : ByteArray} {nL pc index : Nat} {ls : Array Slot} {rest : List Value} {E : mE} {A : Nat → Prop} {S : mS} {own : String} (hX : mXo own p s m args c cc nL E A) (hC : mC E A s.heap S H locs) {a v n k : Nat} {bs : List Int32} (hsx : sx_F a v n bs A s s.heap) (hsj : sj_F A s s.heap) (hn : n < 2 ^ 31) (hk : k < n) (cw : CallW R s args own RJ0 index yJ0_charAt_5068e cJ0_charAt_5068e 2 (some .char) (.code yJ0_charAt_5068e cJ0_charAt_5068e 2 (some .char) :: tb) ({ frames := 3, cells := 0, slots := 0, locals := 64 }) 0 0 1) (hls : ls.size = nL) (hW : (rest.map fun v => v.category).sum ≤ 8) (hf : cells ≤ R.cells ∧ slots ≤ R.slots) (hd : decode cc pc = .ok (.invokevirtual index, 3)) (kk : ∀ (H1 : Heap) (locs1 : List Loc), mC E A s.heap S H1 locs1 → W p l e R s m args below meth c H1 locs1 cells slots Q (F0 m (pc + 3) ls (.int (sx_c bs k) :: rest))) : W p l e R s m args below meth c H locs cells slots Q (F0 m pc ls (.int (nI k) :: .ref a :: rest)) := by
  have hFc : ∀ q, va_A [] H.size q → A q := fun q h => by
    rcases h with ⟨k, e9, h⟩ | h
    · simp at h
    · exact hX.2.2 q (Nat.le_trans hC.2.2.1 h)
  refine va_calli (va_runV (As := [.int (nI k)]) (rest := rest) hX.1 (ct_J0_charAt_5068e l E.1.1 E.1.2 a v n bs k H.size hn hk) cw ⟨fun a U g mk q => by
    obtain ⟨q0, q1, qP, qK, qD, qZ0, qZ1⟩ := q
    exact ⟨q0, q1, qP, va_K.moved (u := U) (U := U.calling g mk a) (Vm.Alike.refl U.vm) qK, qD, sx_F.moved (u := U) (U := U.calling g mk a) (Vm.Alike.refl U.vm) qZ0, sj_F.moved (u := U) (U := U.calling g mk a) (Vm.Alike.refl U.vm) qZ1⟩, sx_recv hsx hC.2.2, fun U hU hW => ⟨rfl, by rw [hU], fun k q h => by simp at h, va_K.moved hW.alike ⟨hX.2.1.1, fun k q h => by simp at h⟩, ⟨fun i j p q h => by simp at h, fun k q h => by simp at h⟩, by rw [hU]; exact ((hsx.kept hC.2.2.2.1).narrow hFc).moved hW.alike, by rw [hU]; exact ((hsj.kept hC.2.2.2.1).narrow hFc).moved hW.alike⟩⟩ rfl rfl hls rfl (lv_room hW) hd hf) hC.2.2 (fun q _ h => hFc q h) hFc (fun r u t H1 locs1 ht hvm hw hB hz1 hk1 hS1 => ?_)
  subst hw
  refine kk H1 locs1 ⟨hC.1.kept (fun k q hk => ?_), hC.2.1, hS1⟩
  have hlt := (hC.1 k q hk).lt
  refine hk1 q.1 hlt (fun h => ?_)
  rcases h with ⟨k, e9, h⟩ | h
  · simp at h
  · exact absurd h (Nat.not_le.mpr hlt)
