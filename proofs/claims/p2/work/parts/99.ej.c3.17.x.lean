
theorem PT_of {t0 tk pg sc q i : Nat} {r v : Int32} {S S1 : kS} (e : S1 = cA S q i v) (h : ∀ g b j, ar S1 g b j = if g = 29 ∧ b = pg ∧ j = ix r then v else ar S g b j) (h0 : 0 ≤ r.toInt) : jPT r.toInt v.toInt (vw t0 tk pg sc S) (vw t0 tk pg sc S1) := by
  refine ⟨fun j => ?_, fun f _ => ?_, fun f hf _ => ?_⟩
  · show (ar S1 29 pg j).toInt = if _ then _ else (ar S 29 pg j).toInt
    have e9 : j = ix r ↔ (j : Int) = r.toInt := by unfold ix; omega
    rw [h 29 pg j]
    rcases Decidable.em (j = ix r) with c | c
    · rw [if_pos ⟨rfl, rfl, c⟩, if_pos (e9.mp c)]
    · rw [if_neg (fun q => c q.2.2), if_neg (fun q => c (e9.mpr q))]
  · subst e
    rfl
  · have hf9 : f ≠ 29 := fun q => hf (by rw [q]; decide)
    funext j
    unfold vw
    dsimp only
    rcases Decidable.em (f = 149) with c | c
    · rw [if_pos c, if_pos c, h 49 sc j, if_neg (fun q : (49 : Nat) = 29 ∧ sc = pg ∧ j = ix r => absurd q.1 (by decide))]
    · rw [if_neg c, if_neg c, h f _ j]
      rw [if_neg]
      exact fun q => hf9 q.1
theorem LKa {V : PV} {z : Int} (hL : LK V) (hG : RG V) (q : V.1 7 = 0) (e : z = V.1 9) (h0 : 0 ≤ z) : 0 ≤ z ∧ z < V.1 25 ∧ onc (V.1 24) (V.2 43) (V.1 8) (V.2 50 z.toNat) := by
  have b7 := hG.2.2.2.2.2.2.2.1
  subst e
  exact ⟨h0, b7.2, hL q h0⟩
theorem Rx_mk {V V1 : PV} (hv : VF [] [49] V V1) (h : V1.2 149 = V.2 149) : Rx 0 V V1 := by
  have i1 : V1.1 = V.1 := funext (fun f => hv.1 f List.not_mem_nil)
  have r : ∀ f, f ≠ 49 → f ≠ 149 → V1.2 f = V.2 f := fun f hf h9 => hv.2 f (fun q => hf (List.mem_singleton.mp q)) (fun e => absurd e h9)
  have r28 := r 28 (by decide) (by decide)
  have r29 := r 29 (by decide) (by decide)
  have r30 := r 30 (by decide) (by decide)
  have r43 := r 43 (by decide) (by decide)
  have r44 := r 44 (by decide) (by decide)
  have r46 := r 46 (by decide) (by decide)
  have r47 := r 47 (by decide) (by decide)
  have r48 := r 48 (by decide) (by decide)
  have r50 := r 50 (by decide) (by decide)
  have r51 := r 51 (by decide) (by decide)
  have r52 := r 52 (by decide) (by decide)
  refine Rx_of (fun g => RG_ir (hv_sub hv (by decide) (by decide)) g) ⟨by rw [i1], r 64 (by decide) (by decide), r 65 (by decide) (by decide), by rw [i1]; exact Int.le_refl _, by rw [i1]; exact Int.le_refl _⟩ (fun q => by rw [i1] at q; exact q) ⟨by rw [i1], by rw [i1], by rw [i1], r 32 (by decide) (by decide), STf_v hv (by decide) (by decide)⟩ (fun _ => ?_)
  have x := EX_rf (V := V)
  unfold EX jKP jNW ACT LPO TRO jTG CP at x ⊢
  rw [i1, r28, r29, r30, r43, r44, r46, r47, r48, r50, r51, r52, h]
  exact x
